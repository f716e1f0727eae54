theorem dX6_isNew_0 : decode cX6_isNew 0 = .ok (.aload_n 0, 1) := by decide +kernel
theorem dX6_isNew_1 : decode cX6_isNew 1 = .ok (.iload_n 1, 1) := by decide +kernel
theorem dX6_isNew_2 : decode cX6_isNew 2 = .ok (.invokevirtual 60, 3) := by decide +kernel
theorem dX6_isNew_5 : decode cX6_isNew 5 = .ok (.ifCond .eq 14, 3) := by decide +kernel
theorem dX6_isNew_8 : decode cX6_isNew 8 = .ok (.iload_n 2, 1) := by decide +kernel
theorem dX6_isNew_9 : decode cX6_isNew 9 = .ok (.invokestatic 204, 3) := by decide +kernel
theorem dX6_isNew_12 : decode cX6_isNew 12 = .ok (.ifCond .eq 7, 3) := by decide +kernel
theorem dX6_isNew_15 : decode cX6_isNew 15 = .ok (.iconst 1, 1) := by decide +kernel
theorem dX6_isNew_16 : decode cX6_isNew 16 = .ok (.goto 4, 3) := by decide +kernel
theorem dX6_isNew_19 : decode cX6_isNew 19 = .ok (.iconst 0, 1) := by decide +kernel
theorem dX6_isNew_20 : decode cX6_isNew 20 = .ok (.invokestatic 63, 3) := by decide +kernel
theorem dX6_isNew_23 : decode cX6_isNew 23 = .ok (.aload_n 0, 1) := by decide +kernel
theorem dX6_isNew_24 : decode cX6_isNew 24 = .ok (.getfield 25, 3) := by decide +kernel
theorem dX6_isNew_27 : decode cX6_isNew 27 = .ok (.iload_n 1, 1) := by decide +kernel
theorem dX6_isNew_28 : decode cX6_isNew 28 = .ok (.aload_n 0, 1) := by decide +kernel
theorem dX6_isNew_29 : decode cX6_isNew 29 = .ok (.getfield 32, 3) := by decide +kernel
theorem dX6_isNew_32 : decode cX6_isNew 32 = .ok (.iconst 1, 1) := by decide +kernel
theorem dX6_isNew_33 : decode cX6_isNew 33 = .ok (.invokevirtual 220, 3) := by decide +kernel
theorem dX6_isNew_36 : decode cX6_isNew 36 = .ok (.aload_n 0, 1) := by decide +kernel
theorem dX6_isNew_37 : decode cX6_isNew 37 = .ok (.iload_n 2, 1) := by decide +kernel
theorem dX6_isNew_38 : decode cX6_isNew 38 = .ok (.invokevirtual 224, 3) := by decide +kernel
theorem dX6_isNew_41 : decode cX6_isNew 41 = .ok (.istore_n 3, 1) := by decide +kernel
theorem dX6_isNew_42 : decode cX6_isNew 42 = .ok (.iload_n 3, 1) := by decide +kernel
theorem dX6_isNew_43 : decode cX6_isNew 43 = .ok (.iconst (-1), 1) := by decide +kernel
theorem dX6_isNew_44 : decode cX6_isNew 44 = .ok (.if_icmp .eq 26, 3) := by decide +kernel
theorem dX6_isNew_47 : decode cX6_isNew 47 = .ok (.aload_n 0, 1) := by decide +kernel
theorem dX6_isNew_48 : decode cX6_isNew 48 = .ok (.getfield 16, 3) := by decide +kernel
theorem dX6_isNew_51 : decode cX6_isNew 51 = .ok (.iload_n 3, 1) := by decide +kernel
theorem dX6_isNew_52 : decode cX6_isNew 52 = .ok (.invokevirtual 66, 3) := by decide +kernel
theorem dX6_isNew_55 : decode cX6_isNew 55 = .ok (.checkcast 84, 3) := by decide +kernel
theorem dX6_isNew_58 : decode cX6_isNew 58 = .ok (.iload_n 1, 1) := by decide +kernel
theorem dX6_isNew_59 : decode cX6_isNew 59 = .ok (.iload_n 2, 1) := by decide +kernel
theorem dX6_isNew_60 : decode cX6_isNew 60 = .ok (.invokevirtual 227, 3) := by decide +kernel
theorem dX6_isNew_63 : decode cX6_isNew 63 = .ok (.ifnull 7, 3) := by decide +kernel
theorem dX6_isNew_66 : decode cX6_isNew 66 = .ok (.iconst 1, 1) := by decide +kernel
theorem dX6_isNew_67 : decode cX6_isNew 67 = .ok (.goto 4, 3) := by decide +kernel
theorem dX6_isNew_70 : decode cX6_isNew 70 = .ok (.iconst 0, 1) := by decide +kernel
theorem dX6_isNew_71 : decode cX6_isNew 71 = .ok (.ireturn, 1) := by decide +kernel
set_option maxRecDepth 20000 in
theorem ggX6_uses_X6_isClient : GoodIn wsX6_uses wsX6_isClient := goodIn_r _ [6, 7, 8, 9, 10, 11, 12, 13, 131, 132, 133, 134, 135, 145, 146, 147] (by decide +kernel) (by decide +kernel)
set_option maxRecDepth 20000 in
theorem gX6_uses_X6_isClient : GoodIn wsX6_uses (wsV RX6 60 RX6 yX6_isClient wsX6_isClient) := goodIn_app (goodIn_of _ (by decide +kernel)) ggX6_uses_X6_isClient
set_option maxRecDepth 20000 in
theorem ggX6_uses_X6_isSetting : GoodIn wsX6_uses wsX6_isSetting := goodIn_r _ [16] (by decide +kernel) (by decide +kernel)
set_option maxRecDepth 20000 in
theorem gX6_uses_X6_isSetting : GoodIn wsX6_uses (va_wsS RX6 204 yX6_isSetting wsX6_isSetting) := goodIn_app (goodIn_of _ (by decide +kernel)) ggX6_uses_X6_isSetting
set_option maxRecDepth 20000 in
theorem ggX6_uses_X6_checkThere : GoodIn wsX6_uses wsX6_checkThere := goodIn_ca (goodIn_r _ [19, 20, 21] (by decide +kernel) (by decide +kernel)) (goodIn_sub (fun _ h => List.mem_cons_of_mem _ (List.mem_append_right _ h)) (by decide +kernel))
set_option maxRecDepth 20000 in
theorem gX6_uses_X6_checkThere : GoodIn wsX6_uses (va_wsS RX6 63 yX6_checkThere wsX6_checkThere) := goodIn_app (goodIn_of _ (by decide +kernel)) ggX6_uses_X6_checkThere
set_option maxRecDepth 20000 in
theorem ggX6_uses_X6_ask : GoodIn wsX6_uses wsX6_ask := goodIn_r _ [25, 1, 26, 27, 28, 29, 30, 31, 32, 33, 34, 35, 36, 37, 38, 39, 40, 41, 42, 5, 43, 44, 45, 46, 47, 48, 49, 50, 51, 52, 53, 54, 55, 56, 57, 58, 59, 60, 61, 62, 63, 8, 9, 10, 11, 12, 13, 64, 65, 66, 67, 68, 7, 69, 70, 71, 72, 73, 74, 75, 76, 77, 78, 79, 80, 81, 82, 83, 84, 85, 86, 87, 88, 89, 90, 91, 92, 93, 94, 95, 96, 97, 98, 99, 100, 101, 102, 103, 104, 105, 106, 107, 108, 109, 110, 111, 112, 113, 114, 115, 116, 117, 118, 119, 120, 121, 122, 123, 124, 125, 126, 127, 128, 129, 130, 131, 132, 133, 134, 135, 136, 137, 138, 139, 140, 141, 142, 143, 144, 148, 149, 150, 145, 146, 147, 151, 152, 153, 154, 155, 156, 157, 158, 159, 160, 161, 162] (by decide +kernel) (by decide +kernel)
set_option maxRecDepth 20000 in
theorem gX6_uses_X6_ask : GoodIn wsX6_uses (wsV RX6 207 RX6 yX6_ask wsX6_ask) := goodIn_app (goodIn_of _ (by decide +kernel)) ggX6_uses_X6_ask
theorem dX6_uses_0 : decode cX6_uses 0 = .ok (.aload_n 0, 1) := by decide +kernel
theorem dX6_uses_1 : decode cX6_uses 1 = .ok (.iload_n 1, 1) := by decide +kernel
theorem dX6_uses_2 : decode cX6_uses 2 = .ok (.invokevirtual 60, 3) := by decide +kernel
theorem dX6_uses_5 : decode cX6_uses 5 = .ok (.ifCond .eq 14, 3) := by decide +kernel
theorem dX6_uses_8 : decode cX6_uses 8 = .ok (.iload_n 2, 1) := by decide +kernel
theorem dX6_uses_9 : decode cX6_uses 9 = .ok (.invokestatic 204, 3) := by decide +kernel
theorem dX6_uses_12 : decode cX6_uses 12 = .ok (.ifCond .eq 7, 3) := by decide +kernel
theorem dX6_uses_15 : decode cX6_uses 15 = .ok (.iconst 1, 1) := by decide +kernel
theorem dX6_uses_16 : decode cX6_uses 16 = .ok (.goto 4, 3) := by decide +kernel
theorem dX6_uses_19 : decode cX6_uses 19 = .ok (.iconst 0, 1) := by decide +kernel
theorem dX6_uses_20 : decode cX6_uses 20 = .ok (.invokestatic 63, 3) := by decide +kernel
theorem dX6_uses_23 : decode cX6_uses 23 = .ok (.aload_n 0, 1) := by decide +kernel
theorem dX6_uses_24 : decode cX6_uses 24 = .ok (.iload_n 1, 1) := by decide +kernel
theorem dX6_uses_25 : decode cX6_uses 25 = .ok (.iload_n 2, 1) := by decide +kernel
theorem dX6_uses_26 : decode cX6_uses 26 = .ok (.invokevirtual 207, 3) := by decide +kernel
theorem dX6_uses_29 : decode cX6_uses 29 = .ok (.aload_n 0, 1) := by decide +kernel
theorem dX6_uses_30 : decode cX6_uses 30 = .ok (.getfield 25, 3) := by decide +kernel
theorem dX6_uses_33 : decode cX6_uses 33 = .ok (.getfield 230, 3) := by decide +kernel
theorem dX6_uses_36 : decode cX6_uses 36 = .ok (.ireturn, 1) := by decide +kernel
set_option maxRecDepth 20000 in
theorem ggX6_found_X6_isClient : GoodIn wsX6_found wsX6_isClient := goodIn_r _ [6, 7, 8, 9, 10, 11, 12, 13, 128, 129, 130, 131, 132, 142, 143, 144] (by decide +kernel) (by decide +kernel)
set_option maxRecDepth 20000 in
theorem gX6_found_X6_isClient : GoodIn wsX6_found (wsV RX6 60 RX6 yX6_isClient wsX6_isClient) := goodIn_app (goodIn_of _ (by decide +kernel)) ggX6_found_X6_isClient
set_option maxRecDepth 20000 in
theorem ggX6_found_X6_checkThere : GoodIn wsX6_found wsX6_checkThere := goodIn_ca (goodIn_r _ [16, 17, 18] (by decide +kernel) (by decide +kernel)) (goodIn_sub (fun _ h => List.mem_cons_of_mem _ (List.mem_append_right _ h)) (by decide +kernel))
set_option maxRecDepth 20000 in
theorem gX6_found_X6_checkThere : GoodIn wsX6_found (va_wsS RX6 63 yX6_checkThere wsX6_checkThere) := goodIn_app (goodIn_of _ (by decide +kernel)) ggX6_found_X6_checkThere
set_option maxRecDepth 20000 in
theorem ggX6_found_X6_ask : GoodIn wsX6_found wsX6_ask := goodIn_r _ [22, 1, 23, 24, 25, 26, 27, 28, 29, 30, 31, 32, 33, 34, 35, 36, 37, 38, 39, 5, 40, 41, 42, 43, 44, 45, 46, 47, 48, 49, 50, 51, 52, 53, 54, 55, 56, 57, 58, 59, 60, 8, 9, 10, 11, 12, 13, 61, 62, 63, 64, 65, 7, 66, 67, 68, 69, 70, 71, 72, 73, 74, 75, 76, 77, 78, 79, 80, 81, 82, 83, 84, 85, 86, 87, 88, 89, 90, 91, 92, 93, 94, 95, 96, 97, 98, 99, 100, 101, 102, 103, 104, 105, 106, 107, 108, 109, 110, 111, 112, 113, 114, 115, 116, 117, 118, 119, 120, 121, 122, 123, 124, 125, 126, 127, 128, 129, 130, 131, 132, 133, 134, 135, 136, 137, 138, 139, 140, 141, 145, 146, 147, 142, 143, 144, 148, 149, 150, 151, 152, 153, 154, 155, 156, 157, 158, 159] (by decide +kernel) (by decide +kernel)
set_option maxRecDepth 20000 in
theorem gX6_found_X6_ask : GoodIn wsX6_found (wsV RX6 207 RX6 yX6_ask wsX6_ask) := goodIn_app (goodIn_of _ (by decide +kernel)) ggX6_found_X6_ask
set_option maxRecDepth 20000 in
theorem ggX6_found_X6_bit : GoodIn wsX6_found wsX6_bit := goodIn_r _ [43] (by decide +kernel) (by decide +kernel)
set_option maxRecDepth 20000 in
theorem gX6_found_X6_bit : GoodIn wsX6_found (va_wsS RX6 233 yX6_bit wsX6_bit) := goodIn_app (goodIn_of _ (by decide +kernel)) ggX6_found_X6_bit
theorem dX6_found_0 : decode cX6_found 0 = .ok (.aload_n 0, 1) := by decide +kernel
theorem dX6_found_1 : decode cX6_found 1 = .ok (.iload_n 1, 1) := by decide +kernel
theorem dX6_found_2 : decode cX6_found 2 = .ok (.invokevirtual 60, 3) := by decide +kernel
theorem dX6_found_5 : decode cX6_found 5 = .ok (.invokestatic 63, 3) := by decide +kernel
theorem dX6_found_8 : decode cX6_found 8 = .ok (.iconst 0, 1) := by decide +kernel
theorem dX6_found_9 : decode cX6_found 9 = .ok (.istore_n 2, 1) := by decide +kernel
theorem dX6_found_10 : decode cX6_found 10 = .ok (.iconst 0, 1) := by decide +kernel
theorem dX6_found_11 : decode cX6_found 11 = .ok (.istore_n 3, 1) := by decide +kernel
theorem dX6_found_12 : decode cX6_found 12 = .ok (.iload_n 3, 1) := by decide +kernel
theorem dX6_found_13 : decode cX6_found 13 = .ok (.bipush 16, 2) := by decide +kernel
theorem dX6_found_15 : decode cX6_found 15 = .ok (.if_icmp .ge 32, 3) := by decide +kernel
theorem dX6_found_18 : decode cX6_found 18 = .ok (.aload_n 0, 1) := by decide +kernel
theorem dX6_found_19 : decode cX6_found 19 = .ok (.iload_n 1, 1) := by decide +kernel
theorem dX6_found_20 : decode cX6_found 20 = .ok (.iload_n 3, 1) := by decide +kernel
theorem dX6_found_21 : decode cX6_found 21 = .ok (.invokevirtual 207, 3) := by decide +kernel
theorem dX6_found_24 : decode cX6_found 24 = .ok (.aload_n 0, 1) := by decide +kernel
theorem dX6_found_25 : decode cX6_found 25 = .ok (.getfield 25, 3) := by decide +kernel
theorem dX6_found_28 : decode cX6_found 28 = .ok (.getfield 210, 3) := by decide +kernel
theorem dX6_found_31 : decode cX6_found 31 = .ok (.ifCond .ne 10, 3) := by decide +kernel
theorem dX6_found_34 : decode cX6_found 34 = .ok (.iload_n 2, 1) := by decide +kernel
theorem dX6_found_35 : decode cX6_found 35 = .ok (.iload_n 3, 1) := by decide +kernel
theorem dX6_found_36 : decode cX6_found 36 = .ok (.invokestatic 233, 3) := by decide +kernel
theorem dX6_found_39 : decode cX6_found 39 = .ok (.ior, 1) := by decide +kernel
theorem dX6_found_40 : decode cX6_found 40 = .ok (.istore_n 2, 1) := by decide +kernel
theorem dX6_found_41 : decode cX6_found 41 = .ok (.iinc 3 1, 3) := by decide +kernel
theorem dX6_found_44 : decode cX6_found 44 = .ok (.goto (-32), 3) := by decide +kernel
theorem dX6_found_47 : decode cX6_found 47 = .ok (.iload_n 2, 1) := by decide +kernel
theorem dX6_found_48 : decode cX6_found 48 = .ok (.ireturn, 1) := by decide +kernel
set_option maxRecDepth 20000 in
theorem ggX6_differ_X6_isClient : GoodIn wsX6_differ wsX6_isClient := goodIn_r _ [5, 6, 7, 8, 9, 10, 11, 12, 132, 133, 134, 135, 136, 137, 138, 139] (by decide +kernel) (by decide +kernel)
set_option maxRecDepth 20000 in
theorem gX6_differ_X6_isClient : GoodIn wsX6_differ (wsV RX6 60 RX6 yX6_isClient wsX6_isClient) := goodIn_app (goodIn_of _ (by decide +kernel)) ggX6_differ_X6_isClient
set_option maxRecDepth 20000 in
theorem ggX6_differ_X6_checkThere : GoodIn wsX6_differ wsX6_checkThere := goodIn_ca (goodIn_r _ [15, 16, 17] (by decide +kernel) (by decide +kernel)) (goodIn_sub (fun _ h => List.mem_cons_of_mem _ (List.mem_append_right _ h)) (by decide +kernel))
set_option maxRecDepth 20000 in
theorem gX6_differ_X6_checkThere : GoodIn wsX6_differ (va_wsS RX6 63 yX6_checkThere wsX6_checkThere) := goodIn_app (goodIn_of _ (by decide +kernel)) ggX6_differ_X6_checkThere
set_option maxRecDepth 20000 in
theorem ggX6_differ_X6_differIn : GoodIn wsX6_differ wsX6_differIn := goodIn_r _ [21, 22, 23, 24, 25, 4, 26, 27, 28, 29, 30, 31, 32, 33, 34, 35, 36, 37, 38, 39, 40, 41, 42, 43, 44, 45, 46, 47, 48, 49, 50, 51, 52, 53, 54, 55, 56, 57, 58, 59, 60, 61, 62, 63, 64, 7, 8, 9, 10, 11, 12, 65, 66, 67, 68, 69, 6, 70, 71, 72, 73, 74, 75, 76, 77, 78, 79, 80, 81, 82, 83, 84, 85, 86, 87, 88, 89, 90, 91, 92, 93, 94, 95, 96, 97, 98, 99, 100, 101, 102, 103, 104, 105, 106, 107, 108, 109, 110, 111, 112, 113, 114, 115, 116, 117, 118, 119, 120, 121, 122, 123, 124, 125, 126, 127, 128, 129, 130, 131, 132, 133, 134, 135, 136, 140, 141, 142, 143, 144, 145, 146, 147, 148, 149, 150, 151, 137, 138, 139, 152, 153, 154, 155, 156, 157, 158, 159, 160, 161, 162, 163] (by decide +kernel) (by decide +kernel)
set_option maxRecDepth 20000 in
theorem gX6_differ_X6_differIn : GoodIn wsX6_differ (wsV RX6 236 RX6 yX6_differIn wsX6_differIn) := goodIn_app (goodIn_of _ (by decide +kernel)) ggX6_differ_X6_differIn
set_option maxRecDepth 20000 in
theorem ggX6_differ_X6_bit : GoodIn wsX6_differ wsX6_bit := goodIn_r _ [47] (by decide +kernel) (by decide +kernel)
set_option maxRecDepth 20000 in
theorem gX6_differ_X6_bit : GoodIn wsX6_differ (va_wsS RX6 233 yX6_bit wsX6_bit) := goodIn_app (goodIn_of _ (by decide +kernel)) ggX6_differ_X6_bit
theorem dX6_differ_0 : decode cX6_differ 0 = .ok (.aload_n 0, 1) := by decide +kernel
theorem dX6_differ_1 : decode cX6_differ 1 = .ok (.iload_n 1, 1) := by decide +kernel
theorem dX6_differ_2 : decode cX6_differ 2 = .ok (.invokevirtual 60, 3) := by decide +kernel
theorem dX6_differ_5 : decode cX6_differ 5 = .ok (.ifCond .eq 15, 3) := by decide +kernel
theorem dX6_differ_8 : decode cX6_differ 8 = .ok (.aload_n 0, 1) := by decide +kernel
theorem dX6_differ_9 : decode cX6_differ 9 = .ok (.iload_n 2, 1) := by decide +kernel
theorem dX6_differ_10 : decode cX6_differ 10 = .ok (.invokevirtual 60, 3) := by decide +kernel
theorem dX6_differ_13 : decode cX6_differ 13 = .ok (.ifCond .eq 7, 3) := by decide +kernel
theorem dX6_differ_16 : decode cX6_differ 16 = .ok (.iconst 1, 1) := by decide +kernel
theorem dX6_differ_17 : decode cX6_differ 17 = .ok (.goto 4, 3) := by decide +kernel
theorem dX6_differ_20 : decode cX6_differ 20 = .ok (.iconst 0, 1) := by decide +kernel
theorem dX6_differ_21 : decode cX6_differ 21 = .ok (.invokestatic 63, 3) := by decide +kernel
theorem dX6_differ_24 : decode cX6_differ 24 = .ok (.iconst 0, 1) := by decide +kernel
theorem dX6_differ_25 : decode cX6_differ 25 = .ok (.istore_n 3, 1) := by decide +kernel
theorem dX6_differ_26 : decode cX6_differ 26 = .ok (.iconst 0, 1) := by decide +kernel
theorem dX6_differ_27 : decode cX6_differ 27 = .ok (.istore 4, 2) := by decide +kernel
theorem dX6_differ_29 : decode cX6_differ 29 = .ok (.iload 4, 2) := by decide +kernel
theorem dX6_differ_31 : decode cX6_differ 31 = .ok (.bipush 16, 2) := by decide +kernel
theorem dX6_differ_33 : decode cX6_differ 33 = .ok (.if_icmp .ge 28, 3) := by decide +kernel
theorem dX6_differ_36 : decode cX6_differ 36 = .ok (.aload_n 0, 1) := by decide +kernel
theorem dX6_differ_37 : decode cX6_differ 37 = .ok (.iload_n 1, 1) := by decide +kernel
theorem dX6_differ_38 : decode cX6_differ 38 = .ok (.iload_n 2, 1) := by decide +kernel
theorem dX6_differ_39 : decode cX6_differ 39 = .ok (.iload 4, 2) := by decide +kernel
theorem dX6_differ_41 : decode cX6_differ 41 = .ok (.invokevirtual 236, 3) := by decide +kernel
theorem dX6_differ_44 : decode cX6_differ 44 = .ok (.ifCond .eq 11, 3) := by decide +kernel
theorem dX6_differ_47 : decode cX6_differ 47 = .ok (.iload_n 3, 1) := by decide +kernel
theorem dX6_differ_48 : decode cX6_differ 48 = .ok (.iload 4, 2) := by decide +kernel
theorem dX6_differ_50 : decode cX6_differ 50 = .ok (.invokestatic 233, 3) := by decide +kernel
theorem dX6_differ_53 : decode cX6_differ 53 = .ok (.ior, 1) := by decide +kernel
theorem dX6_differ_54 : decode cX6_differ 54 = .ok (.istore_n 3, 1) := by decide +kernel
theorem dX6_differ_55 : decode cX6_differ 55 = .ok (.iinc 4 1, 3) := by decide +kernel
theorem dX6_differ_58 : decode cX6_differ 58 = .ok (.goto (-29), 3) := by decide +kernel
theorem dX6_differ_61 : decode cX6_differ 61 = .ok (.iload_n 3, 1) := by decide +kernel
theorem dX6_differ_62 : decode cX6_differ 62 = .ok (.ireturn, 1) := by decide +kernel
set_option maxRecDepth 20000 in
theorem ggX6_statusAt_X6_isVersion : GoodIn wsX6_statusAt wsX6_isVersion := goodIn_r _ [6, 7, 8, 9, 10, 11, 12, 13, 136, 137, 138, 139, 140, 150, 151, 152] (by decide +kernel) (by decide +kernel)
set_option maxRecDepth 20000 in
theorem gX6_statusAt_X6_isVersion : GoodIn wsX6_statusAt (wsV RX6 193 RX6 yX6_isVersion wsX6_isVersion) := goodIn_app (goodIn_of _ (by decide +kernel)) ggX6_statusAt_X6_isVersion
set_option maxRecDepth 20000 in
theorem ggX6_statusAt_X6_isClient : GoodIn wsX6_statusAt wsX6_isClient := goodIn_r _ [17, 18, 8, 9, 10, 11, 12, 13, 136, 137, 138, 139, 140, 150, 151, 152] (by decide +kernel) (by decide +kernel)
set_option maxRecDepth 20000 in
theorem gX6_statusAt_X6_isClient : GoodIn wsX6_statusAt (wsV RX6 60 RX6 yX6_isClient wsX6_isClient) := goodIn_app (goodIn_of _ (by decide +kernel)) ggX6_statusAt_X6_isClient
set_option maxRecDepth 20000 in
theorem ggX6_statusAt_X6_isSetting : GoodIn wsX6_statusAt wsX6_isSetting := goodIn_r _ [21] (by decide +kernel) (by decide +kernel)
set_option maxRecDepth 20000 in
theorem gX6_statusAt_X6_isSetting : GoodIn wsX6_statusAt (va_wsS RX6 204 yX6_isSetting wsX6_isSetting) := goodIn_app (goodIn_of _ (by decide +kernel)) ggX6_statusAt_X6_isSetting
set_option maxRecDepth 20000 in
theorem ggX6_statusAt_X6_checkThere : GoodIn wsX6_statusAt wsX6_checkThere := goodIn_ca (goodIn_r _ [24, 25, 26] (by decide +kernel) (by decide +kernel)) (goodIn_sub (fun _ h => List.mem_cons_of_mem _ (List.mem_append_right _ h)) (by decide +kernel))
set_option maxRecDepth 20000 in
theorem gX6_statusAt_X6_checkThere : GoodIn wsX6_statusAt (va_wsS RX6 63 yX6_checkThere wsX6_checkThere) := goodIn_app (goodIn_of _ (by decide +kernel)) ggX6_statusAt_X6_checkThere
set_option maxRecDepth 20000 in
theorem ggX6_statusAt_X6_askAt : GoodIn wsX6_statusAt wsX6_askAt := goodIn_r _ [30, 1, 7, 31, 32, 33, 34, 11, 35, 13, 36, 37, 38, 39, 40, 41, 42, 43, 44, 45, 46, 47, 48, 49, 50, 51, 52, 53, 54, 55, 56, 57, 58, 59, 60, 61, 62, 63, 64, 5, 65, 66, 67, 68, 69, 70, 71, 72, 73, 74, 75, 76, 77, 78, 79, 80, 81, 82, 83, 84, 85, 8, 9, 10, 12, 86, 87, 88, 89, 90, 18, 91, 92, 93, 94, 95, 96, 97, 98, 99, 100, 101, 102, 103, 104, 105, 106, 107, 108, 109, 110, 111, 112, 113, 114, 115, 116, 117, 118, 119, 120, 121, 122, 123, 124, 125, 126, 127, 128, 129, 130, 131, 132, 133, 134, 135, 136, 137, 138, 139, 140, 150, 151, 152, 141, 142, 143, 144, 145, 146, 147, 148, 149, 153, 154, 155, 156, 157, 158, 159, 160, 161, 162, 163, 164, 165, 166, 167] (by decide +kernel) (by decide +kernel)
set_option maxRecDepth 20000 in
theorem gX6_statusAt_X6_askAt : GoodIn wsX6_statusAt (wsV RX6 239 RX6 yX6_askAt wsX6_askAt) := goodIn_app (goodIn_of _ (by decide +kernel)) ggX6_statusAt_X6_askAt
theorem dX6_statusAt_0 : decode cX6_statusAt 0 = .ok (.aload_n 0, 1) := by decide +kernel
theorem dX6_statusAt_1 : decode cX6_statusAt 1 = .ok (.iload_n 1, 1) := by decide +kernel
theorem dX6_statusAt_2 : decode cX6_statusAt 2 = .ok (.invokevirtual 193, 3) := by decide +kernel
theorem dX6_statusAt_5 : decode cX6_statusAt 5 = .ok (.ifCond .eq 22, 3) := by decide +kernel
theorem dX6_statusAt_8 : decode cX6_statusAt 8 = .ok (.aload_n 0, 1) := by decide +kernel
theorem dX6_statusAt_9 : decode cX6_statusAt 9 = .ok (.iload_n 2, 1) := by decide +kernel
theorem dX6_statusAt_10 : decode cX6_statusAt 10 = .ok (.invokevirtual 60, 3) := by decide +kernel
theorem dX6_statusAt_13 : decode cX6_statusAt 13 = .ok (.ifCond .eq 14, 3) := by decide +kernel
theorem dX6_statusAt_16 : decode cX6_statusAt 16 = .ok (.iload_n 3, 1) := by decide +kernel
theorem dX6_statusAt_17 : decode cX6_statusAt 17 = .ok (.invokestatic 204, 3) := by decide +kernel
theorem dX6_statusAt_20 : decode cX6_statusAt 20 = .ok (.ifCond .eq 7, 3) := by decide +kernel
theorem dX6_statusAt_23 : decode cX6_statusAt 23 = .ok (.iconst 1, 1) := by decide +kernel
theorem dX6_statusAt_24 : decode cX6_statusAt 24 = .ok (.goto 4, 3) := by decide +kernel
theorem dX6_statusAt_27 : decode cX6_statusAt 27 = .ok (.iconst 0, 1) := by decide +kernel
theorem dX6_statusAt_28 : decode cX6_statusAt 28 = .ok (.invokestatic 63, 3) := by decide +kernel
theorem dX6_statusAt_31 : decode cX6_statusAt 31 = .ok (.aload_n 0, 1) := by decide +kernel
theorem dX6_statusAt_32 : decode cX6_statusAt 32 = .ok (.iload_n 1, 1) := by decide +kernel
theorem dX6_statusAt_33 : decode cX6_statusAt 33 = .ok (.iload_n 2, 1) := by decide +kernel
theorem dX6_statusAt_34 : decode cX6_statusAt 34 = .ok (.iload_n 3, 1) := by decide +kernel
theorem dX6_statusAt_35 : decode cX6_statusAt 35 = .ok (.invokevirtual 239, 3) := by decide +kernel
theorem dX6_statusAt_38 : decode cX6_statusAt 38 = .ok (.aload_n 0, 1) := by decide +kernel
theorem dX6_statusAt_39 : decode cX6_statusAt 39 = .ok (.getfield 25, 3) := by decide +kernel
theorem dX6_statusAt_42 : decode cX6_statusAt 42 = .ok (.getfield 210, 3) := by decide +kernel
theorem dX6_statusAt_45 : decode cX6_statusAt 45 = .ok (.ireturn, 1) := by decide +kernel
set_option maxRecDepth 20000 in
theorem ggX6_valueAt_X6_isVersion : GoodIn wsX6_valueAt wsX6_isVersion := goodIn_r _ [6, 7, 8, 9, 10, 11, 12, 13, 141, 142, 143, 144, 145, 155, 156, 157] (by decide +kernel) (by decide +kernel)
set_option maxRecDepth 20000 in
theorem gX6_valueAt_X6_isVersion : GoodIn wsX6_valueAt (wsV RX6 193 RX6 yX6_isVersion wsX6_isVersion) := goodIn_app (goodIn_of _ (by decide +kernel)) ggX6_valueAt_X6_isVersion
set_option maxRecDepth 20000 in
theorem ggX6_valueAt_X6_isClient : GoodIn wsX6_valueAt wsX6_isClient := goodIn_r _ [17, 18, 8, 9, 10, 11, 12, 13, 141, 142, 143, 144, 145, 155, 156, 157] (by decide +kernel) (by decide +kernel)
set_option maxRecDepth 20000 in
theorem gX6_valueAt_X6_isClient : GoodIn wsX6_valueAt (wsV RX6 60 RX6 yX6_isClient wsX6_isClient) := goodIn_app (goodIn_of _ (by decide +kernel)) ggX6_valueAt_X6_isClient
set_option maxRecDepth 20000 in
theorem ggX6_valueAt_X6_isSetting : GoodIn wsX6_valueAt wsX6_isSetting := goodIn_r _ [21] (by decide +kernel) (by decide +kernel)
set_option maxRecDepth 20000 in
theorem gX6_valueAt_X6_isSetting : GoodIn wsX6_valueAt (va_wsS RX6 204 yX6_isSetting wsX6_isSetting) := goodIn_app (goodIn_of _ (by decide +kernel)) ggX6_valueAt_X6_isSetting
set_option maxRecDepth 20000 in
theorem ggX6_valueAt_X6_checkThere : GoodIn wsX6_valueAt wsX6_checkThere := goodIn_ca (goodIn_r _ [24, 25, 26] (by decide +kernel) (by decide +kernel)) (goodIn_sub (fun _ h => List.mem_cons_of_mem _ (List.mem_append_left _ (List.mem_append_right _ h))) (by decide +kernel))
set_option maxRecDepth 20000 in
theorem gX6_valueAt_X6_checkThere : GoodIn wsX6_valueAt (va_wsS RX6 63 yX6_checkThere wsX6_checkThere) := goodIn_app (goodIn_of _ (by decide +kernel)) ggX6_valueAt_X6_checkThere
set_option maxRecDepth 20000 in
theorem ggX6_valueAt_X6_askAt : GoodIn wsX6_valueAt wsX6_askAt := goodIn_r _ [30, 1, 7, 31, 32, 33, 34, 11, 35, 13, 36, 37, 38, 39, 40, 41, 42, 43, 44, 45, 46, 47, 48, 49, 50, 51, 52, 53, 54, 55, 56, 57, 58, 59, 60, 61, 62, 63, 64, 5, 65, 66, 67, 68, 69, 70, 71, 72, 73, 74, 75, 76, 77, 78, 79, 80, 81, 82, 83, 84, 85, 8, 9, 10, 12, 86, 87, 88, 89, 90, 18, 91, 92, 93, 94, 95, 96, 97, 98, 99, 100, 101, 102, 103, 104, 105, 106, 107, 108, 109, 110, 111, 112, 113, 114, 115, 116, 117, 118, 119, 120, 121, 122, 123, 124, 125, 126, 127, 128, 129, 130, 131, 132, 133, 134, 135, 141, 142, 143, 144, 145, 155, 156, 157, 146, 147, 148, 149, 150, 151, 152, 153, 154, 158, 159, 160, 161, 162, 163, 164, 165, 166, 167, 168, 169, 170, 171, 172] (by decide +kernel) (by decide +kernel)
set_option maxRecDepth 20000 in
theorem gX6_valueAt_X6_askAt : GoodIn wsX6_valueAt (wsV RX6 239 RX6 yX6_askAt wsX6_askAt) := goodIn_app (goodIn_of _ (by decide +kernel)) ggX6_valueAt_X6_askAt
set_option maxRecDepth 20000 in
theorem ggX6_valueAt_X6_checkState : GoodIn wsX6_valueAt wsX6_checkState := goodIn_ca (goodIn_r _ [138, 139, 140] (by decide +kernel) (by decide +kernel)) (goodIn_sub (fun _ h => List.mem_cons_of_mem _ (List.mem_append_right _ h)) (by decide +kernel))
set_option maxRecDepth 20000 in
theorem gX6_valueAt_X6_checkState : GoodIn wsX6_valueAt (va_wsS RX6 52 yX6_checkState wsX6_checkState) := goodIn_app (goodIn_of _ (by decide +kernel)) ggX6_valueAt_X6_checkState
theorem dX6_valueAt_0 : decode cX6_valueAt 0 = .ok (.aload_n 0, 1) := by decide +kernel
theorem dX6_valueAt_1 : decode cX6_valueAt 1 = .ok (.iload_n 1, 1) := by decide +kernel
theorem dX6_valueAt_2 : decode cX6_valueAt 2 = .ok (.invokevirtual 193, 3) := by decide +kernel
theorem dX6_valueAt_5 : decode cX6_valueAt 5 = .ok (.ifCond .eq 22, 3) := by decide +kernel
theorem dX6_valueAt_8 : decode cX6_valueAt 8 = .ok (.aload_n 0, 1) := by decide +kernel
theorem dX6_valueAt_9 : decode cX6_valueAt 9 = .ok (.iload_n 2, 1) := by decide +kernel
theorem dX6_valueAt_10 : decode cX6_valueAt 10 = .ok (.invokevirtual 60, 3) := by decide +kernel
theorem dX6_valueAt_13 : decode cX6_valueAt 13 = .ok (.ifCond .eq 14, 3) := by decide +kernel
theorem dX6_valueAt_16 : decode cX6_valueAt 16 = .ok (.iload_n 3, 1) := by decide +kernel
theorem dX6_valueAt_17 : decode cX6_valueAt 17 = .ok (.invokestatic 204, 3) := by decide +kernel
theorem dX6_valueAt_20 : decode cX6_valueAt 20 = .ok (.ifCond .eq 7, 3) := by decide +kernel
theorem dX6_valueAt_23 : decode cX6_valueAt 23 = .ok (.iconst 1, 1) := by decide +kernel
theorem dX6_valueAt_24 : decode cX6_valueAt 24 = .ok (.goto 4, 3) := by decide +kernel
theorem dX6_valueAt_27 : decode cX6_valueAt 27 = .ok (.iconst 0, 1) := by decide +kernel
theorem dX6_valueAt_28 : decode cX6_valueAt 28 = .ok (.invokestatic 63, 3) := by decide +kernel
theorem dX6_valueAt_31 : decode cX6_valueAt 31 = .ok (.aload_n 0, 1) := by decide +kernel
theorem dX6_valueAt_32 : decode cX6_valueAt 32 = .ok (.iload_n 1, 1) := by decide +kernel
theorem dX6_valueAt_33 : decode cX6_valueAt 33 = .ok (.iload_n 2, 1) := by decide +kernel
theorem dX6_valueAt_34 : decode cX6_valueAt 34 = .ok (.iload_n 3, 1) := by decide +kernel
theorem dX6_valueAt_35 : decode cX6_valueAt 35 = .ok (.invokevirtual 239, 3) := by decide +kernel
theorem dX6_valueAt_38 : decode cX6_valueAt 38 = .ok (.aload_n 0, 1) := by decide +kernel
theorem dX6_valueAt_39 : decode cX6_valueAt 39 = .ok (.getfield 25, 3) := by decide +kernel
theorem dX6_valueAt_42 : decode cX6_valueAt 42 = .ok (.getfield 210, 3) := by decide +kernel
theorem dX6_valueAt_45 : decode cX6_valueAt 45 = .ok (.ifCond .ne 7, 3) := by decide +kernel
theorem dX6_valueAt_48 : decode cX6_valueAt 48 = .ok (.iconst 1, 1) := by decide +kernel
theorem dX6_valueAt_49 : decode cX6_valueAt 49 = .ok (.goto 4, 3) := by decide +kernel
theorem dX6_valueAt_52 : decode cX6_valueAt 52 = .ok (.iconst 0, 1) := by decide +kernel
theorem dX6_valueAt_53 : decode cX6_valueAt 53 = .ok (.invokestatic 52, 3) := by decide +kernel
theorem dX6_valueAt_56 : decode cX6_valueAt 56 = .ok (.aload_n 0, 1) := by decide +kernel
theorem dX6_valueAt_57 : decode cX6_valueAt 57 = .ok (.getfield 25, 3) := by decide +kernel
theorem dX6_valueAt_60 : decode cX6_valueAt 60 = .ok (.getfield 213, 3) := by decide +kernel
theorem dX6_valueAt_63 : decode cX6_valueAt 63 = .ok (.iload_n 3, 1) := by decide +kernel
theorem dX6_valueAt_64 : decode cX6_valueAt 64 = .ok (.laload, 1) := by decide +kernel
theorem dX6_valueAt_65 : decode cX6_valueAt 65 = .ok (.lreturn, 1) := by decide +kernel
theorem dX6_checkThere_0 : decode cX6_checkThere 0 = .ok (.iload_n 0, 1) := by decide +kernel
theorem dX6_checkThere_1 : decode cX6_checkThere 1 = .ok (.ifCond .ne 13, 3) := by decide +kernel
theorem dX6_checkThere_4 : decode cX6_checkThere 4 = .ok (.new 99, 3) := by decide +kernel
theorem dX6_checkThere_7 : decode cX6_checkThere 7 = .ok (.dup, 1) := by decide +kernel
theorem dX6_checkThere_8 : decode cX6_checkThere 8 = .ok (.ldc 242, 2) := by decide +kernel
theorem dX6_checkThere_10 : decode cX6_checkThere 10 = .ok (.invokespecial 103, 3) := by decide +kernel
theorem dX6_checkThere_13 : decode cX6_checkThere 13 = .ok (.athrow, 1) := by decide +kernel
theorem dX6_checkThere_14 : decode cX6_checkThere 14 = .ok (.return_, 1) := by decide +kernel
theorem dX6_checkArgument_0 : decode cX6_checkArgument 0 = .ok (.iload_n 0, 1) := by decide +kernel
theorem dX6_checkArgument_1 : decode cX6_checkArgument 1 = .ok (.ifCond .ne 13, 3) := by decide +kernel
theorem dX6_checkArgument_4 : decode cX6_checkArgument 4 = .ok (.new 244, 3) := by decide +kernel
theorem dX6_checkArgument_7 : decode cX6_checkArgument 7 = .ok (.dup, 1) := by decide +kernel
theorem dX6_checkArgument_8 : decode cX6_checkArgument 8 = .ok (.ldc 246, 2) := by decide +kernel
theorem dX6_checkArgument_10 : decode cX6_checkArgument 10 = .ok (.invokespecial 248, 3) := by decide +kernel
theorem dX6_checkArgument_13 : decode cX6_checkArgument 13 = .ok (.athrow, 1) := by decide +kernel
theorem dX6_checkArgument_14 : decode cX6_checkArgument 14 = .ok (.return_, 1) := by decide +kernel
theorem dX6_checkState_0 : decode cX6_checkState 0 = .ok (.iload_n 0, 1) := by decide +kernel
theorem dX6_checkState_1 : decode cX6_checkState 1 = .ok (.ifCond .ne 13, 3) := by decide +kernel
theorem dX6_checkState_4 : decode cX6_checkState 4 = .ok (.new 159, 3) := by decide +kernel
theorem dX6_checkState_7 : decode cX6_checkState 7 = .ok (.dup, 1) := by decide +kernel
theorem dX6_checkState_8 : decode cX6_checkState 8 = .ok (.ldc 249, 2) := by decide +kernel
theorem dX6_checkState_10 : decode cX6_checkState 10 = .ok (.invokespecial 163, 3) := by decide +kernel
theorem dX6_checkState_13 : decode cX6_checkState 13 = .ok (.athrow, 1) := by decide +kernel
theorem dX6_checkState_14 : decode cX6_checkState 14 = .ok (.return_, 1) := by decide +kernel
set_option maxRecDepth 20000 in
theorem ggX6_isClient_Jx4a65c_size_8abf5 : GoodIn wsX6_isClient wsJx4a65c_size_8abf5 := goodIn_r _ [6, 7, 13, 14, 15] (by decide +kernel) (by decide +kernel)
set_option maxRecDepth 20000 in
theorem gX6_isClient_Jx4a65c_size_8abf5 : GoodIn wsX6_isClient (wsV RX6 48 RJx4a65c yJx4a65c_size_8abf5 wsJx4a65c_size_8abf5) := goodIn_app (goodIn_of _ (by decide +kernel)) ggX6_isClient_Jx4a65c_size_8abf5
theorem dX6_isClient_0 : decode cX6_isClient 0 = .ok (.iload_n 1, 1) := by decide +kernel
theorem dX6_isClient_1 : decode cX6_isClient 1 = .ok (.ifCond .lt 18, 3) := by decide +kernel
theorem dX6_isClient_4 : decode cX6_isClient 4 = .ok (.iload_n 1, 1) := by decide +kernel
theorem dX6_isClient_5 : decode cX6_isClient 5 = .ok (.aload_n 0, 1) := by decide +kernel
theorem dX6_isClient_6 : decode cX6_isClient 6 = .ok (.getfield 10, 3) := by decide +kernel
theorem dX6_isClient_9 : decode cX6_isClient 9 = .ok (.invokevirtual 48, 3) := by decide +kernel
theorem dX6_isClient_12 : decode cX6_isClient 12 = .ok (.if_icmp .ge 7, 3) := by decide +kernel
theorem dX6_isClient_15 : decode cX6_isClient 15 = .ok (.iconst 1, 1) := by decide +kernel
theorem dX6_isClient_16 : decode cX6_isClient 16 = .ok (.goto 4, 3) := by decide +kernel
theorem dX6_isClient_19 : decode cX6_isClient 19 = .ok (.iconst 0, 1) := by decide +kernel
theorem dX6_isClient_20 : decode cX6_isClient 20 = .ok (.ireturn, 1) := by decide +kernel
set_option maxRecDepth 20000 in
theorem ggX6_isLayer_Jx4a65c_size_8abf5 : GoodIn wsX6_isLayer wsJx4a65c_size_8abf5 := goodIn_r _ [6, 7, 13, 14, 15] (by decide +kernel) (by decide +kernel)
set_option maxRecDepth 20000 in
theorem gX6_isLayer_Jx4a65c_size_8abf5 : GoodIn wsX6_isLayer (wsV RX6 48 RJx4a65c yJx4a65c_size_8abf5 wsJx4a65c_size_8abf5) := goodIn_app (goodIn_of _ (by decide +kernel)) ggX6_isLayer_Jx4a65c_size_8abf5
theorem dX6_isLayer_0 : decode cX6_isLayer 0 = .ok (.iload_n 1, 1) := by decide +kernel
theorem dX6_isLayer_1 : decode cX6_isLayer 1 = .ok (.ifCond .lt 18, 3) := by decide +kernel
theorem dX6_isLayer_4 : decode cX6_isLayer 4 = .ok (.iload_n 1, 1) := by decide +kernel
theorem dX6_isLayer_5 : decode cX6_isLayer 5 = .ok (.aload_n 0, 1) := by decide +kernel
theorem dX6_isLayer_6 : decode cX6_isLayer 6 = .ok (.getfield 16, 3) := by decide +kernel
theorem dX6_isLayer_9 : decode cX6_isLayer 9 = .ok (.invokevirtual 48, 3) := by decide +kernel
theorem dX6_isLayer_12 : decode cX6_isLayer 12 = .ok (.if_icmp .ge 7, 3) := by decide +kernel
theorem dX6_isLayer_15 : decode cX6_isLayer 15 = .ok (.iconst 1, 1) := by decide +kernel
theorem dX6_isLayer_16 : decode cX6_isLayer 16 = .ok (.goto 4, 3) := by decide +kernel
theorem dX6_isLayer_19 : decode cX6_isLayer 19 = .ok (.iconst 0, 1) := by decide +kernel
theorem dX6_isLayer_20 : decode cX6_isLayer 20 = .ok (.ireturn, 1) := by decide +kernel
set_option maxRecDepth 20000 in
theorem ggX6_isVersion_Jx4a65c_size_8abf5 : GoodIn wsX6_isVersion wsJx4a65c_size_8abf5 := goodIn_r _ [6, 7, 13, 14, 15] (by decide +kernel) (by decide +kernel)
set_option maxRecDepth 20000 in
theorem gX6_isVersion_Jx4a65c_size_8abf5 : GoodIn wsX6_isVersion (wsV RX6 48 RJx4a65c yJx4a65c_size_8abf5 wsJx4a65c_size_8abf5) := goodIn_app (goodIn_of _ (by decide +kernel)) ggX6_isVersion_Jx4a65c_size_8abf5
theorem dX6_isVersion_0 : decode cX6_isVersion 0 = .ok (.iload_n 1, 1) := by decide +kernel
theorem dX6_isVersion_1 : decode cX6_isVersion 1 = .ok (.ifCond .lt 18, 3) := by decide +kernel
theorem dX6_isVersion_4 : decode cX6_isVersion 4 = .ok (.iload_n 1, 1) := by decide +kernel
theorem dX6_isVersion_5 : decode cX6_isVersion 5 = .ok (.aload_n 0, 1) := by decide +kernel
theorem dX6_isVersion_6 : decode cX6_isVersion 6 = .ok (.getfield 19, 3) := by decide +kernel
theorem dX6_isVersion_9 : decode cX6_isVersion 9 = .ok (.invokevirtual 48, 3) := by decide +kernel
theorem dX6_isVersion_12 : decode cX6_isVersion 12 = .ok (.if_icmp .ge 7, 3) := by decide +kernel
theorem dX6_isVersion_15 : decode cX6_isVersion 15 = .ok (.iconst 1, 1) := by decide +kernel
theorem dX6_isVersion_16 : decode cX6_isVersion 16 = .ok (.goto 4, 3) := by decide +kernel
theorem dX6_isVersion_19 : decode cX6_isVersion 19 = .ok (.iconst 0, 1) := by decide +kernel
theorem dX6_isVersion_20 : decode cX6_isVersion 20 = .ok (.ireturn, 1) := by decide +kernel
set_option maxRecDepth 20000 in
theorem ggX6_isCell_X6_isLayer : GoodIn wsX6_isCell wsX6_isLayer := goodIn_r _ [5, 6, 7, 8, 9, 10, 11, 12, 16, 17, 18, 19, 20, 21, 22, 23] (by decide +kernel) (by decide +kernel)
set_option maxRecDepth 20000 in
theorem gX6_isCell_X6_isLayer : GoodIn wsX6_isCell (wsV RX6 89 RX6 yX6_isLayer wsX6_isLayer) := goodIn_app (goodIn_of _ (by decide +kernel)) ggX6_isCell_X6_isLayer
set_option maxRecDepth 20000 in
theorem ggX6_isCell_X6_isSetting : GoodIn wsX6_isCell wsX6_isSetting := goodIn_r _ [15] (by decide +kernel) (by decide +kernel)
set_option maxRecDepth 20000 in
theorem gX6_isCell_X6_isSetting : GoodIn wsX6_isCell (va_wsS RX6 204 yX6_isSetting wsX6_isSetting) := goodIn_app (goodIn_of _ (by decide +kernel)) ggX6_isCell_X6_isSetting
theorem dX6_isCell_0 : decode cX6_isCell 0 = .ok (.aload_n 0, 1) := by decide +kernel
theorem dX6_isCell_1 : decode cX6_isCell 1 = .ok (.iload_n 1, 1) := by decide +kernel
theorem dX6_isCell_2 : decode cX6_isCell 2 = .ok (.invokevirtual 89, 3) := by decide +kernel
theorem dX6_isCell_5 : decode cX6_isCell 5 = .ok (.ifCond .eq 14, 3) := by decide +kernel
theorem dX6_isCell_8 : decode cX6_isCell 8 = .ok (.iload_n 2, 1) := by decide +kernel
theorem dX6_isCell_9 : decode cX6_isCell 9 = .ok (.invokestatic 204, 3) := by decide +kernel
theorem dX6_isCell_12 : decode cX6_isCell 12 = .ok (.ifCond .eq 7, 3) := by decide +kernel
theorem dX6_isCell_15 : decode cX6_isCell 15 = .ok (.iconst 1, 1) := by decide +kernel
theorem dX6_isCell_16 : decode cX6_isCell 16 = .ok (.goto 4, 3) := by decide +kernel
theorem dX6_isCell_19 : decode cX6_isCell 19 = .ok (.iconst 0, 1) := by decide +kernel
theorem dX6_isCell_20 : decode cX6_isCell 20 = .ok (.ireturn, 1) := by decide +kernel
theorem dX6_isSetting_0 : decode cX6_isSetting 0 = .ok (.iload_n 0, 1) := by decide +kernel
theorem dX6_isSetting_1 : decode cX6_isSetting 1 = .ok (.ifCond .lt 13, 3) := by decide +kernel
theorem dX6_isSetting_4 : decode cX6_isSetting 4 = .ok (.iload_n 0, 1) := by decide +kernel
theorem dX6_isSetting_5 : decode cX6_isSetting 5 = .ok (.bipush 16, 2) := by decide +kernel
theorem dX6_isSetting_7 : decode cX6_isSetting 7 = .ok (.if_icmp .ge 7, 3) := by decide +kernel
theorem dX6_isSetting_10 : decode cX6_isSetting 10 = .ok (.iconst 1, 1) := by decide +kernel
theorem dX6_isSetting_11 : decode cX6_isSetting 11 = .ok (.goto 4, 3) := by decide +kernel
theorem dX6_isSetting_14 : decode cX6_isSetting 14 = .ok (.iconst 0, 1) := by decide +kernel
theorem dX6_isSetting_15 : decode cX6_isSetting 15 = .ok (.ireturn, 1) := by decide +kernel
set_option maxRecDepth 20000 in
theorem ggX6_isLockable_X6_isSetting : GoodIn wsX6_isLockable wsX6_isSetting := goodIn_r _ [4] (by decide +kernel) (by decide +kernel)
set_option maxRecDepth 20000 in
theorem gX6_isLockable_X6_isSetting : GoodIn wsX6_isLockable (va_wsS RX6 204 yX6_isSetting wsX6_isSetting) := goodIn_app (goodIn_of _ (by decide +kernel)) ggX6_isLockable_X6_isSetting
theorem dX6_isLockable_0 : decode cX6_isLockable 0 = .ok (.iload_n 0, 1) := by decide +kernel
theorem dX6_isLockable_1 : decode cX6_isLockable 1 = .ok (.iconst (-1), 1) := by decide +kernel
theorem dX6_isLockable_2 : decode cX6_isLockable 2 = .ok (.if_icmp .eq 10, 3) := by decide +kernel
theorem dX6_isLockable_5 : decode cX6_isLockable 5 = .ok (.iload_n 0, 1) := by decide +kernel
theorem dX6_isLockable_6 : decode cX6_isLockable 6 = .ok (.invokestatic 204, 3) := by decide +kernel
theorem dX6_isLockable_9 : decode cX6_isLockable 9 = .ok (.ifCond .eq 7, 3) := by decide +kernel
theorem dX6_isLockable_12 : decode cX6_isLockable 12 = .ok (.iconst 1, 1) := by decide +kernel
theorem dX6_isLockable_13 : decode cX6_isLockable 13 = .ok (.goto 4, 3) := by decide +kernel
theorem dX6_isLockable_16 : decode cX6_isLockable 16 = .ok (.iconst 0, 1) := by decide +kernel
theorem dX6_isLockable_17 : decode cX6_isLockable 17 = .ok (.ireturn, 1) := by decide +kernel
theorem dX6_isArea_0 : decode cX6_isArea 0 = .ok (.iload_n 0, 1) := by decide +kernel
theorem dX6_isArea_1 : decode cX6_isArea 1 = .ok (.ifCond .lt 13, 3) := by decide +kernel
theorem dX6_isArea_4 : decode cX6_isArea 4 = .ok (.iload_n 0, 1) := by decide +kernel
theorem dX6_isArea_5 : decode cX6_isArea 5 = .ok (.bipush 8, 2) := by decide +kernel
theorem dX6_isArea_7 : decode cX6_isArea 7 = .ok (.if_icmp .ge 7, 3) := by decide +kernel
theorem dX6_isArea_10 : decode cX6_isArea 10 = .ok (.iconst 1, 1) := by decide +kernel
theorem dX6_isArea_11 : decode cX6_isArea 11 = .ok (.goto 4, 3) := by decide +kernel
theorem dX6_isArea_14 : decode cX6_isArea 14 = .ok (.iconst 0, 1) := by decide +kernel
theorem dX6_isArea_15 : decode cX6_isArea 15 = .ok (.ireturn, 1) := by decide +kernel
theorem dX6_isPrecedence_0 : decode cX6_isPrecedence 0 = .ok (.iload_n 0, 1) := by decide +kernel
theorem dX6_isPrecedence_1 : decode cX6_isPrecedence 1 = .ok (.ifCond .lt 13, 3) := by decide +kernel
theorem dX6_isPrecedence_4 : decode cX6_isPrecedence 4 = .ok (.iload_n 0, 1) := by decide +kernel
theorem dX6_isPrecedence_5 : decode cX6_isPrecedence 5 = .ok (.bipush 99, 2) := by decide +kernel
theorem dX6_isPrecedence_7 : decode cX6_isPrecedence 7 = .ok (.if_icmp .gt 7, 3) := by decide +kernel
theorem dX6_isPrecedence_10 : decode cX6_isPrecedence 10 = .ok (.iconst 1, 1) := by decide +kernel
theorem dX6_isPrecedence_11 : decode cX6_isPrecedence 11 = .ok (.goto 4, 3) := by decide +kernel
theorem dX6_isPrecedence_14 : decode cX6_isPrecedence 14 = .ok (.iconst 0, 1) := by decide +kernel
theorem dX6_isPrecedence_15 : decode cX6_isPrecedence 15 = .ok (.ireturn, 1) := by decide +kernel
set_option maxRecDepth 20000 in
theorem ggX6_canSelect_X6_isArea : GoodIn wsX6_canSelect wsX6_isArea := goodIn_r _ [4] (by decide +kernel) (by decide +kernel)
set_option maxRecDepth 20000 in
theorem gX6_canSelect_X6_isArea : GoodIn wsX6_canSelect (va_wsS RX6 40 yX6_isArea wsX6_isArea) := goodIn_app (goodIn_of _ (by decide +kernel)) ggX6_canSelect_X6_isArea
theorem dX6_canSelect_0 : decode cX6_canSelect 0 = .ok (.iload_n 0, 1) := by decide +kernel
theorem dX6_canSelect_1 : decode cX6_canSelect 1 = .ok (.tableswitch 62 0 3 #[31, 41, 41, 46], 31) := by decide +kernel
theorem dX6_canSelect_32 : decode cX6_canSelect 32 = .ok (.iload_n 1, 1) := by decide +kernel
theorem dX6_canSelect_33 : decode cX6_canSelect 33 = .ok (.ifCond .ne 7, 3) := by decide +kernel
theorem dX6_canSelect_36 : decode cX6_canSelect 36 = .ok (.iconst 1, 1) := by decide +kernel
theorem dX6_canSelect_37 : decode cX6_canSelect 37 = .ok (.goto 4, 3) := by decide +kernel
theorem dX6_canSelect_40 : decode cX6_canSelect 40 = .ok (.iconst 0, 1) := by decide +kernel
theorem dX6_canSelect_41 : decode cX6_canSelect 41 = .ok (.ireturn, 1) := by decide +kernel
theorem dX6_canSelect_42 : decode cX6_canSelect 42 = .ok (.iload_n 1, 1) := by decide +kernel
theorem dX6_canSelect_43 : decode cX6_canSelect 43 = .ok (.invokestatic 40, 3) := by decide +kernel
theorem dX6_canSelect_46 : decode cX6_canSelect 46 = .ok (.ireturn, 1) := by decide +kernel
theorem dX6_canSelect_47 : decode cX6_canSelect 47 = .ok (.iload_n 1, 1) := by decide +kernel
theorem dX6_canSelect_48 : decode cX6_canSelect 48 = .ok (.ifCond .lt 13, 3) := by decide +kernel
theorem dX6_canSelect_51 : decode cX6_canSelect 51 = .ok (.iload_n 1, 1) := by decide +kernel
theorem dX6_canSelect_52 : decode cX6_canSelect 52 = .ok (.bipush 12, 2) := by decide +kernel
theorem dX6_canSelect_54 : decode cX6_canSelect 54 = .ok (.if_icmp .ge 7, 3) := by decide +kernel
theorem dX6_canSelect_57 : decode cX6_canSelect 57 = .ok (.iconst 1, 1) := by decide +kernel
theorem dX6_canSelect_58 : decode cX6_canSelect 58 = .ok (.goto 4, 3) := by decide +kernel
theorem dX6_canSelect_61 : decode cX6_canSelect 61 = .ok (.iconst 0, 1) := by decide +kernel
theorem dX6_canSelect_62 : decode cX6_canSelect 62 = .ok (.ireturn, 1) := by decide +kernel
theorem dX6_canSelect_63 : decode cX6_canSelect 63 = .ok (.iconst 0, 1) := by decide +kernel
theorem dX6_canSelect_64 : decode cX6_canSelect 64 = .ok (.ireturn, 1) := by decide +kernel
theorem dX6_isNumber_0 : decode cX6_isNumber 0 = .ok (.iload_n 0, 1) := by decide +kernel
theorem dX6_isNumber_1 : decode cX6_isNumber 1 = .ok (.sipush (-9999), 3) := by decide +kernel
theorem dX6_isNumber_4 : decode cX6_isNumber 4 = .ok (.if_icmp .lt 14, 3) := by decide +kernel
theorem dX6_isNumber_7 : decode cX6_isNumber 7 = .ok (.iload_n 0, 1) := by decide +kernel
theorem dX6_isNumber_8 : decode cX6_isNumber 8 = .ok (.sipush 9999, 3) := by decide +kernel
theorem dX6_isNumber_11 : decode cX6_isNumber 11 = .ok (.if_icmp .gt 7, 3) := by decide +kernel
theorem dX6_isNumber_14 : decode cX6_isNumber 14 = .ok (.iconst 1, 1) := by decide +kernel
theorem dX6_isNumber_15 : decode cX6_isNumber 15 = .ok (.goto 4, 3) := by decide +kernel
theorem dX6_isNumber_18 : decode cX6_isNumber 18 = .ok (.iconst 0, 1) := by decide +kernel
theorem dX6_isNumber_19 : decode cX6_isNumber 19 = .ok (.ireturn, 1) := by decide +kernel
set_option maxRecDepth 20000 in
theorem ggX6_isTemplate_X6_isNumber : GoodIn wsX6_isTemplate wsX6_isNumber := goodIn_r _ [4] (by decide +kernel) (by decide +kernel)
set_option maxRecDepth 20000 in
theorem gX6_isTemplate_X6_isNumber : GoodIn wsX6_isTemplate (va_wsS RX6 112 yX6_isNumber wsX6_isNumber) := goodIn_app (goodIn_of _ (by decide +kernel)) ggX6_isTemplate_X6_isNumber
set_option maxRecDepth 20000 in
theorem ggX6_isTemplate_X6_isSetting : GoodIn wsX6_isTemplate wsX6_isSetting := goodIn_r _ [7] (by decide +kernel) (by decide +kernel)
set_option maxRecDepth 20000 in
theorem gX6_isTemplate_X6_isSetting : GoodIn wsX6_isTemplate (va_wsS RX6 204 yX6_isSetting wsX6_isSetting) := goodIn_app (goodIn_of _ (by decide +kernel)) ggX6_isTemplate_X6_isSetting
theorem dX6_isTemplate_0 : decode cX6_isTemplate 0 = .ok (.iload_n 0, 1) := by decide +kernel
theorem dX6_isTemplate_1 : decode cX6_isTemplate 1 = .ok (.invokestatic 112, 3) := by decide +kernel
theorem dX6_isTemplate_4 : decode cX6_isTemplate 4 = .ok (.ifCond .eq 26, 3) := by decide +kernel
theorem dX6_isTemplate_7 : decode cX6_isTemplate 7 = .ok (.iload_n 1, 1) := by decide +kernel
theorem dX6_isTemplate_8 : decode cX6_isTemplate 8 = .ok (.invokestatic 204, 3) := by decide +kernel
theorem dX6_isTemplate_11 : decode cX6_isTemplate 11 = .ok (.ifCond .eq 19, 3) := by decide +kernel
theorem dX6_isTemplate_14 : decode cX6_isTemplate 14 = .ok (.iload_n 2, 1) := by decide +kernel
theorem dX6_isTemplate_15 : decode cX6_isTemplate 15 = .ok (.iconst (-1), 1) := by decide +kernel
theorem dX6_isTemplate_16 : decode cX6_isTemplate 16 = .ok (.if_icmp .eq 10, 3) := by decide +kernel
theorem dX6_isTemplate_19 : decode cX6_isTemplate 19 = .ok (.iload_n 2, 1) := by decide +kernel
theorem dX6_isTemplate_20 : decode cX6_isTemplate 20 = .ok (.invokestatic 204, 3) := by decide +kernel
theorem dX6_isTemplate_23 : decode cX6_isTemplate 23 = .ok (.ifCond .eq 7, 3) := by decide +kernel
theorem dX6_isTemplate_26 : decode cX6_isTemplate 26 = .ok (.iconst 1, 1) := by decide +kernel
theorem dX6_isTemplate_27 : decode cX6_isTemplate 27 = .ok (.goto 4, 3) := by decide +kernel
theorem dX6_isTemplate_30 : decode cX6_isTemplate 30 = .ok (.iconst 0, 1) := by decide +kernel
theorem dX6_isTemplate_31 : decode cX6_isTemplate 31 = .ok (.ireturn, 1) := by decide +kernel
theorem dX6_isOwner_0 : decode cX6_isOwner 0 = .ok (.iload_n 0, 1) := by decide +kernel
theorem dX6_isOwner_1 : decode cX6_isOwner 1 = .ok (.ifCond .le 13, 3) := by decide +kernel
theorem dX6_isOwner_4 : decode cX6_isOwner 4 = .ok (.iload_n 0, 1) := by decide +kernel
theorem dX6_isOwner_5 : decode cX6_isOwner 5 = .ok (.bipush 9, 2) := by decide +kernel
theorem dX6_isOwner_7 : decode cX6_isOwner 7 = .ok (.if_icmp .gt 7, 3) := by decide +kernel
theorem dX6_isOwner_10 : decode cX6_isOwner 10 = .ok (.iconst 1, 1) := by decide +kernel
theorem dX6_isOwner_11 : decode cX6_isOwner 11 = .ok (.goto 4, 3) := by decide +kernel
theorem dX6_isOwner_14 : decode cX6_isOwner 14 = .ok (.iconst 0, 1) := by decide +kernel
theorem dX6_isOwner_15 : decode cX6_isOwner 15 = .ok (.ireturn, 1) := by decide +kernel
theorem dX6_isNewShare_0 : decode cX6_isNewShare 0 = .ok (.iload_n 0, 1) := by decide +kernel
theorem dX6_isNewShare_1 : decode cX6_isNewShare 1 = .ok (.ifCond .le 13, 3) := by decide +kernel
theorem dX6_isNewShare_4 : decode cX6_isNewShare 4 = .ok (.iload_n 0, 1) := by decide +kernel
theorem dX6_isNewShare_5 : decode cX6_isNewShare 5 = .ok (.bipush 100, 2) := by decide +kernel
theorem dX6_isNewShare_7 : decode cX6_isNewShare 7 = .ok (.if_icmp .gt 7, 3) := by decide +kernel
theorem dX6_isNewShare_10 : decode cX6_isNewShare 10 = .ok (.iconst 1, 1) := by decide +kernel
theorem dX6_isNewShare_11 : decode cX6_isNewShare 11 = .ok (.goto 4, 3) := by decide +kernel
theorem dX6_isNewShare_14 : decode cX6_isNewShare 14 = .ok (.iconst 0, 1) := by decide +kernel
theorem dX6_isNewShare_15 : decode cX6_isNewShare 15 = .ok (.ireturn, 1) := by decide +kernel
set_option maxRecDepth 20000 in
theorem ggX6_placeOf_Jx4a65c_size_8abf5 : GoodIn wsX6_placeOf wsJx4a65c_size_8abf5 := goodIn_r _ [6, 7, 36, 37, 38] (by decide +kernel) (by decide +kernel)
set_option maxRecDepth 20000 in
theorem gX6_placeOf_Jx4a65c_size_8abf5 : GoodIn wsX6_placeOf (wsV RX6 48 RJx4a65c yJx4a65c_size_8abf5 wsJx4a65c_size_8abf5) := goodIn_app (goodIn_of _ (by decide +kernel)) ggX6_placeOf_Jx4a65c_size_8abf5
set_option maxRecDepth 20000 in
theorem ggX6_placeOf_X6_goesAhead : GoodIn wsX6_placeOf wsX6_goesAhead := goodIn_r _ [12, 1, 13, 14, 15, 16, 5, 17, 7, 18, 19, 20, 21, 22, 23, 24, 25, 26, 27, 28, 29, 30, 31, 32, 33, 34, 35, 39, 40, 41, 42, 43, 44, 45, 36, 37, 38] (by decide +kernel) (by decide +kernel)
set_option maxRecDepth 20000 in
theorem gX6_placeOf_X6_goesAhead : GoodIn wsX6_placeOf (wsV RX6 251 RX6 yX6_goesAhead wsX6_goesAhead) := goodIn_app (goodIn_of _ (by decide +kernel)) ggX6_placeOf_X6_goesAhead
theorem dX6_placeOf_0 : decode cX6_placeOf 0 = .ok (.iconst 0, 1) := by decide +kernel
theorem dX6_placeOf_1 : decode cX6_placeOf 1 = .ok (.istore_n 2, 1) := by decide +kernel
theorem dX6_placeOf_2 : decode cX6_placeOf 2 = .ok (.iconst 0, 1) := by decide +kernel
theorem dX6_placeOf_3 : decode cX6_placeOf 3 = .ok (.istore_n 3, 1) := by decide +kernel
theorem dX6_placeOf_4 : decode cX6_placeOf 4 = .ok (.iload_n 3, 1) := by decide +kernel
theorem dX6_placeOf_5 : decode cX6_placeOf 5 = .ok (.aload_n 0, 1) := by decide +kernel
theorem dX6_placeOf_6 : decode cX6_placeOf 6 = .ok (.getfield 16, 3) := by decide +kernel
theorem dX6_placeOf_9 : decode cX6_placeOf 9 = .ok (.invokevirtual 48, 3) := by decide +kernel
theorem dX6_placeOf_12 : decode cX6_placeOf 12 = .ok (.if_icmp .ge 21, 3) := by decide +kernel
theorem dX6_placeOf_15 : decode cX6_placeOf 15 = .ok (.aload_n 0, 1) := by decide +kernel
theorem dX6_placeOf_16 : decode cX6_placeOf 16 = .ok (.iload_n 3, 1) := by decide +kernel
theorem dX6_placeOf_17 : decode cX6_placeOf 17 = .ok (.iload_n 1, 1) := by decide +kernel
theorem dX6_placeOf_18 : decode cX6_placeOf 18 = .ok (.invokevirtual 251, 3) := by decide +kernel
theorem dX6_placeOf_21 : decode cX6_placeOf 21 = .ok (.ifCond .eq 6, 3) := by decide +kernel
theorem dX6_placeOf_24 : decode cX6_placeOf 24 = .ok (.iinc 2 1, 3) := by decide +kernel
theorem dX6_placeOf_27 : decode cX6_placeOf 27 = .ok (.iinc 3 1, 3) := by decide +kernel
theorem dX6_placeOf_30 : decode cX6_placeOf 30 = .ok (.goto (-26), 3) := by decide +kernel
theorem dX6_placeOf_33 : decode cX6_placeOf 33 = .ok (.iload_n 2, 1) := by decide +kernel
theorem dX6_placeOf_34 : decode cX6_placeOf 34 = .ok (.ireturn, 1) := by decide +kernel
set_option maxRecDepth 20000 in
theorem ggX6_goesAhead_Jx4a65c_get_915e3 : GoodIn wsX6_goesAhead wsJx4a65c_get_915e3 := goodIn_r _ [7, 8, 9, 10, 11, 12, 13, 14, 15, 16, 17, 18, 19, 6, 20, 21, 34, 35, 36] (by decide +kernel) (by decide +kernel)
set_option maxRecDepth 20000 in
theorem gX6_goesAhead_Jx4a65c_get_915e3 : GoodIn wsX6_goesAhead (wsV RX6 66 RJx4a65c yJx4a65c_get_915e3 wsJx4a65c_get_915e3) := goodIn_app (goodIn_of _ (by decide +kernel)) ggX6_goesAhead_Jx4a65c_get_915e3
theorem dX6_goesAhead_0 : decode cX6_goesAhead 0 = .ok (.aload_n 0, 1) := by decide +kernel
theorem dX6_goesAhead_1 : decode cX6_goesAhead 1 = .ok (.getfield 16, 3) := by decide +kernel
theorem dX6_goesAhead_4 : decode cX6_goesAhead 4 = .ok (.iload_n 1, 1) := by decide +kernel
theorem dX6_goesAhead_5 : decode cX6_goesAhead 5 = .ok (.invokevirtual 66, 3) := by decide +kernel
theorem dX6_goesAhead_8 : decode cX6_goesAhead 8 = .ok (.checkcast 84, 3) := by decide +kernel
theorem dX6_goesAhead_11 : decode cX6_goesAhead 11 = .ok (.getfield 92, 3) := by decide +kernel
theorem dX6_goesAhead_14 : decode cX6_goesAhead 14 = .ok (.istore_n 3, 1) := by decide +kernel
theorem dX6_goesAhead_15 : decode cX6_goesAhead 15 = .ok (.aload_n 0, 1) := by decide +kernel
theorem dX6_goesAhead_16 : decode cX6_goesAhead 16 = .ok (.getfield 16, 3) := by decide +kernel
theorem dX6_goesAhead_19 : decode cX6_goesAhead 19 = .ok (.iload_n 2, 1) := by decide +kernel
theorem dX6_goesAhead_20 : decode cX6_goesAhead 20 = .ok (.invokevirtual 66, 3) := by decide +kernel
theorem dX6_goesAhead_23 : decode cX6_goesAhead 23 = .ok (.checkcast 84, 3) := by decide +kernel
theorem dX6_goesAhead_26 : decode cX6_goesAhead 26 = .ok (.getfield 92, 3) := by decide +kernel
theorem dX6_goesAhead_29 : decode cX6_goesAhead 29 = .ok (.istore 4, 2) := by decide +kernel
theorem dX6_goesAhead_31 : decode cX6_goesAhead 31 = .ok (.iload_n 3, 1) := by decide +kernel
theorem dX6_goesAhead_32 : decode cX6_goesAhead 32 = .ok (.iload 4, 2) := by decide +kernel
theorem dX6_goesAhead_34 : decode cX6_goesAhead 34 = .ok (.if_icmp .gt 14, 3) := by decide +kernel
theorem dX6_goesAhead_37 : decode cX6_goesAhead 37 = .ok (.iload_n 3, 1) := by decide +kernel
theorem dX6_goesAhead_38 : decode cX6_goesAhead 38 = .ok (.iload 4, 2) := by decide +kernel
theorem dX6_goesAhead_40 : decode cX6_goesAhead 40 = .ok (.if_icmp .ne 12, 3) := by decide +kernel
theorem dX6_goesAhead_43 : decode cX6_goesAhead 43 = .ok (.iload_n 1, 1) := by decide +kernel
theorem dX6_goesAhead_44 : decode cX6_goesAhead 44 = .ok (.iload_n 2, 1) := by decide +kernel
theorem dX6_goesAhead_45 : decode cX6_goesAhead 45 = .ok (.if_icmp .le 7, 3) := by decide +kernel
theorem dX6_goesAhead_48 : decode cX6_goesAhead 48 = .ok (.iconst 1, 1) := by decide +kernel
theorem dX6_goesAhead_49 : decode cX6_goesAhead 49 = .ok (.goto 4, 3) := by decide +kernel
theorem dX6_goesAhead_52 : decode cX6_goesAhead 52 = .ok (.iconst 0, 1) := by decide +kernel
theorem dX6_goesAhead_53 : decode cX6_goesAhead 53 = .ok (.ireturn, 1) := by decide +kernel
set_option maxRecDepth 20000 in
theorem ggX6_reaches_Jx4a65c_get_915e3 : GoodIn wsX6_reaches wsJx4a65c_get_915e3 := goodIn_r _ [9, 10, 11, 12, 13, 14, 15, 16, 17, 18, 19, 20, 21, 8, 22, 23, 36, 37, 38] (by decide +kernel) (by decide +kernel)
set_option maxRecDepth 20000 in
theorem gX6_reaches_Jx4a65c_get_915e3 : GoodIn wsX6_reaches (wsV RX6 66 RJx4a65c yJx4a65c_get_915e3 wsJx4a65c_get_915e3) := goodIn_app (goodIn_of _ (by decide +kernel)) ggX6_reaches_Jx4a65c_get_915e3
set_option maxRecDepth 20000 in
theorem ggX6_reaches_X4_selects : GoodIn wsX6_reaches wsX4_selects := goodIn_r _ [28, 29, 30, 39, 40, 41, 42, 43, 44, 45, 46, 47] (by decide +kernel) (by decide +kernel)
set_option maxRecDepth 20000 in
theorem gX6_reaches_X4_selects : GoodIn wsX6_reaches (wsV RX6 254 RX4 yX4_selects wsX4_selects) := goodIn_app (goodIn_of _ (by decide +kernel)) ggX6_reaches_X4_selects
theorem dX6_reaches_0 : decode cX6_reaches 0 = .ok (.aload_n 0, 1) := by decide +kernel
theorem dX6_reaches_1 : decode cX6_reaches 1 = .ok (.getfield 16, 3) := by decide +kernel
theorem dX6_reaches_4 : decode cX6_reaches 4 = .ok (.iload_n 1, 1) := by decide +kernel
theorem dX6_reaches_5 : decode cX6_reaches 5 = .ok (.invokevirtual 66, 3) := by decide +kernel
theorem dX6_reaches_8 : decode cX6_reaches 8 = .ok (.checkcast 84, 3) := by decide +kernel
theorem dX6_reaches_11 : decode cX6_reaches 11 = .ok (.iload_n 2, 1) := by decide +kernel
theorem dX6_reaches_12 : decode cX6_reaches 12 = .ok (.aload_n 0, 1) := by decide +kernel
theorem dX6_reaches_13 : decode cX6_reaches 13 = .ok (.getfield 10, 3) := by decide +kernel
theorem dX6_reaches_16 : decode cX6_reaches 16 = .ok (.iload_n 2, 1) := by decide +kernel
theorem dX6_reaches_17 : decode cX6_reaches 17 = .ok (.invokevirtual 66, 3) := by decide +kernel
theorem dX6_reaches_20 : decode cX6_reaches 20 = .ok (.checkcast 55, 3) := by decide +kernel
theorem dX6_reaches_23 : decode cX6_reaches 23 = .ok (.invokevirtual 254, 3) := by decide +kernel
theorem dX6_reaches_26 : decode cX6_reaches 26 = .ok (.ireturn, 1) := by decide +kernel
set_option maxRecDepth 20000 in
theorem ggX6_countShown_Jx4a65c_size_8abf5 : GoodIn wsX6_countShown wsJx4a65c_size_8abf5 := goodIn_r _ [8, 9, 50, 51, 52] (by decide +kernel) (by decide +kernel)
set_option maxRecDepth 20000 in
theorem gX6_countShown_Jx4a65c_size_8abf5 : GoodIn wsX6_countShown (wsV RX6 48 RJx4a65c yJx4a65c_size_8abf5 wsJx4a65c_size_8abf5) := goodIn_app (goodIn_of _ (by decide +kernel)) ggX6_countShown_Jx4a65c_size_8abf5
set_option maxRecDepth 20000 in
theorem ggX6_countShown_X6_reaches : GoodIn wsX6_countShown wsX6_reaches := goodIn_r _ [14, 2, 3, 1, 15, 16, 17, 18, 7, 19, 9, 20, 21, 22, 23, 24, 25, 26, 27, 28, 29, 30, 31, 32, 33, 34, 35, 36, 37, 38, 39, 45, 46, 47, 48, 49, 50, 51, 52, 53, 54, 55, 56, 57, 58, 59, 60, 61] (by decide +kernel) (by decide +kernel)
set_option maxRecDepth 20000 in
theorem gX6_countShown_X6_reaches : GoodIn wsX6_countShown (wsV RX6 106 RX6 yX6_reaches wsX6_reaches) := goodIn_app (goodIn_of _ (by decide +kernel)) ggX6_countShown_X6_reaches
set_option maxRecDepth 20000 in
theorem ggX6_countShown_Jx4a65c_get_915e3 : GoodIn wsX6_countShown wsJx4a65c_get_915e3 := goodIn_r _ [19, 9, 20, 21, 22, 23, 24, 25, 26, 27, 28, 29, 30, 7, 31, 32, 50, 51, 52] (by decide +kernel) (by decide +kernel)
set_option maxRecDepth 20000 in
theorem gX6_countShown_Jx4a65c_get_915e3 : GoodIn wsX6_countShown (wsV RX6 66 RJx4a65c yJx4a65c_get_915e3 wsJx4a65c_get_915e3) := goodIn_app (goodIn_of _ (by decide +kernel)) ggX6_countShown_Jx4a65c_get_915e3
set_option maxRecDepth 20000 in
theorem ggX6_countShown_X4_bucket : GoodIn wsX6_countShown wsX4_bucket := goodIn_r _ [43, 44, 53, 54, 55, 56, 57, 58, 59] (by decide +kernel) (by decide +kernel)
set_option maxRecDepth 20000 in
theorem gX6_countShown_X4_bucket : GoodIn wsX6_countShown (wsV RX6 258 RX4 yX4_bucket wsX4_bucket) := goodIn_app (goodIn_of _ (by decide +kernel)) ggX6_countShown_X4_bucket
theorem dX6_countShown_0 : decode cX6_countShown 0 = .ok (.iconst 0, 1) := by decide +kernel
theorem dX6_countShown_1 : decode cX6_countShown 1 = .ok (.istore 4, 2) := by decide +kernel
theorem dX6_countShown_3 : decode cX6_countShown 3 = .ok (.iconst 0, 1) := by decide +kernel
theorem dX6_countShown_4 : decode cX6_countShown 4 = .ok (.istore 5, 2) := by decide +kernel
theorem dX6_countShown_6 : decode cX6_countShown 6 = .ok (.iload 5, 2) := by decide +kernel
theorem dX6_countShown_8 : decode cX6_countShown 8 = .ok (.aload_n 0, 1) := by decide +kernel
theorem dX6_countShown_9 : decode cX6_countShown 9 = .ok (.getfield 10, 3) := by decide +kernel
theorem dX6_countShown_12 : decode cX6_countShown 12 = .ok (.invokevirtual 48, 3) := by decide +kernel
theorem dX6_countShown_15 : decode cX6_countShown 15 = .ok (.if_icmp .ge 43, 3) := by decide +kernel
theorem dX6_countShown_18 : decode cX6_countShown 18 = .ok (.aload_n 0, 1) := by decide +kernel
theorem dX6_countShown_19 : decode cX6_countShown 19 = .ok (.iload_n 1, 1) := by decide +kernel
theorem dX6_countShown_20 : decode cX6_countShown 20 = .ok (.iload 5, 2) := by decide +kernel
theorem dX6_countShown_22 : decode cX6_countShown 22 = .ok (.invokevirtual 106, 3) := by decide +kernel
theorem dX6_countShown_25 : decode cX6_countShown 25 = .ok (.ifCond .eq 27, 3) := by decide +kernel
theorem dX6_countShown_28 : decode cX6_countShown 28 = .ok (.aload_n 0, 1) := by decide +kernel
theorem dX6_countShown_29 : decode cX6_countShown 29 = .ok (.getfield 16, 3) := by decide +kernel
theorem dX6_countShown_32 : decode cX6_countShown 32 = .ok (.iload_n 1, 1) := by decide +kernel
theorem dX6_countShown_33 : decode cX6_countShown 33 = .ok (.invokevirtual 66, 3) := by decide +kernel
theorem dX6_countShown_36 : decode cX6_countShown 36 = .ok (.checkcast 84, 3) := by decide +kernel
theorem dX6_countShown_39 : decode cX6_countShown 39 = .ok (.iload 5, 2) := by decide +kernel
theorem dX6_countShown_41 : decode cX6_countShown 41 = .ok (.iload_n 2, 1) := by decide +kernel
theorem dX6_countShown_42 : decode cX6_countShown 42 = .ok (.invokevirtual 258, 3) := by decide +kernel
theorem dX6_countShown_45 : decode cX6_countShown 45 = .ok (.iload_n 3, 1) := by decide +kernel
theorem dX6_countShown_46 : decode cX6_countShown 46 = .ok (.if_icmp .ge 6, 3) := by decide +kernel
theorem dX6_countShown_49 : decode cX6_countShown 49 = .ok (.iinc 4 1, 3) := by decide +kernel
theorem dX6_countShown_52 : decode cX6_countShown 52 = .ok (.iinc 5 1, 3) := by decide +kernel
theorem dX6_countShown_55 : decode cX6_countShown 55 = .ok (.goto (-49), 3) := by decide +kernel
theorem dX6_countShown_58 : decode cX6_countShown 58 = .ok (.iload 4, 2) := by decide +kernel
theorem dX6_countShown_60 : decode cX6_countShown 60 = .ok (.ireturn, 1) := by decide +kernel
set_option maxRecDepth 20000 in
theorem ggX6_countLocks_Jx4a65c_size_8abf5 : GoodIn wsX6_countLocks wsJx4a65c_size_8abf5 := goodIn_r _ [7, 8, 37, 38, 39] (by decide +kernel) (by decide +kernel)
set_option maxRecDepth 20000 in
theorem gX6_countLocks_Jx4a65c_size_8abf5 : GoodIn wsX6_countLocks (wsV RX6 48 RJx4a65c yJx4a65c_size_8abf5 wsJx4a65c_size_8abf5) := goodIn_app (goodIn_of _ (by decide +kernel)) ggX6_countLocks_Jx4a65c_size_8abf5
set_option maxRecDepth 20000 in
theorem ggX6_countLocks_Jx4a65c_get_915e3 : GoodIn wsX6_countLocks wsJx4a65c_get_915e3 := goodIn_r _ [12, 8, 13, 14, 15, 16, 17, 18, 19, 20, 21, 22, 23, 6, 24, 25, 37, 38, 39] (by decide +kernel) (by decide +kernel)
set_option maxRecDepth 20000 in
theorem gX6_countLocks_Jx4a65c_get_915e3 : GoodIn wsX6_countLocks (wsV RX6 66 RJx4a65c yJx4a65c_get_915e3 wsJx4a65c_get_915e3) := goodIn_app (goodIn_of _ (by decide +kernel)) ggX6_countLocks_Jx4a65c_get_915e3
set_option maxRecDepth 20000 in
theorem ggX6_countLocks_X4_countHeld : GoodIn wsX6_countLocks wsX4_countHeld := goodIn_r _ [30, 31, 40, 41, 42, 43, 44, 45, 46] (by decide +kernel) (by decide +kernel)
set_option maxRecDepth 20000 in
theorem gX6_countLocks_X4_countHeld : GoodIn wsX6_countLocks (wsV RX6 262 RX4 yX4_countHeld wsX4_countHeld) := goodIn_app (goodIn_of _ (by decide +kernel)) ggX6_countLocks_X4_countHeld
theorem dX6_countLocks_0 : decode cX6_countLocks 0 = .ok (.iconst 0, 1) := by decide +kernel
theorem dX6_countLocks_1 : decode cX6_countLocks 1 = .ok (.istore_n 2, 1) := by decide +kernel
theorem dX6_countLocks_2 : decode cX6_countLocks 2 = .ok (.iconst 0, 1) := by decide +kernel
theorem dX6_countLocks_3 : decode cX6_countLocks 3 = .ok (.istore_n 3, 1) := by decide +kernel
theorem dX6_countLocks_4 : decode cX6_countLocks 4 = .ok (.iload_n 3, 1) := by decide +kernel
theorem dX6_countLocks_5 : decode cX6_countLocks 5 = .ok (.aload_n 0, 1) := by decide +kernel
theorem dX6_countLocks_6 : decode cX6_countLocks 6 = .ok (.getfield 16, 3) := by decide +kernel
theorem dX6_countLocks_9 : decode cX6_countLocks 9 = .ok (.invokevirtual 48, 3) := by decide +kernel
theorem dX6_countLocks_12 : decode cX6_countLocks 12 = .ok (.if_icmp .ge 27, 3) := by decide +kernel
theorem dX6_countLocks_15 : decode cX6_countLocks 15 = .ok (.iload_n 2, 1) := by decide +kernel
theorem dX6_countLocks_16 : decode cX6_countLocks 16 = .ok (.aload_n 0, 1) := by decide +kernel
theorem dX6_countLocks_17 : decode cX6_countLocks 17 = .ok (.getfield 16, 3) := by decide +kernel
theorem dX6_countLocks_20 : decode cX6_countLocks 20 = .ok (.iload_n 3, 1) := by decide +kernel
theorem dX6_countLocks_21 : decode cX6_countLocks 21 = .ok (.invokevirtual 66, 3) := by decide +kernel
theorem dX6_countLocks_24 : decode cX6_countLocks 24 = .ok (.checkcast 84, 3) := by decide +kernel
theorem dX6_countLocks_27 : decode cX6_countLocks 27 = .ok (.iload_n 1, 1) := by decide +kernel
theorem dX6_countLocks_28 : decode cX6_countLocks 28 = .ok (.invokevirtual 262, 3) := by decide +kernel
theorem dX6_countLocks_31 : decode cX6_countLocks 31 = .ok (.iadd, 1) := by decide +kernel
theorem dX6_countLocks_32 : decode cX6_countLocks 32 = .ok (.istore_n 2, 1) := by decide +kernel
theorem dX6_countLocks_33 : decode cX6_countLocks 33 = .ok (.iinc 3 1, 3) := by decide +kernel
theorem dX6_countLocks_36 : decode cX6_countLocks 36 = .ok (.goto (-32), 3) := by decide +kernel
theorem dX6_countLocks_39 : decode cX6_countLocks 39 = .ok (.iload_n 2, 1) := by decide +kernel
theorem dX6_countLocks_40 : decode cX6_countLocks 40 = .ok (.ireturn, 1) := by decide +kernel
set_option maxRecDepth 20000 in
theorem ggX6_isFreeFor_Jx4a65c_get_915e3 : GoodIn wsX6_isFreeFor wsJx4a65c_get_915e3 := goodIn_r _ [7, 8, 9, 10, 11, 12, 13, 14, 15, 16, 17, 18, 19, 6, 20, 21, 44, 45, 46] (by decide +kernel) (by decide +kernel)
set_option maxRecDepth 20000 in
theorem gX6_isFreeFor_Jx4a65c_get_915e3 : GoodIn wsX6_isFreeFor (wsV RX6 66 RJx4a65c yJx4a65c_get_915e3 wsJx4a65c_get_915e3) := goodIn_app (goodIn_of _ (by decide +kernel)) ggX6_isFreeFor_Jx4a65c_get_915e3
set_option maxRecDepth 20000 in
theorem ggX6_isFreeFor_X4_isHeldAgainst : GoodIn wsX6_isFreeFor wsX4_isHeldAgainst := goodIn_r _ [26, 27, 28, 29, 25, 30, 31, 37, 38, 39, 40, 41, 42, 43] (by decide +kernel) (by decide +kernel)
set_option maxRecDepth 20000 in
theorem gX6_isFreeFor_X4_isHeldAgainst : GoodIn wsX6_isFreeFor (wsV RX6 153 RX4 yX4_isHeldAgainst wsX4_isHeldAgainst) := goodIn_app (goodIn_of _ (by decide +kernel)) ggX6_isFreeFor_X4_isHeldAgainst
theorem dX6_isFreeFor_0 : decode cX6_isFreeFor 0 = .ok (.aload_n 0, 1) := by decide +kernel
theorem dX6_isFreeFor_1 : decode cX6_isFreeFor 1 = .ok (.getfield 16, 3) := by decide +kernel
theorem dX6_isFreeFor_4 : decode cX6_isFreeFor 4 = .ok (.iload_n 1, 1) := by decide +kernel
theorem dX6_isFreeFor_5 : decode cX6_isFreeFor 5 = .ok (.invokevirtual 66, 3) := by decide +kernel
theorem dX6_isFreeFor_8 : decode cX6_isFreeFor 8 = .ok (.checkcast 84, 3) := by decide +kernel
theorem dX6_isFreeFor_11 : decode cX6_isFreeFor 11 = .ok (.astore 4, 2) := by decide +kernel
theorem dX6_isFreeFor_13 : decode cX6_isFreeFor 13 = .ok (.aload 4, 2) := by decide +kernel
theorem dX6_isFreeFor_15 : decode cX6_isFreeFor 15 = .ok (.iload_n 2, 1) := by decide +kernel
theorem dX6_isFreeFor_16 : decode cX6_isFreeFor 16 = .ok (.iload_n 3, 1) := by decide +kernel
theorem dX6_isFreeFor_17 : decode cX6_isFreeFor 17 = .ok (.invokevirtual 153, 3) := by decide +kernel
theorem dX6_isFreeFor_20 : decode cX6_isFreeFor 20 = .ok (.ifCond .ne 17, 3) := by decide +kernel
theorem dX6_isFreeFor_23 : decode cX6_isFreeFor 23 = .ok (.aload 4, 2) := by decide +kernel
theorem dX6_isFreeFor_25 : decode cX6_isFreeFor 25 = .ok (.getfield 141, 3) := by decide +kernel
theorem dX6_isFreeFor_28 : decode cX6_isFreeFor 28 = .ok (.iload_n 2, 1) := by decide +kernel
theorem dX6_isFreeFor_29 : decode cX6_isFreeFor 29 = .ok (.aaload, 1) := by decide +kernel
theorem dX6_isFreeFor_30 : decode cX6_isFreeFor 30 = .ok (.ifnonnull 7, 3) := by decide +kernel
theorem dX6_isFreeFor_33 : decode cX6_isFreeFor 33 = .ok (.iconst 1, 1) := by decide +kernel
theorem dX6_isFreeFor_34 : decode cX6_isFreeFor 34 = .ok (.goto 4, 3) := by decide +kernel
theorem dX6_isFreeFor_37 : decode cX6_isFreeFor 37 = .ok (.iconst 0, 1) := by decide +kernel
theorem dX6_isFreeFor_38 : decode cX6_isFreeFor 38 = .ok (.ireturn, 1) := by decide +kernel
set_option maxRecDepth 20000 in
theorem ggX6_enter_X1_replacing : GoodIn wsX6_enter wsX1_replacing := goodIn_r _ [6, 7, 8, 5, 9, 10, 11, 12, 13, 14, 15, 16, 121] (by decide +kernel) (by decide +kernel)
set_option maxRecDepth 20000 in
theorem gX6_enter_X1_replacing : GoodIn wsX6_enter (wsV RX6 265 RX1 yX1_replacing wsX1_replacing) := goodIn_app (goodIn_of _ (by decide +kernel)) ggX6_enter_X1_replacing
set_option maxRecDepth 20000 in
theorem ggX6_enter_X6_turnInto : GoodIn wsX6_enter wsX6_turnInto := goodIn_r _ [21, 22, 23, 24, 1, 25, 26, 27, 28, 29, 30, 31, 32, 33, 20, 34, 35, 36, 37, 5, 38, 9, 39, 40, 41, 42, 43, 44, 45, 46, 47, 48, 49, 50, 51, 52, 53, 54, 55, 56, 57, 58, 59, 60, 61, 62, 63, 64, 65, 66, 67, 68, 69, 70, 71, 72, 73, 74, 75, 76, 77, 78, 79, 80, 81, 82, 83, 84, 85, 86, 87, 88, 89, 90, 91, 92, 93, 94, 95, 96, 97, 98, 99, 100, 101, 102, 103, 104, 105, 106, 107, 108, 109, 110, 111, 112, 113, 114, 115, 116, 117, 118, 119, 120, 122, 123, 124, 125, 126, 127, 128, 129, 130, 131, 121, 132, 133, 134] (by decide +kernel) (by decide +kernel)
set_option maxRecDepth 20000 in
theorem gX6_enter_X6_turnInto : GoodIn wsX6_enter (wsV RX6 200 RX6 yX6_turnInto wsX6_turnInto) := goodIn_app (goodIn_of _ (by decide +kernel)) ggX6_enter_X6_turnInto
theorem dX6_enter_0 : decode cX6_enter 0 = .ok (.aload_n 0, 1) := by decide +kernel
theorem dX6_enter_1 : decode cX6_enter 1 = .ok (.aload_n 0, 1) := by decide +kernel
theorem dX6_enter_2 : decode cX6_enter 2 = .ok (.getfield 32, 3) := by decide +kernel
theorem dX6_enter_5 : decode cX6_enter 5 = .ok (.iload_n 1, 1) := by decide +kernel
theorem dX6_enter_6 : decode cX6_enter 6 = .ok (.iload_n 2, 1) := by decide +kernel
theorem dX6_enter_7 : decode cX6_enter 7 = .ok (.aload_n 3, 1) := by decide +kernel
theorem dX6_enter_8 : decode cX6_enter 8 = .ok (.invokevirtual 265, 3) := by decide +kernel
theorem dX6_enter_11 : decode cX6_enter 11 = .ok (.invokevirtual 200, 3) := by decide +kernel
theorem dX6_enter_14 : decode cX6_enter 14 = .ok (.pop, 1) := by decide +kernel
theorem dX6_enter_15 : decode cX6_enter 15 = .ok (.return_, 1) := by decide +kernel
set_option maxRecDepth 20000 in
theorem ggX6_canTurnInto_Jx4a65c_size_8abf5 : GoodIn wsX6_canTurnInto wsJx4a65c_size_8abf5 := goodIn_r _ [6, 7, 64, 65, 66] (by decide +kernel) (by decide +kernel)
set_option maxRecDepth 20000 in
theorem gX6_canTurnInto_Jx4a65c_size_8abf5 : GoodIn wsX6_canTurnInto (wsV RX6 48 RJx4a65c yJx4a65c_size_8abf5 wsJx4a65c_size_8abf5) := goodIn_app (goodIn_of _ (by decide +kernel)) ggX6_canTurnInto_Jx4a65c_size_8abf5
set_option maxRecDepth 20000 in
theorem ggX6_canTurnInto_X6_isChangedBy : GoodIn wsX6_canTurnInto wsX6_isChangedBy := goodIn_r _ [12, 13, 14, 15, 16, 17, 18, 19, 20, 21, 22, 23, 24, 25, 26, 59, 60, 61, 62, 63, 67, 68, 69, 70] (by decide +kernel) (by decide +kernel)
set_option maxRecDepth 20000 in
theorem gX6_canTurnInto_X6_isChangedBy : GoodIn wsX6_canTurnInto (wsV RX6 269 RX6 yX6_isChangedBy wsX6_isChangedBy) := goodIn_app (goodIn_of _ (by decide +kernel)) ggX6_canTurnInto_X6_isChangedBy
set_option maxRecDepth 20000 in
theorem ggX6_canTurnInto_X6_isFreeFor : GoodIn wsX6_canTurnInto wsX6_isFreeFor := goodIn_r _ [30, 1, 31, 32, 33, 34, 5, 35, 7, 36, 37, 38, 39, 40, 41, 42, 43, 44, 45, 46, 47, 48, 49, 50, 51, 52, 53, 54, 55, 56, 57, 58, 59, 60, 61, 62, 63, 71, 72, 73, 74, 75, 76, 77, 64, 65, 66] (by decide +kernel) (by decide +kernel)
set_option maxRecDepth 20000 in
theorem gX6_canTurnInto_X6_isFreeFor : GoodIn wsX6_canTurnInto (wsV RX6 118 RX6 yX6_isFreeFor wsX6_isFreeFor) := goodIn_app (goodIn_of _ (by decide +kernel)) ggX6_canTurnInto_X6_isFreeFor
theorem dX6_canTurnInto_0 : decode cX6_canTurnInto 0 = .ok (.iconst 0, 1) := by decide +kernel
theorem dX6_canTurnInto_1 : decode cX6_canTurnInto 1 = .ok (.istore_n 3, 1) := by decide +kernel
theorem dX6_canTurnInto_2 : decode cX6_canTurnInto 2 = .ok (.iload_n 3, 1) := by decide +kernel
theorem dX6_canTurnInto_3 : decode cX6_canTurnInto 3 = .ok (.aload_n 0, 1) := by decide +kernel
theorem dX6_canTurnInto_4 : decode cX6_canTurnInto 4 = .ok (.getfield 16, 3) := by decide +kernel
theorem dX6_canTurnInto_7 : decode cX6_canTurnInto 7 = .ok (.invokevirtual 48, 3) := by decide +kernel
theorem dX6_canTurnInto_10 : decode cX6_canTurnInto 10 = .ok (.if_icmp .ge 49, 3) := by decide +kernel
theorem dX6_canTurnInto_13 : decode cX6_canTurnInto 13 = .ok (.iconst 0, 1) := by decide +kernel
theorem dX6_canTurnInto_14 : decode cX6_canTurnInto 14 = .ok (.istore 4, 2) := by decide +kernel
theorem dX6_canTurnInto_16 : decode cX6_canTurnInto 16 = .ok (.iload 4, 2) := by decide +kernel
theorem dX6_canTurnInto_18 : decode cX6_canTurnInto 18 = .ok (.bipush 16, 2) := by decide +kernel
theorem dX6_canTurnInto_20 : decode cX6_canTurnInto 20 = .ok (.if_icmp .ge 33, 3) := by decide +kernel
theorem dX6_canTurnInto_23 : decode cX6_canTurnInto 23 = .ok (.aload_n 0, 1) := by decide +kernel
theorem dX6_canTurnInto_24 : decode cX6_canTurnInto 24 = .ok (.aload_n 1, 1) := by decide +kernel
theorem dX6_canTurnInto_25 : decode cX6_canTurnInto 25 = .ok (.iload_n 3, 1) := by decide +kernel
theorem dX6_canTurnInto_26 : decode cX6_canTurnInto 26 = .ok (.iload 4, 2) := by decide +kernel
theorem dX6_canTurnInto_28 : decode cX6_canTurnInto 28 = .ok (.invokevirtual 269, 3) := by decide +kernel
theorem dX6_canTurnInto_31 : decode cX6_canTurnInto 31 = .ok (.ifCond .eq 16, 3) := by decide +kernel
theorem dX6_canTurnInto_34 : decode cX6_canTurnInto 34 = .ok (.aload_n 0, 1) := by decide +kernel
theorem dX6_canTurnInto_35 : decode cX6_canTurnInto 35 = .ok (.iload_n 3, 1) := by decide +kernel
theorem dX6_canTurnInto_36 : decode cX6_canTurnInto 36 = .ok (.iload 4, 2) := by decide +kernel
theorem dX6_canTurnInto_38 : decode cX6_canTurnInto 38 = .ok (.iload_n 2, 1) := by decide +kernel
theorem dX6_canTurnInto_39 : decode cX6_canTurnInto 39 = .ok (.invokevirtual 118, 3) := by decide +kernel
theorem dX6_canTurnInto_42 : decode cX6_canTurnInto 42 = .ok (.ifCond .ne 5, 3) := by decide +kernel
theorem dX6_canTurnInto_45 : decode cX6_canTurnInto 45 = .ok (.iconst 0, 1) := by decide +kernel
theorem dX6_canTurnInto_46 : decode cX6_canTurnInto 46 = .ok (.ireturn, 1) := by decide +kernel
theorem dX6_canTurnInto_47 : decode cX6_canTurnInto 47 = .ok (.iinc 4 1, 3) := by decide +kernel
theorem dX6_canTurnInto_50 : decode cX6_canTurnInto 50 = .ok (.goto (-34), 3) := by decide +kernel
theorem dX6_canTurnInto_53 : decode cX6_canTurnInto 53 = .ok (.iinc 3 1, 3) := by decide +kernel
theorem dX6_canTurnInto_56 : decode cX6_canTurnInto 56 = .ok (.goto (-54), 3) := by decide +kernel
theorem dX6_canTurnInto_59 : decode cX6_canTurnInto 59 = .ok (.iconst 1, 1) := by decide +kernel
theorem dX6_canTurnInto_60 : decode cX6_canTurnInto 60 = .ok (.ireturn, 1) := by decide +kernel
set_option maxRecDepth 20000 in
theorem ggX6_turnInto_Jx4a65c_size_8abf5 : GoodIn wsX6_turnInto wsJx4a65c_size_8abf5 := goodIn_r _ [9, 10, 111, 112, 113] (by decide +kernel) (by decide +kernel)
set_option maxRecDepth 20000 in
theorem gX6_turnInto_Jx4a65c_size_8abf5 : GoodIn wsX6_turnInto (wsV RX6 48 RJx4a65c yJx4a65c_size_8abf5 wsJx4a65c_size_8abf5) := goodIn_app (goodIn_of _ (by decide +kernel)) ggX6_turnInto_Jx4a65c_size_8abf5
set_option maxRecDepth 20000 in
theorem ggX6_turnInto_X6_isChangedBy : GoodIn wsX6_turnInto wsX6_isChangedBy := goodIn_r _ [15, 4, 16, 17, 18, 19, 20, 21, 22, 23, 24, 25, 26, 27, 28, 99, 100, 101, 102, 103, 114, 115, 116, 117] (by decide +kernel) (by decide +kernel)
set_option maxRecDepth 20000 in
theorem gX6_turnInto_X6_isChangedBy : GoodIn wsX6_turnInto (wsV RX6 269 RX6 yX6_isChangedBy wsX6_isChangedBy) := goodIn_app (goodIn_of _ (by decide +kernel)) ggX6_turnInto_X6_isChangedBy
set_option maxRecDepth 20000 in
theorem ggX6_turnInto_Jx4a65c_get_915e3 : GoodIn wsX6_turnInto wsJx4a65c_get_915e3 := goodIn_r _ [32, 10, 33, 34, 35, 36, 37, 38, 39, 40, 41, 42, 43, 8, 44, 45, 111, 112, 113] (by decide +kernel) (by decide +kernel)
set_option maxRecDepth 20000 in
theorem gX6_turnInto_Jx4a65c_get_915e3 : GoodIn wsX6_turnInto (wsV RX6 66 RJx4a65c yJx4a65c_get_915e3 wsJx4a65c_get_915e3) := goodIn_app (goodIn_of _ (by decide +kernel)) ggX6_turnInto_Jx4a65c_get_915e3
set_option maxRecDepth 20000 in
theorem ggX6_turnInto_Jx4a65c_add_9ea2d : GoodIn wsX6_turnInto wsJx4a65c_add_9ea2d := goodIn_r _ [49, 50, 51, 45, 10, 52, 53, 54, 8, 55, 56, 57, 58, 59, 60, 61, 62, 63, 64, 65, 66, 67, 68, 69, 70, 71, 72, 73, 74, 75, 76, 77, 78, 79, 80, 81, 82, 83, 84, 85, 86, 87, 88, 89, 90, 91, 92, 93, 94, 95, 96, 97, 98, 111, 112, 113] (by decide +kernel) (by decide +kernel)
set_option maxRecDepth 20000 in
theorem gX6_turnInto_Jx4a65c_add_9ea2d : GoodIn wsX6_turnInto (wsV RX6 36 RJx4a65c yJx4a65c_add_9ea2d wsJx4a65c_add_9ea2d) := goodIn_app (goodIn_of _ (by decide +kernel)) ggX6_turnInto_Jx4a65c_add_9ea2d
theorem dX6_turnInto_0 : decode cX6_turnInto 0 = .ok (.iconst 0, 1) := by decide +kernel
theorem dX6_turnInto_1 : decode cX6_turnInto 1 = .ok (.istore_n 2, 1) := by decide +kernel
theorem dX6_turnInto_2 : decode cX6_turnInto 2 = .ok (.iconst 0, 1) := by decide +kernel
theorem dX6_turnInto_3 : decode cX6_turnInto 3 = .ok (.istore_n 3, 1) := by decide +kernel
theorem dX6_turnInto_4 : decode cX6_turnInto 4 = .ok (.iload_n 3, 1) := by decide +kernel
theorem dX6_turnInto_5 : decode cX6_turnInto 5 = .ok (.aload_n 0, 1) := by decide +kernel
theorem dX6_turnInto_6 : decode cX6_turnInto 6 = .ok (.getfield 16, 3) := by decide +kernel
theorem dX6_turnInto_9 : decode cX6_turnInto 9 = .ok (.invokevirtual 48, 3) := by decide +kernel
theorem dX6_turnInto_12 : decode cX6_turnInto 12 = .ok (.if_icmp .ge 63, 3) := by decide +kernel
theorem dX6_turnInto_15 : decode cX6_turnInto 15 = .ok (.iconst 0, 1) := by decide +kernel
theorem dX6_turnInto_16 : decode cX6_turnInto 16 = .ok (.istore 4, 2) := by decide +kernel
theorem dX6_turnInto_18 : decode cX6_turnInto 18 = .ok (.iload 4, 2) := by decide +kernel
theorem dX6_turnInto_20 : decode cX6_turnInto 20 = .ok (.bipush 16, 2) := by decide +kernel
theorem dX6_turnInto_22 : decode cX6_turnInto 22 = .ok (.if_icmp .ge 47, 3) := by decide +kernel
theorem dX6_turnInto_25 : decode cX6_turnInto 25 = .ok (.aload_n 0, 1) := by decide +kernel
theorem dX6_turnInto_26 : decode cX6_turnInto 26 = .ok (.aload_n 1, 1) := by decide +kernel
theorem dX6_turnInto_27 : decode cX6_turnInto 27 = .ok (.iload_n 3, 1) := by decide +kernel
theorem dX6_turnInto_28 : decode cX6_turnInto 28 = .ok (.iload 4, 2) := by decide +kernel
theorem dX6_turnInto_30 : decode cX6_turnInto 30 = .ok (.invokevirtual 269, 3) := by decide +kernel
theorem dX6_turnInto_33 : decode cX6_turnInto 33 = .ok (.ifCond .eq 30, 3) := by decide +kernel
theorem dX6_turnInto_36 : decode cX6_turnInto 36 = .ok (.aload_n 0, 1) := by decide +kernel
theorem dX6_turnInto_37 : decode cX6_turnInto 37 = .ok (.getfield 16, 3) := by decide +kernel
theorem dX6_turnInto_40 : decode cX6_turnInto 40 = .ok (.iload_n 3, 1) := by decide +kernel
theorem dX6_turnInto_41 : decode cX6_turnInto 41 = .ok (.invokevirtual 66, 3) := by decide +kernel
theorem dX6_turnInto_44 : decode cX6_turnInto 44 = .ok (.checkcast 84, 3) := by decide +kernel
theorem dX6_turnInto_47 : decode cX6_turnInto 47 = .ok (.getfield 190, 3) := by decide +kernel
theorem dX6_turnInto_50 : decode cX6_turnInto 50 = .ok (.iload 4, 2) := by decide +kernel
theorem dX6_turnInto_52 : decode cX6_turnInto 52 = .ok (.aload_n 0, 1) := by decide +kernel
theorem dX6_turnInto_53 : decode cX6_turnInto 53 = .ok (.getfield 19, 3) := by decide +kernel
theorem dX6_turnInto_56 : decode cX6_turnInto 56 = .ok (.invokevirtual 48, 3) := by decide +kernel
theorem dX6_turnInto_59 : decode cX6_turnInto 59 = .ok (.iastore, 1) := by decide +kernel
theorem dX6_turnInto_60 : decode cX6_turnInto 60 = .ok (.iinc 2 1, 3) := by decide +kernel
theorem dX6_turnInto_63 : decode cX6_turnInto 63 = .ok (.iinc 4 1, 3) := by decide +kernel
theorem dX6_turnInto_66 : decode cX6_turnInto 66 = .ok (.goto (-48), 3) := by decide +kernel
theorem dX6_turnInto_69 : decode cX6_turnInto 69 = .ok (.iinc 3 1, 3) := by decide +kernel
theorem dX6_turnInto_72 : decode cX6_turnInto 72 = .ok (.goto (-68), 3) := by decide +kernel
theorem dX6_turnInto_75 : decode cX6_turnInto 75 = .ok (.iload_n 2, 1) := by decide +kernel
theorem dX6_turnInto_76 : decode cX6_turnInto 76 = .ok (.ifCond .le 17, 3) := by decide +kernel
theorem dX6_turnInto_79 : decode cX6_turnInto 79 = .ok (.aload_n 0, 1) := by decide +kernel
theorem dX6_turnInto_80 : decode cX6_turnInto 80 = .ok (.getfield 19, 3) := by decide +kernel
theorem dX6_turnInto_83 : decode cX6_turnInto 83 = .ok (.aload_n 1, 1) := by decide +kernel
theorem dX6_turnInto_84 : decode cX6_turnInto 84 = .ok (.invokevirtual 36, 3) := by decide +kernel
theorem dX6_turnInto_87 : decode cX6_turnInto 87 = .ok (.pop, 1) := by decide +kernel
theorem dX6_turnInto_88 : decode cX6_turnInto 88 = .ok (.aload_n 0, 1) := by decide +kernel
theorem dX6_turnInto_89 : decode cX6_turnInto 89 = .ok (.aload_n 1, 1) := by decide +kernel
theorem dX6_turnInto_90 : decode cX6_turnInto 90 = .ok (.putfield 32, 3) := by decide +kernel
theorem dX6_turnInto_93 : decode cX6_turnInto 93 = .ok (.iload_n 2, 1) := by decide +kernel
theorem dX6_turnInto_94 : decode cX6_turnInto 94 = .ok (.ireturn, 1) := by decide +kernel
set_option maxRecDepth 20000 in
theorem ggX6_isChangedBy_X1_entryOf : GoodIn wsX6_isChangedBy wsX1_entryOf := goodIn_r _ [6, 7, 20] (by decide +kernel) (by decide +kernel)
set_option maxRecDepth 20000 in
theorem gX6_isChangedBy_X1_entryOf : GoodIn wsX6_isChangedBy (wsV RX6 137 RX1 yX1_entryOf wsX1_entryOf) := goodIn_app (goodIn_of _ (by decide +kernel)) ggX6_isChangedBy_X1_entryOf
set_option maxRecDepth 20000 in
theorem ggX6_isChangedBy_X2_areSame : GoodIn wsX6_isChangedBy wsX2_areSame := goodIn_r _ [11, 12, 13, 14, 21, 22, 23] (by decide +kernel) (by decide +kernel)
set_option maxRecDepth 20000 in
theorem gX6_isChangedBy_X2_areSame : GoodIn wsX6_isChangedBy (va_wsS RX6 273 yX2_areSame wsX2_areSame) := goodIn_app (goodIn_of _ (by decide +kernel)) ggX6_isChangedBy_X2_areSame
theorem dX6_isChangedBy_0 : decode cX6_isChangedBy 0 = .ok (.aload_n 0, 1) := by decide +kernel
theorem dX6_isChangedBy_1 : decode cX6_isChangedBy 1 = .ok (.getfield 32, 3) := by decide +kernel
theorem dX6_isChangedBy_4 : decode cX6_isChangedBy 4 = .ok (.iload_n 2, 1) := by decide +kernel
theorem dX6_isChangedBy_5 : decode cX6_isChangedBy 5 = .ok (.iload_n 3, 1) := by decide +kernel
theorem dX6_isChangedBy_6 : decode cX6_isChangedBy 6 = .ok (.invokevirtual 137, 3) := by decide +kernel
theorem dX6_isChangedBy_9 : decode cX6_isChangedBy 9 = .ok (.aload_n 1, 1) := by decide +kernel
theorem dX6_isChangedBy_10 : decode cX6_isChangedBy 10 = .ok (.iload_n 2, 1) := by decide +kernel
theorem dX6_isChangedBy_11 : decode cX6_isChangedBy 11 = .ok (.iload_n 3, 1) := by decide +kernel
theorem dX6_isChangedBy_12 : decode cX6_isChangedBy 12 = .ok (.invokevirtual 137, 3) := by decide +kernel
theorem dX6_isChangedBy_15 : decode cX6_isChangedBy 15 = .ok (.invokestatic 273, 3) := by decide +kernel
theorem dX6_isChangedBy_18 : decode cX6_isChangedBy 18 = .ok (.ifCond .ne 7, 3) := by decide +kernel
theorem dX6_isChangedBy_21 : decode cX6_isChangedBy 21 = .ok (.iconst 1, 1) := by decide +kernel
theorem dX6_isChangedBy_22 : decode cX6_isChangedBy 22 = .ok (.goto 4, 3) := by decide +kernel
theorem dX6_isChangedBy_25 : decode cX6_isChangedBy 25 = .ok (.iconst 0, 1) := by decide +kernel
theorem dX6_isChangedBy_26 : decode cX6_isChangedBy 26 = .ok (.ireturn, 1) := by decide +kernel
set_option maxRecDepth 20000 in
theorem ggX6_ask_X3_begin : GoodIn wsX6_ask wsX3_begin := goodIn_r _ [7, 8, 9, 10, 11, 12, 13, 14, 15, 120, 121, 122, 123, 124, 125, 126, 127, 128] (by decide +kernel) (by decide +kernel)
set_option maxRecDepth 20000 in
theorem gX6_ask_X3_begin : GoodIn wsX6_ask (wsV RX6 220 RX3 yX3_begin wsX3_begin) := goodIn_app (goodIn_of _ (by decide +kernel)) ggX6_ask_X3_begin
set_option maxRecDepth 20000 in
theorem ggX6_ask_X6_workOut : GoodIn wsX6_ask wsX6_workOut := goodIn_r _ [20, 1, 21, 22, 19, 23, 24, 25, 26, 6, 27, 13, 28, 29, 30, 31, 12, 32, 33, 34, 35, 14, 15, 36, 37, 38, 39, 40, 41, 42, 43, 44, 45, 46, 47, 48, 49, 50, 51, 52, 53, 54, 55, 56, 57, 58, 59, 60, 61, 62, 63, 64, 65, 66, 67, 68, 69, 70, 71, 72, 73, 74, 75, 76, 77, 78, 79, 80, 81, 82, 83, 84, 85, 86, 87, 88, 89, 90, 91, 92, 93, 94, 95, 96, 97, 98, 99, 100, 101, 102, 103, 104, 105, 106, 107, 108, 109, 110, 111, 112, 113, 114, 16, 17, 18, 115, 116, 117, 118, 119, 120, 121, 122, 123, 124, 125, 126, 127, 128, 129, 130, 131, 132, 133, 134, 135, 136, 137, 138, 139, 140, 141, 142, 143, 144, 145, 146] (by decide +kernel) (by decide +kernel)
set_option maxRecDepth 20000 in
theorem gX6_ask_X6_workOut : GoodIn wsX6_ask (wsV RX6 277 RX6 yX6_workOut wsX6_workOut) := goodIn_app (goodIn_of _ (by decide +kernel)) ggX6_ask_X6_workOut
theorem dX6_ask_0 : decode cX6_ask 0 = .ok (.aload_n 0, 1) := by decide +kernel
theorem dX6_ask_1 : decode cX6_ask 1 = .ok (.getfield 25, 3) := by decide +kernel
theorem dX6_ask_4 : decode cX6_ask 4 = .ok (.iload_n 1, 1) := by decide +kernel
theorem dX6_ask_5 : decode cX6_ask 5 = .ok (.aload_n 0, 1) := by decide +kernel
theorem dX6_ask_6 : decode cX6_ask 6 = .ok (.getfield 32, 3) := by decide +kernel
theorem dX6_ask_9 : decode cX6_ask 9 = .ok (.iconst 1, 1) := by decide +kernel
theorem dX6_ask_10 : decode cX6_ask 10 = .ok (.invokevirtual 220, 3) := by decide +kernel
theorem dX6_ask_13 : decode cX6_ask 13 = .ok (.aload_n 0, 1) := by decide +kernel
theorem dX6_ask_14 : decode cX6_ask 14 = .ok (.iload_n 2, 1) := by decide +kernel
theorem dX6_ask_15 : decode cX6_ask 15 = .ok (.invokevirtual 277, 3) := by decide +kernel
theorem dX6_ask_18 : decode cX6_ask 18 = .ok (.pop, 1) := by decide +kernel
theorem dX6_ask_19 : decode cX6_ask 19 = .ok (.return_, 1) := by decide +kernel
set_option maxRecDepth 20000 in
theorem ggX6_askAt_Jx4a65c_get_915e3 : GoodIn wsX6_askAt wsJx4a65c_get_915e3 := goodIn_r _ [8, 9, 10, 11, 12, 13, 14, 15, 16, 17, 18, 19, 20, 7, 21, 22, 121, 122, 123] (by decide +kernel) (by decide +kernel)
set_option maxRecDepth 20000 in
theorem gX6_askAt_Jx4a65c_get_915e3 : GoodIn wsX6_askAt (wsV RX6 66 RJx4a65c yJx4a65c_get_915e3 wsJx4a65c_get_915e3) := goodIn_app (goodIn_of _ (by decide +kernel)) ggX6_askAt_Jx4a65c_get_915e3
set_option maxRecDepth 20000 in
theorem ggX6_askAt_X3_begin : GoodIn wsX6_askAt wsX3_begin := goodIn_r _ [27, 28, 29, 30, 31, 32, 33, 34, 35, 124, 125, 126, 127, 128, 129, 130, 131, 132] (by decide +kernel) (by decide +kernel)
set_option maxRecDepth 20000 in
theorem gX6_askAt_X3_begin : GoodIn wsX6_askAt (wsV RX6 220 RX3 yX3_begin wsX3_begin) := goodIn_app (goodIn_of _ (by decide +kernel)) ggX6_askAt_X3_begin
set_option maxRecDepth 20000 in
theorem ggX6_askAt_X6_workOut : GoodIn wsX6_askAt wsX6_workOut := goodIn_r _ [40, 1, 41, 42, 39, 43, 44, 45, 46, 26, 47, 33, 48, 49, 50, 51, 32, 52, 53, 54, 55, 34, 35, 56, 57, 58, 59, 60, 61, 62, 63, 7, 64, 9, 65, 66, 67, 68, 69, 70, 71, 4, 5, 6, 8, 10, 11, 12, 13, 14, 15, 16, 17, 18, 19, 20, 21, 22, 72, 73, 74, 75, 76, 77, 78, 79, 80, 81, 82, 83, 84, 85, 86, 87, 88, 89, 90, 91, 92, 93, 94, 95, 96, 97, 98, 99, 100, 101, 102, 103, 104, 105, 106, 107, 108, 109, 110, 111, 112, 113, 114, 115, 36, 37, 38, 116, 117, 118, 119, 120, 124, 125, 126, 127, 128, 129, 130, 131, 132, 133, 134, 135, 121, 122, 123, 136, 137, 138, 139, 140, 141, 142, 143, 144, 145, 146, 147] (by decide +kernel) (by decide +kernel)
set_option maxRecDepth 20000 in
theorem gX6_askAt_X6_workOut : GoodIn wsX6_askAt (wsV RX6 277 RX6 yX6_workOut wsX6_workOut) := goodIn_app (goodIn_of _ (by decide +kernel)) ggX6_askAt_X6_workOut
theorem dX6_askAt_0 : decode cX6_askAt 0 = .ok (.aload_n 0, 1) := by decide +kernel
theorem dX6_askAt_1 : decode cX6_askAt 1 = .ok (.getfield 25, 3) := by decide +kernel
theorem dX6_askAt_4 : decode cX6_askAt 4 = .ok (.iload_n 2, 1) := by decide +kernel
theorem dX6_askAt_5 : decode cX6_askAt 5 = .ok (.aload_n 0, 1) := by decide +kernel
theorem dX6_askAt_6 : decode cX6_askAt 6 = .ok (.getfield 19, 3) := by decide +kernel
theorem dX6_askAt_9 : decode cX6_askAt 9 = .ok (.iload_n 1, 1) := by decide +kernel
theorem dX6_askAt_10 : decode cX6_askAt 10 = .ok (.invokevirtual 66, 3) := by decide +kernel
theorem dX6_askAt_13 : decode cX6_askAt 13 = .ok (.checkcast 29, 3) := by decide +kernel
theorem dX6_askAt_16 : decode cX6_askAt 16 = .ok (.iconst 0, 1) := by decide +kernel
theorem dX6_askAt_17 : decode cX6_askAt 17 = .ok (.invokevirtual 220, 3) := by decide +kernel
theorem dX6_askAt_20 : decode cX6_askAt 20 = .ok (.aload_n 0, 1) := by decide +kernel
theorem dX6_askAt_21 : decode cX6_askAt 21 = .ok (.iload_n 3, 1) := by decide +kernel
theorem dX6_askAt_22 : decode cX6_askAt 22 = .ok (.invokevirtual 277, 3) := by decide +kernel
theorem dX6_askAt_25 : decode cX6_askAt 25 = .ok (.pop, 1) := by decide +kernel
theorem dX6_askAt_26 : decode cX6_askAt 26 = .ok (.return_, 1) := by decide +kernel
set_option maxRecDepth 20000 in
theorem ggX6_differIn_X6_ask : GoodIn wsX6_differIn wsX6_ask := goodIn_r _ [6, 1, 7, 8, 9, 10, 11, 12, 13, 14, 15, 16, 17, 18, 19, 20, 21, 22, 23, 5, 24, 25, 26, 27, 28, 29, 30, 31, 32, 33, 34, 35, 36, 37, 38, 39, 40, 41, 42, 43, 44, 45, 46, 47, 48, 49, 50, 51, 52, 53, 54, 55, 56, 57, 58, 59, 60, 61, 62, 63, 64, 65, 66, 67, 68, 69, 70, 71, 72, 73, 74, 75, 76, 77, 78, 79, 80, 81, 82, 83, 84, 85, 86, 87, 88, 89, 90, 91, 92, 93, 94, 95, 96, 97, 98, 99, 100, 101, 102, 103, 104, 105, 106, 107, 108, 109, 110, 111, 112, 113, 114, 115, 116, 117, 118, 119, 120, 121, 122, 123, 124, 125, 126, 127, 128, 129, 130, 131, 132, 133, 134, 135, 136, 137, 138, 139, 140, 141, 142, 143, 144, 145, 146, 147, 148, 149, 150] (by decide +kernel) (by decide +kernel)
set_option maxRecDepth 20000 in
theorem gX6_differIn_X6_ask : GoodIn wsX6_differIn (wsV RX6 207 RX6 yX6_ask wsX6_ask) := goodIn_app (goodIn_of _ (by decide +kernel)) ggX6_differIn_X6_ask
theorem dX6_differIn_0 : decode cX6_differIn 0 = .ok (.aload_n 0, 1) := by decide +kernel
theorem dX6_differIn_1 : decode cX6_differIn 1 = .ok (.iload_n 1, 1) := by decide +kernel
theorem dX6_differIn_2 : decode cX6_differIn 2 = .ok (.iload_n 3, 1) := by decide +kernel
theorem dX6_differIn_3 : decode cX6_differIn 3 = .ok (.invokevirtual 207, 3) := by decide +kernel
theorem dX6_differIn_6 : decode cX6_differIn 6 = .ok (.aload_n 0, 1) := by decide +kernel
theorem dX6_differIn_7 : decode cX6_differIn 7 = .ok (.getfield 25, 3) := by decide +kernel
theorem dX6_differIn_10 : decode cX6_differIn 10 = .ok (.getfield 210, 3) := by decide +kernel
theorem dX6_differIn_13 : decode cX6_differIn 13 = .ok (.ifCond .ne 7, 3) := by decide +kernel
theorem dX6_differIn_16 : decode cX6_differIn 16 = .ok (.iconst 1, 1) := by decide +kernel
theorem dX6_differIn_17 : decode cX6_differIn 17 = .ok (.goto 4, 3) := by decide +kernel
theorem dX6_differIn_20 : decode cX6_differIn 20 = .ok (.iconst 0, 1) := by decide +kernel
theorem dX6_differIn_21 : decode cX6_differIn 21 = .ok (.istore 4, 2) := by decide +kernel
theorem dX6_differIn_23 : decode cX6_differIn 23 = .ok (.aload_n 0, 1) := by decide +kernel
theorem dX6_differIn_24 : decode cX6_differIn 24 = .ok (.getfield 25, 3) := by decide +kernel
theorem dX6_differIn_27 : decode cX6_differIn 27 = .ok (.getfield 213, 3) := by decide +kernel
theorem dX6_differIn_30 : decode cX6_differIn 30 = .ok (.iload_n 3, 1) := by decide +kernel
theorem dX6_differIn_31 : decode cX6_differIn 31 = .ok (.laload, 1) := by decide +kernel
theorem dX6_differIn_32 : decode cX6_differIn 32 = .ok (.lstore 5, 2) := by decide +kernel
theorem dX6_differIn_34 : decode cX6_differIn 34 = .ok (.aload_n 0, 1) := by decide +kernel
theorem dX6_differIn_35 : decode cX6_differIn 35 = .ok (.iload_n 2, 1) := by decide +kernel
theorem dX6_differIn_36 : decode cX6_differIn 36 = .ok (.iload_n 3, 1) := by decide +kernel
theorem dX6_differIn_37 : decode cX6_differIn 37 = .ok (.invokevirtual 207, 3) := by decide +kernel
theorem dX6_differIn_40 : decode cX6_differIn 40 = .ok (.iload 4, 2) := by decide +kernel
theorem dX6_differIn_42 : decode cX6_differIn 42 = .ok (.aload_n 0, 1) := by decide +kernel
theorem dX6_differIn_43 : decode cX6_differIn 43 = .ok (.getfield 25, 3) := by decide +kernel
theorem dX6_differIn_46 : decode cX6_differIn 46 = .ok (.getfield 210, 3) := by decide +kernel
theorem dX6_differIn_49 : decode cX6_differIn 49 = .ok (.ifCond .ne 7, 3) := by decide +kernel
theorem dX6_differIn_52 : decode cX6_differIn 52 = .ok (.iconst 1, 1) := by decide +kernel
theorem dX6_differIn_53 : decode cX6_differIn 53 = .ok (.goto 4, 3) := by decide +kernel
theorem dX6_differIn_56 : decode cX6_differIn 56 = .ok (.iconst 0, 1) := by decide +kernel
theorem dX6_differIn_57 : decode cX6_differIn 57 = .ok (.if_icmp .eq 5, 3) := by decide +kernel
theorem dX6_differIn_60 : decode cX6_differIn 60 = .ok (.iconst 1, 1) := by decide +kernel
theorem dX6_differIn_61 : decode cX6_differIn 61 = .ok (.ireturn, 1) := by decide +kernel
theorem dX6_differIn_62 : decode cX6_differIn 62 = .ok (.iload 4, 2) := by decide +kernel
theorem dX6_differIn_64 : decode cX6_differIn 64 = .ok (.ifCond .eq 22, 3) := by decide +kernel
theorem dX6_differIn_67 : decode cX6_differIn 67 = .ok (.lload 5, 2) := by decide +kernel
theorem dX6_differIn_69 : decode cX6_differIn 69 = .ok (.aload_n 0, 1) := by decide +kernel
theorem dX6_differIn_70 : decode cX6_differIn 70 = .ok (.getfield 25, 3) := by decide +kernel
theorem dX6_differIn_73 : decode cX6_differIn 73 = .ok (.getfield 213, 3) := by decide +kernel
theorem dX6_differIn_76 : decode cX6_differIn 76 = .ok (.iload_n 3, 1) := by decide +kernel
theorem dX6_differIn_77 : decode cX6_differIn 77 = .ok (.laload, 1) := by decide +kernel
theorem dX6_differIn_78 : decode cX6_differIn 78 = .ok (.lcmp, 1) := by decide +kernel
theorem dX6_differIn_79 : decode cX6_differIn 79 = .ok (.ifCond .eq 7, 3) := by decide +kernel
theorem dX6_differIn_82 : decode cX6_differIn 82 = .ok (.iconst 1, 1) := by decide +kernel
theorem dX6_differIn_83 : decode cX6_differIn 83 = .ok (.goto 4, 3) := by decide +kernel
theorem dX6_differIn_86 : decode cX6_differIn 86 = .ok (.iconst 0, 1) := by decide +kernel
theorem dX6_differIn_87 : decode cX6_differIn 87 = .ok (.ireturn, 1) := by decide +kernel
set_option maxRecDepth 20000 in
theorem ggX6_workOut_X6_bit : GoodIn wsX6_workOut wsX6_bit := goodIn_r _ [5] (by decide +kernel) (by decide +kernel)
set_option maxRecDepth 20000 in
theorem gX6_workOut_X6_bit : GoodIn wsX6_workOut (va_wsS RX6 233 yX6_bit wsX6_bit) := goodIn_app (goodIn_of _ (by decide +kernel)) ggX6_workOut_X6_bit
set_option maxRecDepth 20000 in
theorem ggX6_workOut_X3_isKnown : GoodIn wsX6_workOut wsX3_isKnown := goodIn_r _ [10, 11, 3, 4, 5, 110, 111, 112, 113, 114, 115, 116, 117, 118] (by decide +kernel) (by decide +kernel)
set_option maxRecDepth 20000 in
theorem gX6_workOut_X3_isKnown : GoodIn wsX6_workOut (wsV RX6 280 RX3 yX3_isKnown wsX3_isKnown) := goodIn_app (goodIn_of _ (by decide +kernel)) ggX6_workOut_X3_isKnown
set_option maxRecDepth 20000 in
theorem ggX6_workOut_X3_isUnderWay : GoodIn wsX6_workOut wsX3_isUnderWay := goodIn_r _ [15, 16, 3, 4, 5, 110, 111, 112, 113, 114, 115, 116, 117, 118] (by decide +kernel) (by decide +kernel)
set_option maxRecDepth 20000 in
theorem gX6_workOut_X3_isUnderWay : GoodIn wsX6_workOut (wsV RX6 283 RX3 yX3_isUnderWay wsX3_isUnderWay) := goodIn_app (goodIn_of _ (by decide +kernel)) ggX6_workOut_X3_isUnderWay
set_option maxRecDepth 20000 in
theorem ggX6_workOut_X3_fail : GoodIn wsX6_workOut wsX3_fail := goodIn_r _ [20, 21, 22, 110, 111, 112, 113, 114, 115, 116, 117, 118] (by decide +kernel) (by decide +kernel)
set_option maxRecDepth 20000 in
theorem gX6_workOut_X3_fail : GoodIn wsX6_workOut (wsV RX6 286 RX3 yX3_fail wsX3_fail) := goodIn_app (goodIn_of _ (by decide +kernel)) ggX6_workOut_X3_fail
set_option maxRecDepth 20000 in
theorem ggX6_workOut_X6_decidingLayer : GoodIn wsX6_workOut wsX6_decidingLayer := goodIn_r _ [26, 27, 1, 28, 29, 30, 31, 32, 33, 34, 35, 36, 4, 37, 38, 39, 40, 41, 42, 43, 44, 45, 46, 47, 48, 49, 50, 51, 52, 53, 54, 55, 56, 57, 58, 59, 60, 61, 62, 63, 64, 65, 66, 67, 68, 69, 70, 71, 72, 73, 74, 75, 76, 77, 78, 79, 80, 81, 82, 83, 84, 85, 86, 87, 88, 105, 106, 107, 108, 109, 110, 111, 112, 113, 114, 115, 116, 117, 118, 122, 123, 124, 125, 126, 127, 128, 129, 130, 131, 132, 133, 134, 135, 136] (by decide +kernel) (by decide +kernel)
set_option maxRecDepth 20000 in
theorem gX6_workOut_X6_decidingLayer : GoodIn wsX6_workOut (wsV RX6 224 RX6 yX6_decidingLayer wsX6_decidingLayer) := goodIn_app (goodIn_of _ (by decide +kernel)) ggX6_workOut_X6_decidingLayer
set_option maxRecDepth 20000 in
theorem ggX6_workOut_X6_shownEntry : GoodIn wsX6_workOut wsX6_shownEntry := goodIn_r _ [68, 1, 27, 38, 41, 42, 43, 31, 44, 33, 45, 46, 47, 48, 49, 50, 51, 52, 53, 54, 55, 56, 57, 69, 70, 71, 61, 72, 73, 74, 75, 76, 77, 78, 79, 80, 81, 82, 83, 84, 105, 106, 107, 108, 109, 110, 111, 112, 113, 114, 115, 116, 117, 118, 122, 123, 124, 125, 126, 127, 128, 129, 130, 131, 134, 135, 136] (by decide +kernel) (by decide +kernel)
set_option maxRecDepth 20000 in
theorem gX6_workOut_X6_shownEntry : GoodIn wsX6_workOut (wsV RX6 289 RX6 yX6_shownEntry wsX6_shownEntry) := goodIn_app (goodIn_of _ (by decide +kernel)) ggX6_workOut_X6_shownEntry
set_option maxRecDepth 20000 in
theorem ggX6_workOut_X6_workOutParts : GoodIn wsX6_workOut wsX6_workOutParts := goodIn_r _ [101, 102, 103, 104, 4, 0, 1, 2, 3, 5, 6, 7, 8, 9, 10, 11, 12, 13, 14, 15, 16, 17, 18, 19, 20, 21, 22, 23, 24, 25, 26, 27, 28, 29, 30, 31, 32, 33, 34, 35, 36, 37, 38, 39, 40, 41, 42, 43, 44, 45, 46, 47, 48, 49, 50, 51, 52, 53, 54, 55, 56, 57, 58, 59, 60, 61, 62, 63, 64, 65, 66, 67, 68, 69, 70, 71, 72, 73, 74, 75, 76, 77, 78, 79, 80, 81, 82, 83, 84, 85, 86, 87, 88, 89, 90, 91, 92, 93, 94, 95, 96, 97, 98, 99, 100, 105, 106, 107, 108, 109, 110, 111, 112, 113, 114, 115, 116, 117, 118, 119, 120, 121, 122, 123, 124, 125, 126, 127, 128, 129, 130, 131, 132, 133, 134, 135, 136] (by decide +kernel) (by decide +kernel)
set_option maxRecDepth 20000 in
theorem gX6_workOut_X6_workOutParts : GoodIn wsX6_workOut (wsV RX6 295 RX6 yX6_workOutParts wsX6_workOutParts) := goodIn_app (goodIn_of _ (by decide +kernel)) ggX6_workOut_X6_workOutParts
set_option maxRecDepth 20000 in
theorem ggX6_workOut_X6_partOf : GoodIn wsX6_workOut wsX6_partOf := goodIn_r _ [95, 1, 105, 106, 107, 108, 109, 110, 111, 112, 113, 114, 115, 116, 117, 118] (by decide +kernel) (by decide +kernel)
set_option maxRecDepth 20000 in
theorem gX6_workOut_X6_partOf : GoodIn wsX6_workOut (wsV RX6 305 RX6 yX6_partOf wsX6_partOf) := goodIn_app (goodIn_of _ (by decide +kernel)) ggX6_workOut_X6_partOf
set_option maxRecDepth 20000 in
theorem ggX6_workOut_X3_finish : GoodIn wsX6_workOut wsX3_finish := goodIn_r _ [99, 100, 16, 11, 3, 4, 5, 110, 111, 112, 113, 114, 115, 116, 117, 118] (by decide +kernel) (by decide +kernel)
set_option maxRecDepth 20000 in
theorem gX6_workOut_X3_finish : GoodIn wsX6_workOut (wsV RX6 312 RX3 yX3_finish wsX3_finish) := goodIn_app (goodIn_of _ (by decide +kernel)) ggX6_workOut_X3_finish
theorem dX6_workOut_0 : decode cX6_workOut 0 = .ok (.aload_n 0, 1) := by decide +kernel
theorem dX6_workOut_1 : decode cX6_workOut 1 = .ok (.getfield 25, 3) := by decide +kernel
theorem dX6_workOut_4 : decode cX6_workOut 4 = .ok (.dup, 1) := by decide +kernel
theorem dX6_workOut_5 : decode cX6_workOut 5 = .ok (.getfield 230, 3) := by decide +kernel
theorem dX6_workOut_8 : decode cX6_workOut 8 = .ok (.iload_n 1, 1) := by decide +kernel
theorem dX6_workOut_9 : decode cX6_workOut 9 = .ok (.invokestatic 233, 3) := by decide +kernel
theorem dX6_workOut_12 : decode cX6_workOut 12 = .ok (.ior, 1) := by decide +kernel
theorem dX6_workOut_13 : decode cX6_workOut 13 = .ok (.putfield 230, 3) := by decide +kernel
theorem dX6_workOut_16 : decode cX6_workOut 16 = .ok (.aload_n 0, 1) := by decide +kernel
theorem dX6_workOut_17 : decode cX6_workOut 17 = .ok (.getfield 25, 3) := by decide +kernel
theorem dX6_workOut_20 : decode cX6_workOut 20 = .ok (.iload_n 1, 1) := by decide +kernel
theorem dX6_workOut_21 : decode cX6_workOut 21 = .ok (.invokevirtual 280, 3) := by decide +kernel
theorem dX6_workOut_24 : decode cX6_workOut 24 = .ok (.ifCond .eq 5, 3) := by decide +kernel
theorem dX6_workOut_27 : decode cX6_workOut 27 = .ok (.iconst 1, 1) := by decide +kernel
theorem dX6_workOut_28 : decode cX6_workOut 28 = .ok (.ireturn, 1) := by decide +kernel
theorem dX6_workOut_29 : decode cX6_workOut 29 = .ok (.aload_n 0, 1) := by decide +kernel
theorem dX6_workOut_30 : decode cX6_workOut 30 = .ok (.getfield 25, 3) := by decide +kernel
theorem dX6_workOut_33 : decode cX6_workOut 33 = .ok (.iload_n 1, 1) := by decide +kernel
theorem dX6_workOut_34 : decode cX6_workOut 34 = .ok (.invokevirtual 283, 3) := by decide +kernel
theorem dX6_workOut_37 : decode cX6_workOut 37 = .ok (.ifCond .eq 13, 3) := by decide +kernel
theorem dX6_workOut_40 : decode cX6_workOut 40 = .ok (.aload_n 0, 1) := by decide +kernel
theorem dX6_workOut_41 : decode cX6_workOut 41 = .ok (.getfield 25, 3) := by decide +kernel
theorem dX6_workOut_44 : decode cX6_workOut 44 = .ok (.iconst 2, 1) := by decide +kernel
theorem dX6_workOut_45 : decode cX6_workOut 45 = .ok (.iload_n 1, 1) := by decide +kernel
theorem dX6_workOut_46 : decode cX6_workOut 46 = .ok (.invokevirtual 286, 3) := by decide +kernel
theorem dX6_workOut_49 : decode cX6_workOut 49 = .ok (.ireturn, 1) := by decide +kernel
theorem dX6_workOut_50 : decode cX6_workOut 50 = .ok (.aload_n 0, 1) := by decide +kernel
theorem dX6_workOut_51 : decode cX6_workOut 51 = .ok (.iload_n 1, 1) := by decide +kernel
theorem dX6_workOut_52 : decode cX6_workOut 52 = .ok (.invokevirtual 224, 3) := by decide +kernel
theorem dX6_workOut_55 : decode cX6_workOut 55 = .ok (.istore_n 2, 1) := by decide +kernel
theorem dX6_workOut_56 : decode cX6_workOut 56 = .ok (.iload_n 2, 1) := by decide +kernel
theorem dX6_workOut_57 : decode cX6_workOut 57 = .ok (.iconst (-1), 1) := by decide +kernel
theorem dX6_workOut_58 : decode cX6_workOut 58 = .ok (.if_icmp .ne 7, 3) := by decide +kernel
theorem dX6_workOut_61 : decode cX6_workOut 61 = .ok (.aconst_null, 1) := by decide +kernel
theorem dX6_workOut_62 : decode cX6_workOut 62 = .ok (.goto 9, 3) := by decide +kernel
theorem dX6_workOut_65 : decode cX6_workOut 65 = .ok (.aload_n 0, 1) := by decide +kernel
theorem dX6_workOut_66 : decode cX6_workOut 66 = .ok (.iload_n 2, 1) := by decide +kernel
theorem dX6_workOut_67 : decode cX6_workOut 67 = .ok (.iload_n 1, 1) := by decide +kernel
theorem dX6_workOut_68 : decode cX6_workOut 68 = .ok (.invokevirtual 289, 3) := by decide +kernel
theorem dX6_workOut_71 : decode cX6_workOut 71 = .ok (.astore_n 3, 1) := by decide +kernel
theorem dX6_workOut_72 : decode cX6_workOut 72 = .ok (.aload_n 3, 1) := by decide +kernel
theorem dX6_workOut_73 : decode cX6_workOut 73 = .ok (.ifnonnull 13, 3) := by decide +kernel
theorem dX6_workOut_76 : decode cX6_workOut 76 = .ok (.aload_n 0, 1) := by decide +kernel
theorem dX6_workOut_77 : decode cX6_workOut 77 = .ok (.getfield 25, 3) := by decide +kernel
theorem dX6_workOut_80 : decode cX6_workOut 80 = .ok (.iconst 1, 1) := by decide +kernel
theorem dX6_workOut_81 : decode cX6_workOut 81 = .ok (.iload_n 1, 1) := by decide +kernel
theorem dX6_workOut_82 : decode cX6_workOut 82 = .ok (.invokevirtual 286, 3) := by decide +kernel
theorem dX6_workOut_85 : decode cX6_workOut 85 = .ok (.ireturn, 1) := by decide +kernel
theorem dX6_workOut_86 : decode cX6_workOut 86 = .ok (.aload_n 0, 1) := by decide +kernel
theorem dX6_workOut_87 : decode cX6_workOut 87 = .ok (.getfield 25, 3) := by decide +kernel
theorem dX6_workOut_90 : decode cX6_workOut 90 = .ok (.dup, 1) := by decide +kernel
theorem dX6_workOut_91 : decode cX6_workOut 91 = .ok (.getfield 292, 3) := by decide +kernel
theorem dX6_workOut_94 : decode cX6_workOut 94 = .ok (.iload_n 1, 1) := by decide +kernel
theorem dX6_workOut_95 : decode cX6_workOut 95 = .ok (.invokestatic 233, 3) := by decide +kernel
theorem dX6_workOut_98 : decode cX6_workOut 98 = .ok (.ior, 1) := by decide +kernel
theorem dX6_workOut_99 : decode cX6_workOut 99 = .ok (.putfield 292, 3) := by decide +kernel
theorem dX6_workOut_102 : decode cX6_workOut 102 = .ok (.aload_n 0, 1) := by decide +kernel
theorem dX6_workOut_103 : decode cX6_workOut 103 = .ok (.aload_n 3, 1) := by decide +kernel
theorem dX6_workOut_104 : decode cX6_workOut 104 = .ok (.invokevirtual 295, 3) := by decide +kernel
theorem dX6_workOut_107 : decode cX6_workOut 107 = .ok (.ifCond .ne 5, 3) := by decide +kernel
theorem dX6_workOut_110 : decode cX6_workOut 110 = .ok (.iconst 0, 1) := by decide +kernel
theorem dX6_workOut_111 : decode cX6_workOut 111 = .ok (.ireturn, 1) := by decide +kernel
theorem dX6_workOut_112 : decode cX6_workOut 112 = .ok (.aload_n 0, 1) := by decide +kernel
theorem dX6_workOut_113 : decode cX6_workOut 113 = .ok (.getfield 25, 3) := by decide +kernel
theorem dX6_workOut_116 : decode cX6_workOut 116 = .ok (.iload_n 1, 1) := by decide +kernel
theorem dX6_workOut_117 : decode cX6_workOut 117 = .ok (.aload_n 3, 1) := by decide +kernel
theorem dX6_workOut_118 : decode cX6_workOut 118 = .ok (.getfield 299, 3) := by decide +kernel
theorem dX6_workOut_121 : decode cX6_workOut 121 = .ok (.i2l, 1) := by decide +kernel
theorem dX6_workOut_122 : decode cX6_workOut 122 = .ok (.aload_n 0, 1) := by decide +kernel
theorem dX6_workOut_123 : decode cX6_workOut 123 = .ok (.aload_n 3, 1) := by decide +kernel
theorem dX6_workOut_124 : decode cX6_workOut 124 = .ok (.getfield 302, 3) := by decide +kernel
theorem dX6_workOut_127 : decode cX6_workOut 127 = .ok (.invokevirtual 305, 3) := by decide +kernel
theorem dX6_workOut_130 : decode cX6_workOut 130 = .ok (.ladd, 1) := by decide +kernel
theorem dX6_workOut_131 : decode cX6_workOut 131 = .ok (.aload_n 0, 1) := by decide +kernel
theorem dX6_workOut_132 : decode cX6_workOut 132 = .ok (.aload_n 3, 1) := by decide +kernel
theorem dX6_workOut_133 : decode cX6_workOut 133 = .ok (.getfield 309, 3) := by decide +kernel
theorem dX6_workOut_136 : decode cX6_workOut 136 = .ok (.invokevirtual 305, 3) := by decide +kernel
theorem dX6_workOut_139 : decode cX6_workOut 139 = .ok (.ladd, 1) := by decide +kernel
theorem dX6_workOut_140 : decode cX6_workOut 140 = .ok (.invokevirtual 312, 3) := by decide +kernel
theorem dX6_workOut_143 : decode cX6_workOut 143 = .ok (.iconst 1, 1) := by decide +kernel
theorem dX6_workOut_144 : decode cX6_workOut 144 = .ok (.ireturn, 1) := by decide +kernel
set_option maxRecDepth 20000 in
theorem ggX6_workOutParts_X6_workOut : GoodIn wsX6_workOutParts wsX6_workOut := goodIn_r _ [5, 6, 7, 8, 4, 9, 10, 11, 12, 13, 14, 15, 16, 17, 18, 19, 20, 21, 22, 23, 24, 25, 26, 27, 28, 29, 30, 31, 32, 33, 34, 35, 36, 37, 38, 39, 40, 41, 42, 43, 44, 45, 46, 47, 48, 49, 50, 51, 52, 53, 54, 55, 56, 57, 58, 59, 60, 61, 62, 63, 64, 65, 66, 67, 68, 69, 70, 71, 72, 73, 74, 75, 76, 77, 78, 79, 80, 81, 82, 83, 84, 85, 86, 87, 88, 89, 90, 91, 92, 93, 94, 95, 96, 97, 98, 99, 100, 101, 102, 103, 104, 0, 1, 2, 3, 105, 106, 107, 108, 109, 110, 111, 112, 113, 114, 115, 116, 117, 118, 119, 120, 121, 122, 123, 124, 125, 126, 127, 128, 129, 130, 131, 132, 133, 134, 135, 136] (by decide +kernel) (by decide +kernel)
set_option maxRecDepth 20000 in
theorem gX6_workOutParts_X6_workOut : GoodIn wsX6_workOutParts (wsV RX6 277 RX6 yX6_workOut wsX6_workOut) := goodIn_app (goodIn_of _ (by decide +kernel)) ggX6_workOutParts_X6_workOut
theorem dX6_workOutParts_0 : decode cX6_workOutParts 0 = .ok (.aload_n 1, 1) := by decide +kernel
theorem dX6_workOutParts_1 : decode cX6_workOutParts 1 = .ok (.getfield 302, 3) := by decide +kernel
theorem dX6_workOutParts_4 : decode cX6_workOutParts 4 = .ok (.iconst (-1), 1) := by decide +kernel
theorem dX6_workOutParts_5 : decode cX6_workOutParts 5 = .ok (.if_icmp .eq 14, 3) := by decide +kernel
theorem dX6_workOutParts_8 : decode cX6_workOutParts 8 = .ok (.aload_n 0, 1) := by decide +kernel
theorem dX6_workOutParts_9 : decode cX6_workOutParts 9 = .ok (.aload_n 1, 1) := by decide +kernel
theorem dX6_workOutParts_10 : decode cX6_workOutParts 10 = .ok (.getfield 302, 3) := by decide +kernel
theorem dX6_workOutParts_13 : decode cX6_workOutParts 13 = .ok (.invokevirtual 277, 3) := by decide +kernel
theorem dX6_workOutParts_16 : decode cX6_workOutParts 16 = .ok (.ifCond .eq 26, 3) := by decide +kernel
theorem dX6_workOutParts_19 : decode cX6_workOutParts 19 = .ok (.aload_n 1, 1) := by decide +kernel
theorem dX6_workOutParts_20 : decode cX6_workOutParts 20 = .ok (.getfield 309, 3) := by decide +kernel
theorem dX6_workOutParts_23 : decode cX6_workOutParts 23 = .ok (.iconst (-1), 1) := by decide +kernel
theorem dX6_workOutParts_24 : decode cX6_workOutParts 24 = .ok (.if_icmp .eq 14, 3) := by decide +kernel
theorem dX6_workOutParts_27 : decode cX6_workOutParts 27 = .ok (.aload_n 0, 1) := by decide +kernel
theorem dX6_workOutParts_28 : decode cX6_workOutParts 28 = .ok (.aload_n 1, 1) := by decide +kernel
theorem dX6_workOutParts_29 : decode cX6_workOutParts 29 = .ok (.getfield 309, 3) := by decide +kernel
theorem dX6_workOutParts_32 : decode cX6_workOutParts 32 = .ok (.invokevirtual 277, 3) := by decide +kernel
theorem dX6_workOutParts_35 : decode cX6_workOutParts 35 = .ok (.ifCond .eq 7, 3) := by decide +kernel
theorem dX6_workOutParts_38 : decode cX6_workOutParts 38 = .ok (.iconst 1, 1) := by decide +kernel
theorem dX6_workOutParts_39 : decode cX6_workOutParts 39 = .ok (.goto 4, 3) := by decide +kernel
theorem dX6_workOutParts_42 : decode cX6_workOutParts 42 = .ok (.iconst 0, 1) := by decide +kernel
theorem dX6_workOutParts_43 : decode cX6_workOutParts 43 = .ok (.ireturn, 1) := by decide +kernel
theorem dX6_partOf_0 : decode cX6_partOf 0 = .ok (.iload_n 1, 1) := by decide +kernel
theorem dX6_partOf_1 : decode cX6_partOf 1 = .ok (.iconst (-1), 1) := by decide +kernel
theorem dX6_partOf_2 : decode cX6_partOf 2 = .ok (.if_icmp .ne 7, 3) := by decide +kernel
theorem dX6_partOf_5 : decode cX6_partOf 5 = .ok (.lconst 0, 1) := by decide +kernel
theorem dX6_partOf_6 : decode cX6_partOf 6 = .ok (.goto 12, 3) := by decide +kernel
theorem dX6_partOf_9 : decode cX6_partOf 9 = .ok (.aload_n 0, 1) := by decide +kernel
theorem dX6_partOf_10 : decode cX6_partOf 10 = .ok (.getfield 25, 3) := by decide +kernel
theorem dX6_partOf_13 : decode cX6_partOf 13 = .ok (.getfield 213, 3) := by decide +kernel
theorem dX6_partOf_16 : decode cX6_partOf 16 = .ok (.iload_n 1, 1) := by decide +kernel
theorem dX6_partOf_17 : decode cX6_partOf 17 = .ok (.laload, 1) := by decide +kernel
theorem dX6_partOf_18 : decode cX6_partOf 18 = .ok (.lreturn, 1) := by decide +kernel
set_option maxRecDepth 20000 in
theorem ggX6_decidingLayer_Jx4a65c_size_8abf5 : GoodIn wsX6_decidingLayer wsJx4a65c_size_8abf5 := goodIn_r _ [7, 8, 79, 80, 81] (by decide +kernel) (by decide +kernel)
set_option maxRecDepth 20000 in
theorem gX6_decidingLayer_Jx4a65c_size_8abf5 : GoodIn wsX6_decidingLayer (wsV RX6 48 RJx4a65c yJx4a65c_size_8abf5 wsJx4a65c_size_8abf5) := goodIn_app (goodIn_of _ (by decide +kernel)) ggX6_decidingLayer_Jx4a65c_size_8abf5
set_option maxRecDepth 20000 in
theorem ggX6_decidingLayer_X6_reaches : GoodIn wsX6_decidingLayer wsX6_reaches := goodIn_r _ [13, 1, 14, 15, 16, 17, 18, 19, 6, 20, 8, 21, 22, 23, 24, 25, 26, 27, 28, 29, 30, 31, 32, 33, 34, 35, 36, 37, 38, 39, 40, 65, 66, 67, 68, 69, 79, 80, 81, 82, 83, 84, 85, 86, 87, 88, 89, 90] (by decide +kernel) (by decide +kernel)
set_option maxRecDepth 20000 in
theorem gX6_decidingLayer_X6_reaches : GoodIn wsX6_decidingLayer (wsV RX6 106 RX6 yX6_reaches wsX6_reaches) := goodIn_app (goodIn_of _ (by decide +kernel)) ggX6_decidingLayer_X6_reaches
set_option maxRecDepth 20000 in
theorem ggX6_decidingLayer_X6_shownEntry : GoodIn wsX6_decidingLayer wsX6_shownEntry := goodIn_r _ [44, 2, 1, 14, 17, 18, 19, 6, 20, 8, 21, 22, 23, 24, 25, 26, 27, 28, 29, 30, 31, 32, 33, 45, 46, 47, 37, 48, 49, 50, 51, 52, 53, 54, 55, 56, 57, 58, 59, 60, 65, 66, 67, 68, 69, 70, 71, 72, 73, 74, 75, 76, 77, 78, 79, 80, 81, 82, 83, 84, 85, 86, 87, 88, 91, 92, 93] (by decide +kernel) (by decide +kernel)
set_option maxRecDepth 20000 in
theorem gX6_decidingLayer_X6_shownEntry : GoodIn wsX6_decidingLayer (wsV RX6 289 RX6 yX6_shownEntry wsX6_shownEntry) := goodIn_app (goodIn_of _ (by decide +kernel)) ggX6_decidingLayer_X6_shownEntry
set_option maxRecDepth 20000 in
theorem ggX6_decidingLayer_X6_goesAhead : GoodIn wsX6_decidingLayer wsX6_goesAhead := goodIn_r _ [64, 1, 14, 17, 18, 19, 6, 20, 8, 21, 22, 23, 24, 25, 26, 27, 28, 29, 30, 31, 32, 33, 65, 66, 67, 68, 69, 82, 83, 84, 85, 86, 87, 88, 79, 80, 81] (by decide +kernel) (by decide +kernel)
set_option maxRecDepth 20000 in
theorem gX6_decidingLayer_X6_goesAhead : GoodIn wsX6_decidingLayer (wsV RX6 251 RX6 yX6_goesAhead wsX6_goesAhead) := goodIn_app (goodIn_of _ (by decide +kernel)) ggX6_decidingLayer_X6_goesAhead
theorem dX6_decidingLayer_0 : decode cX6_decidingLayer 0 = .ok (.iconst (-1), 1) := by decide +kernel
theorem dX6_decidingLayer_1 : decode cX6_decidingLayer 1 = .ok (.istore_n 2, 1) := by decide +kernel
theorem dX6_decidingLayer_2 : decode cX6_decidingLayer 2 = .ok (.iconst 0, 1) := by decide +kernel
theorem dX6_decidingLayer_3 : decode cX6_decidingLayer 3 = .ok (.istore_n 3, 1) := by decide +kernel
theorem dX6_decidingLayer_4 : decode cX6_decidingLayer 4 = .ok (.iload_n 3, 1) := by decide +kernel
theorem dX6_decidingLayer_5 : decode cX6_decidingLayer 5 = .ok (.aload_n 0, 1) := by decide +kernel
theorem dX6_decidingLayer_6 : decode cX6_decidingLayer 6 = .ok (.getfield 16, 3) := by decide +kernel
theorem dX6_decidingLayer_9 : decode cX6_decidingLayer 9 = .ok (.invokevirtual 48, 3) := by decide +kernel
theorem dX6_decidingLayer_12 : decode cX6_decidingLayer 12 = .ok (.if_icmp .ge 49, 3) := by decide +kernel
theorem dX6_decidingLayer_15 : decode cX6_decidingLayer 15 = .ok (.aload_n 0, 1) := by decide +kernel
theorem dX6_decidingLayer_16 : decode cX6_decidingLayer 16 = .ok (.iload_n 3, 1) := by decide +kernel
theorem dX6_decidingLayer_17 : decode cX6_decidingLayer 17 = .ok (.aload_n 0, 1) := by decide +kernel
theorem dX6_decidingLayer_18 : decode cX6_decidingLayer 18 = .ok (.getfield 25, 3) := by decide +kernel
theorem dX6_decidingLayer_21 : decode cX6_decidingLayer 21 = .ok (.getfield 316, 3) := by decide +kernel
theorem dX6_decidingLayer_24 : decode cX6_decidingLayer 24 = .ok (.invokevirtual 106, 3) := by decide +kernel
theorem dX6_decidingLayer_27 : decode cX6_decidingLayer 27 = .ok (.ifCond .eq 28, 3) := by decide +kernel
theorem dX6_decidingLayer_30 : decode cX6_decidingLayer 30 = .ok (.aload_n 0, 1) := by decide +kernel
theorem dX6_decidingLayer_31 : decode cX6_decidingLayer 31 = .ok (.iload_n 3, 1) := by decide +kernel
theorem dX6_decidingLayer_32 : decode cX6_decidingLayer 32 = .ok (.iload_n 1, 1) := by decide +kernel
theorem dX6_decidingLayer_33 : decode cX6_decidingLayer 33 = .ok (.invokevirtual 289, 3) := by decide +kernel
theorem dX6_decidingLayer_36 : decode cX6_decidingLayer 36 = .ok (.ifnull 19, 3) := by decide +kernel
theorem dX6_decidingLayer_39 : decode cX6_decidingLayer 39 = .ok (.iload_n 2, 1) := by decide +kernel
theorem dX6_decidingLayer_40 : decode cX6_decidingLayer 40 = .ok (.iconst (-1), 1) := by decide +kernel
theorem dX6_decidingLayer_41 : decode cX6_decidingLayer 41 = .ok (.if_icmp .eq 12, 3) := by decide +kernel
theorem dX6_decidingLayer_44 : decode cX6_decidingLayer 44 = .ok (.aload_n 0, 1) := by decide +kernel
theorem dX6_decidingLayer_45 : decode cX6_decidingLayer 45 = .ok (.iload_n 3, 1) := by decide +kernel
theorem dX6_decidingLayer_46 : decode cX6_decidingLayer 46 = .ok (.iload_n 2, 1) := by decide +kernel
theorem dX6_decidingLayer_47 : decode cX6_decidingLayer 47 = .ok (.invokevirtual 251, 3) := by decide +kernel
theorem dX6_decidingLayer_50 : decode cX6_decidingLayer 50 = .ok (.ifCond .eq 5, 3) := by decide +kernel
theorem dX6_decidingLayer_53 : decode cX6_decidingLayer 53 = .ok (.iload_n 3, 1) := by decide +kernel
theorem dX6_decidingLayer_54 : decode cX6_decidingLayer 54 = .ok (.istore_n 2, 1) := by decide +kernel
theorem dX6_decidingLayer_55 : decode cX6_decidingLayer 55 = .ok (.iinc 3 1, 3) := by decide +kernel
theorem dX6_decidingLayer_58 : decode cX6_decidingLayer 58 = .ok (.goto (-54), 3) := by decide +kernel
theorem dX6_decidingLayer_61 : decode cX6_decidingLayer 61 = .ok (.iload_n 2, 1) := by decide +kernel
theorem dX6_decidingLayer_62 : decode cX6_decidingLayer 62 = .ok (.ireturn, 1) := by decide +kernel
set_option maxRecDepth 20000 in
theorem ggX6_shownEntry_Jx4a65c_get_915e3 : GoodIn wsX6_shownEntry wsJx4a65c_get_915e3 := goodIn_r _ [8, 9, 10, 11, 12, 13, 14, 15, 16, 17, 18, 19, 20, 7, 21, 22, 54, 55, 56] (by decide +kernel) (by decide +kernel)
set_option maxRecDepth 20000 in
theorem gX6_shownEntry_Jx4a65c_get_915e3 : GoodIn wsX6_shownEntry (wsV RX6 66 RJx4a65c yJx4a65c_get_915e3 wsJx4a65c_get_915e3) := goodIn_app (goodIn_of _ (by decide +kernel)) ggX6_shownEntry_Jx4a65c_get_915e3
set_option maxRecDepth 20000 in
theorem ggX6_shownEntry_X4_newEntryFor : GoodIn wsX6_shownEntry wsX4_newEntryFor := goodIn_r _ [27, 28, 29, 30, 31, 26, 32, 33, 57, 58, 59, 60, 61, 62, 63, 64, 65] (by decide +kernel) (by decide +kernel)
set_option maxRecDepth 20000 in
theorem gX6_shownEntry_X4_newEntryFor : GoodIn wsX6_shownEntry (wsV RX6 227 RX4 yX4_newEntryFor wsX4_newEntryFor) := goodIn_app (goodIn_of _ (by decide +kernel)) ggX6_shownEntry_X4_newEntryFor
set_option maxRecDepth 20000 in
theorem ggX6_shownEntry_X1_entryOf : GoodIn wsX6_shownEntry wsX1_entryOf := goodIn_r _ [38, 39, 66] (by decide +kernel) (by decide +kernel)
set_option maxRecDepth 20000 in
theorem gX6_shownEntry_X1_entryOf : GoodIn wsX6_shownEntry (wsV RX6 137 RX1 yX1_entryOf wsX1_entryOf) := goodIn_app (goodIn_of _ (by decide +kernel)) ggX6_shownEntry_X1_entryOf
theorem dX6_shownEntry_0 : decode cX6_shownEntry 0 = .ok (.aload_n 0, 1) := by decide +kernel
theorem dX6_shownEntry_1 : decode cX6_shownEntry 1 = .ok (.getfield 25, 3) := by decide +kernel
theorem dX6_shownEntry_4 : decode cX6_shownEntry 4 = .ok (.getfield 319, 3) := by decide +kernel
theorem dX6_shownEntry_7 : decode cX6_shownEntry 7 = .ok (.ifCond .eq 32, 3) := by decide +kernel
theorem dX6_shownEntry_10 : decode cX6_shownEntry 10 = .ok (.aload_n 0, 1) := by decide +kernel
theorem dX6_shownEntry_11 : decode cX6_shownEntry 11 = .ok (.getfield 16, 3) := by decide +kernel
theorem dX6_shownEntry_14 : decode cX6_shownEntry 14 = .ok (.iload_n 1, 1) := by decide +kernel
theorem dX6_shownEntry_15 : decode cX6_shownEntry 15 = .ok (.invokevirtual 66, 3) := by decide +kernel
theorem dX6_shownEntry_18 : decode cX6_shownEntry 18 = .ok (.checkcast 84, 3) := by decide +kernel
theorem dX6_shownEntry_21 : decode cX6_shownEntry 21 = .ok (.aload_n 0, 1) := by decide +kernel
theorem dX6_shownEntry_22 : decode cX6_shownEntry 22 = .ok (.getfield 25, 3) := by decide +kernel
theorem dX6_shownEntry_25 : decode cX6_shownEntry 25 = .ok (.getfield 316, 3) := by decide +kernel
theorem dX6_shownEntry_28 : decode cX6_shownEntry 28 = .ok (.iload_n 2, 1) := by decide +kernel
theorem dX6_shownEntry_29 : decode cX6_shownEntry 29 = .ok (.invokevirtual 227, 3) := by decide +kernel
theorem dX6_shownEntry_32 : decode cX6_shownEntry 32 = .ok (.astore_n 3, 1) := by decide +kernel
theorem dX6_shownEntry_33 : decode cX6_shownEntry 33 = .ok (.aload_n 3, 1) := by decide +kernel
theorem dX6_shownEntry_34 : decode cX6_shownEntry 34 = .ok (.ifnull 5, 3) := by decide +kernel
theorem dX6_shownEntry_37 : decode cX6_shownEntry 37 = .ok (.aload_n 3, 1) := by decide +kernel
theorem dX6_shownEntry_38 : decode cX6_shownEntry 38 = .ok (.areturn, 1) := by decide +kernel
theorem dX6_shownEntry_39 : decode cX6_shownEntry 39 = .ok (.aload_n 0, 1) := by decide +kernel
theorem dX6_shownEntry_40 : decode cX6_shownEntry 40 = .ok (.getfield 25, 3) := by decide +kernel
theorem dX6_shownEntry_43 : decode cX6_shownEntry 43 = .ok (.getfield 323, 3) := by decide +kernel
theorem dX6_shownEntry_46 : decode cX6_shownEntry 46 = .ok (.iload_n 1, 1) := by decide +kernel
theorem dX6_shownEntry_47 : decode cX6_shownEntry 47 = .ok (.iload_n 2, 1) := by decide +kernel
theorem dX6_shownEntry_48 : decode cX6_shownEntry 48 = .ok (.invokevirtual 137, 3) := by decide +kernel
theorem dX6_shownEntry_51 : decode cX6_shownEntry 51 = .ok (.areturn, 1) := by decide +kernel
theorem dX6_bit_0 : decode cX6_bit 0 = .ok (.iconst 1, 1) := by decide +kernel
theorem dX6_bit_1 : decode cX6_bit 1 = .ok (.iload_n 0, 1) := by decide +kernel
theorem dX6_bit_2 : decode cX6_bit 2 = .ok (.ishl, 1) := by decide +kernel
theorem dX6_bit_3 : decode cX6_bit 3 = .ok (.ireturn, 1) := by decide +kernel
theorem dX7_init_0 : decode cX7_init 0 = .ok (.aload_n 0, 1) := by decide +kernel
theorem dX7_init_1 : decode cX7_init 1 = .ok (.invokespecial 1, 3) := by decide +kernel
theorem dX7_init_4 : decode cX7_init 4 = .ok (.aload_n 0, 1) := by decide +kernel
theorem dX7_init_5 : decode cX7_init 5 = .ok (.bipush 12, 2) := by decide +kernel
theorem dX7_init_7 : decode cX7_init 7 = .ok (.newarray .int, 2) := by decide +kernel
theorem dX7_init_9 : decode cX7_init 9 = .ok (.putfield 7, 3) := by decide +kernel
theorem dX7_init_12 : decode cX7_init 12 = .ok (.aload_n 0, 1) := by decide +kernel
theorem dX7_init_13 : decode cX7_init 13 = .ok (.bipush 12, 2) := by decide +kernel
theorem dX7_init_15 : decode cX7_init 15 = .ok (.newarray .int, 2) := by decide +kernel
theorem dX7_init_17 : decode cX7_init 17 = .ok (.putfield 13, 3) := by decide +kernel
theorem dX7_init_20 : decode cX7_init 20 = .ok (.aload_n 0, 1) := by decide +kernel
theorem dX7_init_21 : decode cX7_init 21 = .ok (.bipush 8, 2) := by decide +kernel
theorem dX7_init_23 : decode cX7_init 23 = .ok (.newarray .int, 2) := by decide +kernel
theorem dX7_init_25 : decode cX7_init 25 = .ok (.putfield 16, 3) := by decide +kernel
theorem dX7_init_28 : decode cX7_init 28 = .ok (.aload_n 0, 1) := by decide +kernel
theorem dX7_init_29 : decode cX7_init 29 = .ok (.bipush 8, 2) := by decide +kernel
theorem dX7_init_31 : decode cX7_init 31 = .ok (.newarray .int, 2) := by decide +kernel
theorem dX7_init_33 : decode cX7_init 33 = .ok (.putfield 19, 3) := by decide +kernel
theorem dX7_init_36 : decode cX7_init 36 = .ok (.aload_n 0, 1) := by decide +kernel
theorem dX7_init_37 : decode cX7_init 37 = .ok (.bipush 8, 2) := by decide +kernel
theorem dX7_init_39 : decode cX7_init 39 = .ok (.newarray .int, 2) := by decide +kernel
theorem dX7_init_41 : decode cX7_init 41 = .ok (.putfield 22, 3) := by decide +kernel
theorem dX7_init_44 : decode cX7_init 44 = .ok (.aload_n 0, 1) := by decide +kernel
theorem dX7_init_45 : decode cX7_init 45 = .ok (.sipush 128, 3) := by decide +kernel
theorem dX7_init_48 : decode cX7_init 48 = .ok (.newarray .int, 2) := by decide +kernel
theorem dX7_init_50 : decode cX7_init 50 = .ok (.putfield 25, 3) := by decide +kernel
theorem dX7_init_53 : decode cX7_init 53 = .ok (.aload_n 0, 1) := by decide +kernel
theorem dX7_init_54 : decode cX7_init 54 = .ok (.sipush 128, 3) := by decide +kernel
theorem dX7_init_57 : decode cX7_init 57 = .ok (.newarray .int, 2) := by decide +kernel
theorem dX7_init_59 : decode cX7_init 59 = .ok (.putfield 28, 3) := by decide +kernel
theorem dX7_init_62 : decode cX7_init 62 = .ok (.aload_n 0, 1) := by decide +kernel
theorem dX7_init_63 : decode cX7_init 63 = .ok (.sipush 128, 3) := by decide +kernel
theorem dX7_init_66 : decode cX7_init 66 = .ok (.newarray .int, 2) := by decide +kernel
theorem dX7_init_68 : decode cX7_init 68 = .ok (.putfield 31, 3) := by decide +kernel
theorem dX7_init_71 : decode cX7_init 71 = .ok (.aload_n 0, 1) := by decide +kernel
theorem dX7_init_72 : decode cX7_init 72 = .ok (.sipush 128, 3) := by decide +kernel
theorem dX7_init_75 : decode cX7_init 75 = .ok (.newarray .int, 2) := by decide +kernel
theorem dX7_init_77 : decode cX7_init 77 = .ok (.putfield 34, 3) := by decide +kernel
theorem dX7_init_80 : decode cX7_init 80 = .ok (.aload_n 0, 1) := by decide +kernel
theorem dX7_init_81 : decode cX7_init 81 = .ok (.sipush 136, 3) := by decide +kernel
theorem dX7_init_84 : decode cX7_init 84 = .ok (.newarray .int, 2) := by decide +kernel
theorem dX7_init_86 : decode cX7_init 86 = .ok (.putfield 37, 3) := by decide +kernel
theorem dX7_init_89 : decode cX7_init 89 = .ok (.aload_n 0, 1) := by decide +kernel
theorem dX7_init_90 : decode cX7_init 90 = .ok (.ldc 40, 2) := by decide +kernel
theorem dX7_init_92 : decode cX7_init 92 = .ok (.newarray .int, 2) := by decide +kernel
theorem dX7_init_94 : decode cX7_init 94 = .ok (.putfield 41, 3) := by decide +kernel
theorem dX7_init_97 : decode cX7_init 97 = .ok (.aload_n 0, 1) := by decide +kernel
theorem dX7_init_98 : decode cX7_init 98 = .ok (.bipush 16, 2) := by decide +kernel
theorem dX7_init_100 : decode cX7_init 100 = .ok (.newarray .int, 2) := by decide +kernel
theorem dX7_init_102 : decode cX7_init 102 = .ok (.putfield 44, 3) := by decide +kernel
theorem dX7_init_105 : decode cX7_init 105 = .ok (.aload_n 0, 1) := by decide +kernel
theorem dX7_init_106 : decode cX7_init 106 = .ok (.bipush 16, 2) := by decide +kernel
theorem dX7_init_108 : decode cX7_init 108 = .ok (.newarray .int, 2) := by decide +kernel
theorem dX7_init_110 : decode cX7_init 110 = .ok (.putfield 47, 3) := by decide +kernel
theorem dX7_init_113 : decode cX7_init 113 = .ok (.aload_n 0, 1) := by decide +kernel
theorem dX7_init_114 : decode cX7_init 114 = .ok (.bipush 16, 2) := by decide +kernel
theorem dX7_init_116 : decode cX7_init 116 = .ok (.newarray .long, 2) := by decide +kernel
theorem dX7_init_118 : decode cX7_init 118 = .ok (.putfield 50, 3) := by decide +kernel
theorem dX7_init_121 : decode cX7_init 121 = .ok (.aload_n 0, 1) := by decide +kernel
theorem dX7_init_122 : decode cX7_init 122 = .ok (.bipush 16, 2) := by decide +kernel
theorem dX7_init_124 : decode cX7_init 124 = .ok (.newarray .int, 2) := by decide +kernel
theorem dX7_init_126 : decode cX7_init 126 = .ok (.putfield 54, 3) := by decide +kernel
theorem dX7_init_129 : decode cX7_init 129 = .ok (.aload_n 0, 1) := by decide +kernel
theorem dX7_init_130 : decode cX7_init 130 = .ok (.bipush 16, 2) := by decide +kernel
theorem dX7_init_132 : decode cX7_init 132 = .ok (.newarray .long, 2) := by decide +kernel
theorem dX7_init_134 : decode cX7_init 134 = .ok (.putfield 57, 3) := by decide +kernel
theorem dX7_init_137 : decode cX7_init 137 = .ok (.iconst 0, 1) := by decide +kernel
theorem dX7_init_138 : decode cX7_init 138 = .ok (.istore_n 1, 1) := by decide +kernel
theorem dX7_init_139 : decode cX7_init 139 = .ok (.iload_n 1, 1) := by decide +kernel
theorem dX7_init_140 : decode cX7_init 140 = .ok (.sipush 128, 3) := by decide +kernel
theorem dX7_init_143 : decode cX7_init 143 = .ok (.if_icmp .ge 16, 3) := by decide +kernel
theorem dX7_init_146 : decode cX7_init 146 = .ok (.aload_n 0, 1) := by decide +kernel
theorem dX7_init_147 : decode cX7_init 147 = .ok (.getfield 34, 3) := by decide +kernel
theorem dX7_init_150 : decode cX7_init 150 = .ok (.iload_n 1, 1) := by decide +kernel
theorem dX7_init_151 : decode cX7_init 151 = .ok (.iconst (-1), 1) := by decide +kernel
theorem dX7_init_152 : decode cX7_init 152 = .ok (.iastore, 1) := by decide +kernel
theorem dX7_init_153 : decode cX7_init 153 = .ok (.iinc 1 1, 3) := by decide +kernel
theorem dX7_init_156 : decode cX7_init 156 = .ok (.goto (-17), 3) := by decide +kernel
theorem dX7_init_159 : decode cX7_init 159 = .ok (.return_, 1) := by decide +kernel
theorem dX7_thrown_0 : decode cX7_thrown 0 = .ok (.aload_n 0, 1) := by decide +kernel
theorem dX7_thrown_1 : decode cX7_thrown 1 = .ok (.getfield 60, 3) := by decide +kernel
theorem dX7_thrown_4 : decode cX7_thrown 4 = .ok (.ireturn, 1) := by decide +kernel
theorem dX7_goes_0 : decode cX7_goes 0 = .ok (.aload_n 0, 1) := by decide +kernel
theorem dX7_goes_1 : decode cX7_goes 1 = .ok (.iload_n 1, 1) := by decide +kernel
theorem dX7_goes_2 : decode cX7_goes 2 = .ok (.putfield 60, 3) := by decide +kernel
theorem dX7_goes_5 : decode cX7_goes 5 = .ok (.iload_n 1, 1) := by decide +kernel
theorem dX7_goes_6 : decode cX7_goes 6 = .ok (.ifCond .ne 7, 3) := by decide +kernel
theorem dX7_goes_9 : decode cX7_goes 9 = .ok (.iconst 1, 1) := by decide +kernel
theorem dX7_goes_10 : decode cX7_goes 10 = .ok (.goto 4, 3) := by decide +kernel
theorem dX7_goes_13 : decode cX7_goes 13 = .ok (.iconst 0, 1) := by decide +kernel
theorem dX7_goes_14 : decode cX7_goes 14 = .ok (.ireturn, 1) := by decide +kernel
theorem dX7_isIn_0 : decode cX7_isIn 0 = .ok (.iload_n 0, 1) := by decide +kernel
theorem dX7_isIn_1 : decode cX7_isIn 1 = .ok (.iload_n 1, 1) := by decide +kernel
theorem dX7_isIn_2 : decode cX7_isIn 2 = .ok (.if_icmp .lt 12, 3) := by decide +kernel
theorem dX7_isIn_5 : decode cX7_isIn 5 = .ok (.iload_n 0, 1) := by decide +kernel
theorem dX7_isIn_6 : decode cX7_isIn 6 = .ok (.iload_n 2, 1) := by decide +kernel
theorem dX7_isIn_7 : decode cX7_isIn 7 = .ok (.if_icmp .gt 7, 3) := by decide +kernel
theorem dX7_isIn_10 : decode cX7_isIn 10 = .ok (.iconst 1, 1) := by decide +kernel
theorem dX7_isIn_11 : decode cX7_isIn 11 = .ok (.goto 4, 3) := by decide +kernel
theorem dX7_isIn_14 : decode cX7_isIn 14 = .ok (.iconst 0, 1) := by decide +kernel
theorem dX7_isIn_15 : decode cX7_isIn 15 = .ok (.ireturn, 1) := by decide +kernel
set_option maxRecDepth 20000 in
theorem ggX7_isClient_X7_isIn : GoodIn wsX7_isClient wsX7_isIn := goodIn_r _ [5] (by decide +kernel) (by decide +kernel)
set_option maxRecDepth 20000 in
theorem gX7_isClient_X7_isIn : GoodIn wsX7_isClient (va_wsS RX7 67 yX7_isIn wsX7_isIn) := goodIn_app (goodIn_of _ (by decide +kernel)) ggX7_isClient_X7_isIn
theorem dX7_isClient_0 : decode cX7_isClient 0 = .ok (.iload_n 1, 1) := by decide +kernel
theorem dX7_isClient_1 : decode cX7_isClient 1 = .ok (.iconst 0, 1) := by decide +kernel
theorem dX7_isClient_2 : decode cX7_isClient 2 = .ok (.aload_n 0, 1) := by decide +kernel
theorem dX7_isClient_3 : decode cX7_isClient 3 = .ok (.getfield 64, 3) := by decide +kernel
theorem dX7_isClient_6 : decode cX7_isClient 6 = .ok (.iconst 1, 1) := by decide +kernel
theorem dX7_isClient_7 : decode cX7_isClient 7 = .ok (.isub, 1) := by decide +kernel
theorem dX7_isClient_8 : decode cX7_isClient 8 = .ok (.invokestatic 67, 3) := by decide +kernel
theorem dX7_isClient_11 : decode cX7_isClient 11 = .ok (.ireturn, 1) := by decide +kernel
set_option maxRecDepth 20000 in
theorem ggX7_isLayer_X7_isIn : GoodIn wsX7_isLayer wsX7_isIn := goodIn_r _ [5] (by decide +kernel) (by decide +kernel)
set_option maxRecDepth 20000 in
theorem gX7_isLayer_X7_isIn : GoodIn wsX7_isLayer (va_wsS RX7 67 yX7_isIn wsX7_isIn) := goodIn_app (goodIn_of _ (by decide +kernel)) ggX7_isLayer_X7_isIn
theorem dX7_isLayer_0 : decode cX7_isLayer 0 = .ok (.iload_n 1, 1) := by decide +kernel
theorem dX7_isLayer_1 : decode cX7_isLayer 1 = .ok (.iconst 0, 1) := by decide +kernel
theorem dX7_isLayer_2 : decode cX7_isLayer 2 = .ok (.aload_n 0, 1) := by decide +kernel
theorem dX7_isLayer_3 : decode cX7_isLayer 3 = .ok (.getfield 71, 3) := by decide +kernel
theorem dX7_isLayer_6 : decode cX7_isLayer 6 = .ok (.iconst 1, 1) := by decide +kernel
theorem dX7_isLayer_7 : decode cX7_isLayer 7 = .ok (.isub, 1) := by decide +kernel
theorem dX7_isLayer_8 : decode cX7_isLayer 8 = .ok (.invokestatic 67, 3) := by decide +kernel
theorem dX7_isLayer_11 : decode cX7_isLayer 11 = .ok (.ireturn, 1) := by decide +kernel
set_option maxRecDepth 20000 in
theorem ggX7_isSetting_X7_isIn : GoodIn wsX7_isSetting wsX7_isIn := goodIn_r _ [4] (by decide +kernel) (by decide +kernel)
set_option maxRecDepth 20000 in
theorem gX7_isSetting_X7_isIn : GoodIn wsX7_isSetting (va_wsS RX7 67 yX7_isIn wsX7_isIn) := goodIn_app (goodIn_of _ (by decide +kernel)) ggX7_isSetting_X7_isIn
theorem dX7_isSetting_0 : decode cX7_isSetting 0 = .ok (.iload_n 0, 1) := by decide +kernel
theorem dX7_isSetting_1 : decode cX7_isSetting 1 = .ok (.iconst 0, 1) := by decide +kernel
theorem dX7_isSetting_2 : decode cX7_isSetting 2 = .ok (.bipush 15, 2) := by decide +kernel
theorem dX7_isSetting_4 : decode cX7_isSetting 4 = .ok (.invokestatic 67, 3) := by decide +kernel
theorem dX7_isSetting_7 : decode cX7_isSetting 7 = .ok (.ireturn, 1) := by decide +kernel
set_option maxRecDepth 20000 in
theorem ggX7_isOwner_X7_isIn : GoodIn wsX7_isOwner wsX7_isIn := goodIn_r _ [4] (by decide +kernel) (by decide +kernel)
set_option maxRecDepth 20000 in
theorem gX7_isOwner_X7_isIn : GoodIn wsX7_isOwner (va_wsS RX7 67 yX7_isIn wsX7_isIn) := goodIn_app (goodIn_of _ (by decide +kernel)) ggX7_isOwner_X7_isIn
theorem dX7_isOwner_0 : decode cX7_isOwner 0 = .ok (.iload_n 0, 1) := by decide +kernel
theorem dX7_isOwner_1 : decode cX7_isOwner 1 = .ok (.iconst 1, 1) := by decide +kernel
theorem dX7_isOwner_2 : decode cX7_isOwner 2 = .ok (.bipush 9, 2) := by decide +kernel
theorem dX7_isOwner_4 : decode cX7_isOwner 4 = .ok (.invokestatic 67, 3) := by decide +kernel
theorem dX7_isOwner_7 : decode cX7_isOwner 7 = .ok (.ireturn, 1) := by decide +kernel
set_option maxRecDepth 20000 in
theorem ggX7_isBase_X7_isIn : GoodIn wsX7_isBase wsX7_isIn := goodIn_r _ [4] (by decide +kernel) (by decide +kernel)
set_option maxRecDepth 20000 in
theorem gX7_isBase_X7_isIn : GoodIn wsX7_isBase (va_wsS RX7 67 yX7_isIn wsX7_isIn) := goodIn_app (goodIn_of _ (by decide +kernel)) ggX7_isBase_X7_isIn
theorem dX7_isBase_0 : decode cX7_isBase 0 = .ok (.iload_n 0, 1) := by decide +kernel
theorem dX7_isBase_1 : decode cX7_isBase 1 = .ok (.sipush (-9999), 3) := by decide +kernel
theorem dX7_isBase_4 : decode cX7_isBase 4 = .ok (.sipush 9999, 3) := by decide +kernel
theorem dX7_isBase_7 : decode cX7_isBase 7 = .ok (.invokestatic 67, 3) := by decide +kernel
theorem dX7_isBase_10 : decode cX7_isBase 10 = .ok (.ireturn, 1) := by decide +kernel
set_option maxRecDepth 20000 in
theorem ggX7_isEight_X7_isIn : GoodIn wsX7_isEight wsX7_isIn := goodIn_r _ [4] (by decide +kernel) (by decide +kernel)
set_option maxRecDepth 20000 in
theorem gX7_isEight_X7_isIn : GoodIn wsX7_isEight (va_wsS RX7 67 yX7_isIn wsX7_isIn) := goodIn_app (goodIn_of _ (by decide +kernel)) ggX7_isEight_X7_isIn
theorem dX7_isEight_0 : decode cX7_isEight 0 = .ok (.iload_n 0, 1) := by decide +kernel
theorem dX7_isEight_1 : decode cX7_isEight 1 = .ok (.iconst 0, 1) := by decide +kernel
theorem dX7_isEight_2 : decode cX7_isEight 2 = .ok (.bipush 7, 2) := by decide +kernel
theorem dX7_isEight_4 : decode cX7_isEight 4 = .ok (.invokestatic 67, 3) := by decide +kernel
theorem dX7_isEight_7 : decode cX7_isEight 7 = .ok (.ireturn, 1) := by decide +kernel
set_option maxRecDepth 20000 in
theorem ggX7_client_X7_isEight : GoodIn wsX7_client wsX7_isEight := goodIn_r _ [7, 8, 9, 6, 10] (by decide +kernel) (by decide +kernel)
set_option maxRecDepth 20000 in
theorem gX7_client_X7_isEight : GoodIn wsX7_client (va_wsS RX7 74 yX7_isEight wsX7_isEight) := goodIn_app (goodIn_of _ (by decide +kernel)) ggX7_client_X7_isEight
set_option maxRecDepth 20000 in
theorem ggX7_client_X7_goes : GoodIn wsX7_client wsX7_goes := goodIn_r _ [14, 15, 16, 17, 18, 19, 20, 21, 22, 23, 24, 25, 26, 27, 28, 29, 30, 31, 32, 33, 34, 35, 36, 37, 38, 39, 40, 41] (by decide +kernel) (by decide +kernel)
set_option maxRecDepth 20000 in
theorem gX7_client_X7_goes : GoodIn wsX7_client (wsV RX7 78 RX7 yX7_goes wsX7_goes) := goodIn_app (goodIn_of _ (by decide +kernel)) ggX7_client_X7_goes
theorem dX7_client_0 : decode cX7_client 0 = .ok (.aload_n 0, 1) := by decide +kernel
theorem dX7_client_1 : decode cX7_client 1 = .ok (.iload_n 1, 1) := by decide +kernel
theorem dX7_client_2 : decode cX7_client 2 = .ok (.invokestatic 74, 3) := by decide +kernel
theorem dX7_client_5 : decode cX7_client 5 = .ok (.ifCond .eq 10, 3) := by decide +kernel
theorem dX7_client_8 : decode cX7_client 8 = .ok (.iload_n 2, 1) := by decide +kernel
theorem dX7_client_9 : decode cX7_client 9 = .ok (.invokestatic 74, 3) := by decide +kernel
theorem dX7_client_12 : decode cX7_client 12 = .ok (.ifCond .ne 7, 3) := by decide +kernel
theorem dX7_client_15 : decode cX7_client 15 = .ok (.iconst 1, 1) := by decide +kernel
theorem dX7_client_16 : decode cX7_client 16 = .ok (.goto 17, 3) := by decide +kernel
theorem dX7_client_19 : decode cX7_client 19 = .ok (.aload_n 0, 1) := by decide +kernel
theorem dX7_client_20 : decode cX7_client 20 = .ok (.getfield 64, 3) := by decide +kernel
theorem dX7_client_23 : decode cX7_client 23 = .ok (.bipush 12, 2) := by decide +kernel
theorem dX7_client_25 : decode cX7_client 25 = .ok (.if_icmp .ne 7, 3) := by decide +kernel
theorem dX7_client_28 : decode cX7_client 28 = .ok (.iconst 2, 1) := by decide +kernel
theorem dX7_client_29 : decode cX7_client 29 = .ok (.goto 4, 3) := by decide +kernel
theorem dX7_client_32 : decode cX7_client 32 = .ok (.iconst 0, 1) := by decide +kernel
theorem dX7_client_33 : decode cX7_client 33 = .ok (.invokevirtual 78, 3) := by decide +kernel
theorem dX7_client_36 : decode cX7_client 36 = .ok (.ifCond .ne 5, 3) := by decide +kernel
theorem dX7_client_39 : decode cX7_client 39 = .ok (.iconst 0, 1) := by decide +kernel
theorem dX7_client_40 : decode cX7_client 40 = .ok (.ireturn, 1) := by decide +kernel
theorem dX7_client_41 : decode cX7_client 41 = .ok (.aload_n 0, 1) := by decide +kernel
theorem dX7_client_42 : decode cX7_client 42 = .ok (.getfield 7, 3) := by decide +kernel
theorem dX7_client_45 : decode cX7_client 45 = .ok (.aload_n 0, 1) := by decide +kernel
theorem dX7_client_46 : decode cX7_client 46 = .ok (.getfield 64, 3) := by decide +kernel
theorem dX7_client_49 : decode cX7_client 49 = .ok (.iload_n 1, 1) := by decide +kernel
theorem dX7_client_50 : decode cX7_client 50 = .ok (.iastore, 1) := by decide +kernel
theorem dX7_client_51 : decode cX7_client 51 = .ok (.aload_n 0, 1) := by decide +kernel
theorem dX7_client_52 : decode cX7_client 52 = .ok (.getfield 13, 3) := by decide +kernel
theorem dX7_client_55 : decode cX7_client 55 = .ok (.aload_n 0, 1) := by decide +kernel
theorem dX7_client_56 : decode cX7_client 56 = .ok (.getfield 64, 3) := by decide +kernel
theorem dX7_client_59 : decode cX7_client 59 = .ok (.iload_n 2, 1) := by decide +kernel
theorem dX7_client_60 : decode cX7_client 60 = .ok (.iastore, 1) := by decide +kernel
theorem dX7_client_61 : decode cX7_client 61 = .ok (.aload_n 0, 1) := by decide +kernel
theorem dX7_client_62 : decode cX7_client 62 = .ok (.dup, 1) := by decide +kernel
theorem dX7_client_63 : decode cX7_client 63 = .ok (.getfield 64, 3) := by decide +kernel
theorem dX7_client_66 : decode cX7_client 66 = .ok (.iconst 1, 1) := by decide +kernel
theorem dX7_client_67 : decode cX7_client 67 = .ok (.iadd, 1) := by decide +kernel
theorem dX7_client_68 : decode cX7_client 68 = .ok (.putfield 64, 3) := by decide +kernel
theorem dX7_client_71 : decode cX7_client 71 = .ok (.aload_n 0, 1) := by decide +kernel
theorem dX7_client_72 : decode cX7_client 72 = .ok (.getfield 64, 3) := by decide +kernel
theorem dX7_client_75 : decode cX7_client 75 = .ok (.iconst 1, 1) := by decide +kernel
theorem dX7_client_76 : decode cX7_client 76 = .ok (.isub, 1) := by decide +kernel
theorem dX7_client_77 : decode cX7_client 77 = .ok (.ireturn, 1) := by decide +kernel
set_option maxRecDepth 20000 in
theorem ggX7_move_X7_isClient : GoodIn wsX7_move wsX7_isClient := goodIn_r _ [7, 8, 9, 10, 6, 11, 20, 21, 22, 23, 24, 25, 26, 27, 28, 29, 30, 31, 32, 33, 34, 35, 36, 37, 38, 39, 40, 41, 42, 43, 44, 45] (by decide +kernel) (by decide +kernel)
set_option maxRecDepth 20000 in
theorem gX7_move_X7_isClient : GoodIn wsX7_move (wsV RX7 81 RX7 yX7_isClient wsX7_isClient) := goodIn_app (goodIn_of _ (by decide +kernel)) ggX7_move_X7_isClient
set_option maxRecDepth 20000 in
theorem ggX7_move_X7_isEight : GoodIn wsX7_move wsX7_isEight := goodIn_r _ [14, 9, 10, 6, 11] (by decide +kernel) (by decide +kernel)
set_option maxRecDepth 20000 in
theorem gX7_move_X7_isEight : GoodIn wsX7_move (va_wsS RX7 74 yX7_isEight wsX7_isEight) := goodIn_app (goodIn_of _ (by decide +kernel)) ggX7_move_X7_isEight
set_option maxRecDepth 20000 in
theorem ggX7_move_X7_goes : GoodIn wsX7_move wsX7_goes := goodIn_r _ [18, 19, 20, 21, 22, 23, 24, 25, 26, 27, 28, 29, 30, 31, 32, 33, 34, 35, 36, 37, 38, 39, 40, 41, 42, 43, 44, 45] (by decide +kernel) (by decide +kernel)
set_option maxRecDepth 20000 in
theorem gX7_move_X7_goes : GoodIn wsX7_move (wsV RX7 78 RX7 yX7_goes wsX7_goes) := goodIn_app (goodIn_of _ (by decide +kernel)) ggX7_move_X7_goes
theorem dX7_move_0 : decode cX7_move 0 = .ok (.aload_n 0, 1) := by decide +kernel
theorem dX7_move_1 : decode cX7_move 1 = .ok (.aload_n 0, 1) := by decide +kernel
theorem dX7_move_2 : decode cX7_move 2 = .ok (.iload_n 1, 1) := by decide +kernel
theorem dX7_move_3 : decode cX7_move 3 = .ok (.invokevirtual 81, 3) := by decide +kernel
theorem dX7_move_6 : decode cX7_move 6 = .ok (.ifCond .ne 7, 3) := by decide +kernel
theorem dX7_move_9 : decode cX7_move 9 = .ok (.iconst 1, 1) := by decide +kernel
theorem dX7_move_10 : decode cX7_move 10 = .ok (.goto 22, 3) := by decide +kernel
theorem dX7_move_13 : decode cX7_move 13 = .ok (.iload_n 2, 1) := by decide +kernel
theorem dX7_move_14 : decode cX7_move 14 = .ok (.invokestatic 74, 3) := by decide +kernel
theorem dX7_move_17 : decode cX7_move 17 = .ok (.ifCond .eq 10, 3) := by decide +kernel
theorem dX7_move_20 : decode cX7_move 20 = .ok (.iload_n 3, 1) := by decide +kernel
theorem dX7_move_21 : decode cX7_move 21 = .ok (.invokestatic 74, 3) := by decide +kernel
theorem dX7_move_24 : decode cX7_move 24 = .ok (.ifCond .ne 7, 3) := by decide +kernel
theorem dX7_move_27 : decode cX7_move 27 = .ok (.iconst 2, 1) := by decide +kernel
theorem dX7_move_28 : decode cX7_move 28 = .ok (.goto 4, 3) := by decide +kernel
theorem dX7_move_31 : decode cX7_move 31 = .ok (.iconst 0, 1) := by decide +kernel
theorem dX7_move_32 : decode cX7_move 32 = .ok (.invokevirtual 78, 3) := by decide +kernel
theorem dX7_move_35 : decode cX7_move 35 = .ok (.ifCond .eq 17, 3) := by decide +kernel
theorem dX7_move_38 : decode cX7_move 38 = .ok (.aload_n 0, 1) := by decide +kernel
theorem dX7_move_39 : decode cX7_move 39 = .ok (.getfield 7, 3) := by decide +kernel
theorem dX7_move_42 : decode cX7_move 42 = .ok (.iload_n 1, 1) := by decide +kernel
theorem dX7_move_43 : decode cX7_move 43 = .ok (.iload_n 2, 1) := by decide +kernel
theorem dX7_move_44 : decode cX7_move 44 = .ok (.iastore, 1) := by decide +kernel
theorem dX7_move_45 : decode cX7_move 45 = .ok (.aload_n 0, 1) := by decide +kernel
theorem dX7_move_46 : decode cX7_move 46 = .ok (.getfield 13, 3) := by decide +kernel
theorem dX7_move_49 : decode cX7_move 49 = .ok (.iload_n 1, 1) := by decide +kernel
theorem dX7_move_50 : decode cX7_move 50 = .ok (.iload_n 3, 1) := by decide +kernel
theorem dX7_move_51 : decode cX7_move 51 = .ok (.iastore, 1) := by decide +kernel
theorem dX7_move_52 : decode cX7_move 52 = .ok (.return_, 1) := by decide +kernel
theorem dX7_clients_0 : decode cX7_clients 0 = .ok (.aload_n 0, 1) := by decide +kernel
theorem dX7_clients_1 : decode cX7_clients 1 = .ok (.iconst 0, 1) := by decide +kernel
theorem dX7_clients_2 : decode cX7_clients 2 = .ok (.putfield 60, 3) := by decide +kernel
theorem dX7_clients_5 : decode cX7_clients 5 = .ok (.aload_n 0, 1) := by decide +kernel
theorem dX7_clients_6 : decode cX7_clients 6 = .ok (.getfield 64, 3) := by decide +kernel
theorem dX7_clients_9 : decode cX7_clients 9 = .ok (.ireturn, 1) := by decide +kernel
set_option maxRecDepth 20000 in
theorem ggX7_layer_X7_isIn : GoodIn wsX7_layer wsX7_isIn := goodIn_r _ [8] (by decide +kernel) (by decide +kernel)
set_option maxRecDepth 20000 in
theorem gX7_layer_X7_isIn : GoodIn wsX7_layer (va_wsS RX7 67 yX7_isIn wsX7_isIn) := goodIn_app (goodIn_of _ (by decide +kernel)) ggX7_layer_X7_isIn
set_option maxRecDepth 20000 in
theorem ggX7_layer_X7_goes : GoodIn wsX7_layer wsX7_goes := goodIn_r _ [12, 13, 14, 15, 16, 17, 18, 19, 20, 21, 22, 23, 24, 25, 26, 27, 28, 29, 30, 31, 32, 33, 34, 35, 36, 37, 38, 39] (by decide +kernel) (by decide +kernel)
set_option maxRecDepth 20000 in
theorem gX7_layer_X7_goes : GoodIn wsX7_layer (wsV RX7 78 RX7 yX7_goes wsX7_goes) := goodIn_app (goodIn_of _ (by decide +kernel)) ggX7_layer_X7_goes
theorem dX7_layer_0 : decode cX7_layer 0 = .ok (.iload_n 2, 1) := by decide +kernel
theorem dX7_layer_1 : decode cX7_layer 1 = .ok (.ifCond .ne 7, 3) := by decide +kernel
theorem dX7_layer_4 : decode cX7_layer 4 = .ok (.iconst 0, 1) := by decide +kernel
theorem dX7_layer_5 : decode cX7_layer 5 = .ok (.goto 15, 3) := by decide +kernel
theorem dX7_layer_8 : decode cX7_layer 8 = .ok (.iload_n 2, 1) := by decide +kernel
theorem dX7_layer_9 : decode cX7_layer 9 = .ok (.iconst 3, 1) := by decide +kernel
theorem dX7_layer_10 : decode cX7_layer 10 = .ok (.if_icmp .ne 8, 3) := by decide +kernel
theorem dX7_layer_13 : decode cX7_layer 13 = .ok (.bipush 11, 2) := by decide +kernel
theorem dX7_layer_15 : decode cX7_layer 15 = .ok (.goto 5, 3) := by decide +kernel
theorem dX7_layer_18 : decode cX7_layer 18 = .ok (.bipush 7, 2) := by decide +kernel
theorem dX7_layer_20 : decode cX7_layer 20 = .ok (.istore 4, 2) := by decide +kernel
theorem dX7_layer_22 : decode cX7_layer 22 = .ok (.aload_n 0, 1) := by decide +kernel
theorem dX7_layer_23 : decode cX7_layer 23 = .ok (.iload_n 1, 1) := by decide +kernel
theorem dX7_layer_24 : decode cX7_layer 24 = .ok (.iconst 0, 1) := by decide +kernel
theorem dX7_layer_25 : decode cX7_layer 25 = .ok (.bipush 99, 2) := by decide +kernel
theorem dX7_layer_27 : decode cX7_layer 27 = .ok (.invokestatic 67, 3) := by decide +kernel
theorem dX7_layer_30 : decode cX7_layer 30 = .ok (.ifCond .eq 22, 3) := by decide +kernel
theorem dX7_layer_33 : decode cX7_layer 33 = .ok (.iload_n 2, 1) := by decide +kernel
theorem dX7_layer_34 : decode cX7_layer 34 = .ok (.iconst 0, 1) := by decide +kernel
theorem dX7_layer_35 : decode cX7_layer 35 = .ok (.iconst 3, 1) := by decide +kernel
theorem dX7_layer_36 : decode cX7_layer 36 = .ok (.invokestatic 67, 3) := by decide +kernel
theorem dX7_layer_39 : decode cX7_layer 39 = .ok (.ifCond .eq 13, 3) := by decide +kernel
theorem dX7_layer_42 : decode cX7_layer 42 = .ok (.iload_n 3, 1) := by decide +kernel
theorem dX7_layer_43 : decode cX7_layer 43 = .ok (.iconst 0, 1) := by decide +kernel
theorem dX7_layer_44 : decode cX7_layer 44 = .ok (.iload 4, 2) := by decide +kernel
theorem dX7_layer_46 : decode cX7_layer 46 = .ok (.invokestatic 67, 3) := by decide +kernel
theorem dX7_layer_49 : decode cX7_layer 49 = .ok (.ifCond .ne 7, 3) := by decide +kernel
theorem dX7_layer_52 : decode cX7_layer 52 = .ok (.iconst 1, 1) := by decide +kernel
theorem dX7_layer_53 : decode cX7_layer 53 = .ok (.goto 17, 3) := by decide +kernel
theorem dX7_layer_56 : decode cX7_layer 56 = .ok (.aload_n 0, 1) := by decide +kernel
theorem dX7_layer_57 : decode cX7_layer 57 = .ok (.getfield 71, 3) := by decide +kernel
theorem dX7_layer_60 : decode cX7_layer 60 = .ok (.bipush 8, 2) := by decide +kernel
theorem dX7_layer_62 : decode cX7_layer 62 = .ok (.if_icmp .ne 7, 3) := by decide +kernel
theorem dX7_layer_65 : decode cX7_layer 65 = .ok (.iconst 2, 1) := by decide +kernel
theorem dX7_layer_66 : decode cX7_layer 66 = .ok (.goto 4, 3) := by decide +kernel
theorem dX7_layer_69 : decode cX7_layer 69 = .ok (.iconst 0, 1) := by decide +kernel
theorem dX7_layer_70 : decode cX7_layer 70 = .ok (.invokevirtual 78, 3) := by decide +kernel
theorem dX7_layer_73 : decode cX7_layer 73 = .ok (.ifCond .ne 5, 3) := by decide +kernel
theorem dX7_layer_76 : decode cX7_layer 76 = .ok (.iconst 0, 1) := by decide +kernel
theorem dX7_layer_77 : decode cX7_layer 77 = .ok (.ireturn, 1) := by decide +kernel
theorem dX7_layer_78 : decode cX7_layer 78 = .ok (.aload_n 0, 1) := by decide +kernel
theorem dX7_layer_79 : decode cX7_layer 79 = .ok (.getfield 16, 3) := by decide +kernel
theorem dX7_layer_82 : decode cX7_layer 82 = .ok (.aload_n 0, 1) := by decide +kernel
theorem dX7_layer_83 : decode cX7_layer 83 = .ok (.getfield 71, 3) := by decide +kernel
theorem dX7_layer_86 : decode cX7_layer 86 = .ok (.iload_n 1, 1) := by decide +kernel
theorem dX7_layer_87 : decode cX7_layer 87 = .ok (.iastore, 1) := by decide +kernel
theorem dX7_layer_88 : decode cX7_layer 88 = .ok (.aload_n 0, 1) := by decide +kernel
theorem dX7_layer_89 : decode cX7_layer 89 = .ok (.getfield 19, 3) := by decide +kernel
theorem dX7_layer_92 : decode cX7_layer 92 = .ok (.aload_n 0, 1) := by decide +kernel
theorem dX7_layer_93 : decode cX7_layer 93 = .ok (.getfield 71, 3) := by decide +kernel
theorem dX7_layer_96 : decode cX7_layer 96 = .ok (.iload_n 2, 1) := by decide +kernel
theorem dX7_layer_97 : decode cX7_layer 97 = .ok (.iastore, 1) := by decide +kernel
theorem dX7_layer_98 : decode cX7_layer 98 = .ok (.aload_n 0, 1) := by decide +kernel
theorem dX7_layer_99 : decode cX7_layer 99 = .ok (.getfield 22, 3) := by decide +kernel
theorem dX7_layer_102 : decode cX7_layer 102 = .ok (.aload_n 0, 1) := by decide +kernel
theorem dX7_layer_103 : decode cX7_layer 103 = .ok (.getfield 71, 3) := by decide +kernel
theorem dX7_layer_106 : decode cX7_layer 106 = .ok (.iload_n 3, 1) := by decide +kernel
theorem dX7_layer_107 : decode cX7_layer 107 = .ok (.iastore, 1) := by decide +kernel
theorem dX7_layer_108 : decode cX7_layer 108 = .ok (.aload_n 0, 1) := by decide +kernel
theorem dX7_layer_109 : decode cX7_layer 109 = .ok (.dup, 1) := by decide +kernel
theorem dX7_layer_110 : decode cX7_layer 110 = .ok (.getfield 71, 3) := by decide +kernel
theorem dX7_layer_113 : decode cX7_layer 113 = .ok (.iconst 1, 1) := by decide +kernel
theorem dX7_layer_114 : decode cX7_layer 114 = .ok (.iadd, 1) := by decide +kernel
theorem dX7_layer_115 : decode cX7_layer 115 = .ok (.putfield 71, 3) := by decide +kernel
theorem dX7_layer_118 : decode cX7_layer 118 = .ok (.aload_n 0, 1) := by decide +kernel
theorem dX7_layer_119 : decode cX7_layer 119 = .ok (.getfield 71, 3) := by decide +kernel
theorem dX7_layer_122 : decode cX7_layer 122 = .ok (.iconst 1, 1) := by decide +kernel
theorem dX7_layer_123 : decode cX7_layer 123 = .ok (.isub, 1) := by decide +kernel
theorem dX7_layer_124 : decode cX7_layer 124 = .ok (.ireturn, 1) := by decide +kernel
set_option maxRecDepth 20000 in
theorem ggX7_rank_X7_isLayer : GoodIn wsX7_rank wsX7_isLayer := goodIn_r _ [6, 7, 8, 9, 5, 10, 16, 17, 18, 19, 20, 21, 22, 23, 24, 25, 26, 27, 28, 29, 30, 31, 32, 33, 34, 35, 36, 37, 38, 39, 40, 41] (by decide +kernel) (by decide +kernel)
set_option maxRecDepth 20000 in
theorem gX7_rank_X7_isLayer : GoodIn wsX7_rank (wsV RX7 84 RX7 yX7_isLayer wsX7_isLayer) := goodIn_app (goodIn_of _ (by decide +kernel)) ggX7_rank_X7_isLayer
set_option maxRecDepth 20000 in
theorem ggX7_rank_X7_isIn : GoodIn wsX7_rank wsX7_isIn := goodIn_r _ [10] (by decide +kernel) (by decide +kernel)
set_option maxRecDepth 20000 in
theorem gX7_rank_X7_isIn : GoodIn wsX7_rank (va_wsS RX7 67 yX7_isIn wsX7_isIn) := goodIn_app (goodIn_of _ (by decide +kernel)) ggX7_rank_X7_isIn
set_option maxRecDepth 20000 in
theorem ggX7_rank_X7_goes : GoodIn wsX7_rank wsX7_goes := goodIn_r _ [14, 15, 16, 17, 18, 19, 20, 21, 22, 23, 24, 25, 26, 27, 28, 29, 30, 31, 32, 33, 34, 35, 36, 37, 38, 39, 40, 41] (by decide +kernel) (by decide +kernel)
set_option maxRecDepth 20000 in
theorem gX7_rank_X7_goes : GoodIn wsX7_rank (wsV RX7 78 RX7 yX7_goes wsX7_goes) := goodIn_app (goodIn_of _ (by decide +kernel)) ggX7_rank_X7_goes
theorem dX7_rank_0 : decode cX7_rank 0 = .ok (.aload_n 0, 1) := by decide +kernel
theorem dX7_rank_1 : decode cX7_rank 1 = .ok (.aload_n 0, 1) := by decide +kernel
theorem dX7_rank_2 : decode cX7_rank 2 = .ok (.iload_n 1, 1) := by decide +kernel
theorem dX7_rank_3 : decode cX7_rank 3 = .ok (.invokevirtual 84, 3) := by decide +kernel
theorem dX7_rank_6 : decode cX7_rank 6 = .ok (.ifCond .ne 7, 3) := by decide +kernel
theorem dX7_rank_9 : decode cX7_rank 9 = .ok (.iconst 1, 1) := by decide +kernel
theorem dX7_rank_10 : decode cX7_rank 10 = .ok (.goto 18, 3) := by decide +kernel
theorem dX7_rank_13 : decode cX7_rank 13 = .ok (.iload_n 2, 1) := by decide +kernel
theorem dX7_rank_14 : decode cX7_rank 14 = .ok (.iconst 0, 1) := by decide +kernel
theorem dX7_rank_15 : decode cX7_rank 15 = .ok (.bipush 99, 2) := by decide +kernel
theorem dX7_rank_17 : decode cX7_rank 17 = .ok (.invokestatic 67, 3) := by decide +kernel
theorem dX7_rank_20 : decode cX7_rank 20 = .ok (.ifCond .eq 7, 3) := by decide +kernel
theorem dX7_rank_23 : decode cX7_rank 23 = .ok (.iconst 0, 1) := by decide +kernel
theorem dX7_rank_24 : decode cX7_rank 24 = .ok (.goto 4, 3) := by decide +kernel
theorem dX7_rank_27 : decode cX7_rank 27 = .ok (.iconst 2, 1) := by decide +kernel
theorem dX7_rank_28 : decode cX7_rank 28 = .ok (.invokevirtual 78, 3) := by decide +kernel
theorem dX7_rank_31 : decode cX7_rank 31 = .ok (.ifCond .ne 5, 3) := by decide +kernel
theorem dX7_rank_34 : decode cX7_rank 34 = .ok (.iconst 0, 1) := by decide +kernel
theorem dX7_rank_35 : decode cX7_rank 35 = .ok (.ireturn, 1) := by decide +kernel
theorem dX7_rank_36 : decode cX7_rank 36 = .ok (.aload_n 0, 1) := by decide +kernel
theorem dX7_rank_37 : decode cX7_rank 37 = .ok (.getfield 16, 3) := by decide +kernel
theorem dX7_rank_40 : decode cX7_rank 40 = .ok (.iload_n 1, 1) := by decide +kernel
theorem dX7_rank_41 : decode cX7_rank 41 = .ok (.iaload, 1) := by decide +kernel
theorem dX7_rank_42 : decode cX7_rank 42 = .ok (.istore_n 3, 1) := by decide +kernel
theorem dX7_rank_43 : decode cX7_rank 43 = .ok (.aload_n 0, 1) := by decide +kernel
theorem dX7_rank_44 : decode cX7_rank 44 = .ok (.getfield 16, 3) := by decide +kernel
theorem dX7_rank_47 : decode cX7_rank 47 = .ok (.iload_n 1, 1) := by decide +kernel
theorem dX7_rank_48 : decode cX7_rank 48 = .ok (.iload_n 2, 1) := by decide +kernel
theorem dX7_rank_49 : decode cX7_rank 49 = .ok (.iastore, 1) := by decide +kernel
theorem dX7_rank_50 : decode cX7_rank 50 = .ok (.iload_n 3, 1) := by decide +kernel
theorem dX7_rank_51 : decode cX7_rank 51 = .ok (.ireturn, 1) := by decide +kernel
theorem dX7_layers_0 : decode cX7_layers 0 = .ok (.aload_n 0, 1) := by decide +kernel
theorem dX7_layers_1 : decode cX7_layers 1 = .ok (.iconst 0, 1) := by decide +kernel
theorem dX7_layers_2 : decode cX7_layers 2 = .ok (.putfield 60, 3) := by decide +kernel
theorem dX7_layers_5 : decode cX7_layers 5 = .ok (.aload_n 0, 1) := by decide +kernel
theorem dX7_layers_6 : decode cX7_layers 6 = .ok (.getfield 71, 3) := by decide +kernel
theorem dX7_layers_9 : decode cX7_layers 9 = .ok (.ireturn, 1) := by decide +kernel
theorem dX7_isAhead_0 : decode cX7_isAhead 0 = .ok (.aload_n 0, 1) := by decide +kernel
theorem dX7_isAhead_1 : decode cX7_isAhead 1 = .ok (.getfield 16, 3) := by decide +kernel
theorem dX7_isAhead_4 : decode cX7_isAhead 4 = .ok (.iload_n 1, 1) := by decide +kernel
theorem dX7_isAhead_5 : decode cX7_isAhead 5 = .ok (.iaload, 1) := by decide +kernel
theorem dX7_isAhead_6 : decode cX7_isAhead 6 = .ok (.aload_n 0, 1) := by decide +kernel
theorem dX7_isAhead_7 : decode cX7_isAhead 7 = .ok (.getfield 16, 3) := by decide +kernel
theorem dX7_isAhead_10 : decode cX7_isAhead 10 = .ok (.iload_n 2, 1) := by decide +kernel
theorem dX7_isAhead_11 : decode cX7_isAhead 11 = .ok (.iaload, 1) := by decide +kernel
theorem dX7_isAhead_12 : decode cX7_isAhead 12 = .ok (.if_icmp .gt 23, 3) := by decide +kernel
theorem dX7_isAhead_15 : decode cX7_isAhead 15 = .ok (.aload_n 0, 1) := by decide +kernel
theorem dX7_isAhead_16 : decode cX7_isAhead 16 = .ok (.getfield 16, 3) := by decide +kernel
theorem dX7_isAhead_19 : decode cX7_isAhead 19 = .ok (.iload_n 1, 1) := by decide +kernel
theorem dX7_isAhead_20 : decode cX7_isAhead 20 = .ok (.iaload, 1) := by decide +kernel
theorem dX7_isAhead_21 : decode cX7_isAhead 21 = .ok (.aload_n 0, 1) := by decide +kernel
theorem dX7_isAhead_22 : decode cX7_isAhead 22 = .ok (.getfield 16, 3) := by decide +kernel
theorem dX7_isAhead_25 : decode cX7_isAhead 25 = .ok (.iload_n 2, 1) := by decide +kernel
theorem dX7_isAhead_26 : decode cX7_isAhead 26 = .ok (.iaload, 1) := by decide +kernel
theorem dX7_isAhead_27 : decode cX7_isAhead 27 = .ok (.if_icmp .ne 12, 3) := by decide +kernel
theorem dX7_isAhead_30 : decode cX7_isAhead 30 = .ok (.iload_n 1, 1) := by decide +kernel
theorem dX7_isAhead_31 : decode cX7_isAhead 31 = .ok (.iload_n 2, 1) := by decide +kernel
theorem dX7_isAhead_32 : decode cX7_isAhead 32 = .ok (.if_icmp .le 7, 3) := by decide +kernel
theorem dX7_isAhead_35 : decode cX7_isAhead 35 = .ok (.iconst 1, 1) := by decide +kernel
theorem dX7_isAhead_36 : decode cX7_isAhead 36 = .ok (.goto 4, 3) := by decide +kernel
theorem dX7_isAhead_39 : decode cX7_isAhead 39 = .ok (.iconst 0, 1) := by decide +kernel
theorem dX7_isAhead_40 : decode cX7_isAhead 40 = .ok (.ireturn, 1) := by decide +kernel
set_option maxRecDepth 20000 in
theorem ggX7_layerAt_X7_isIn : GoodIn wsX7_layerAt wsX7_isIn := goodIn_r _ [5] (by decide +kernel) (by decide +kernel)
set_option maxRecDepth 20000 in
theorem gX7_layerAt_X7_isIn : GoodIn wsX7_layerAt (va_wsS RX7 67 yX7_isIn wsX7_isIn) := goodIn_app (goodIn_of _ (by decide +kernel)) ggX7_layerAt_X7_isIn
set_option maxRecDepth 20000 in
theorem ggX7_layerAt_X7_goes : GoodIn wsX7_layerAt wsX7_goes := goodIn_r _ [9, 10, 16, 17, 18, 19, 20, 21, 22, 23, 24, 25, 26, 27, 28, 29, 30, 31, 32, 33, 34, 35, 36, 37, 38, 39, 40, 41] (by decide +kernel) (by decide +kernel)
set_option maxRecDepth 20000 in
theorem gX7_layerAt_X7_goes : GoodIn wsX7_layerAt (wsV RX7 78 RX7 yX7_goes wsX7_goes) := goodIn_app (goodIn_of _ (by decide +kernel)) ggX7_layerAt_X7_goes
set_option maxRecDepth 20000 in
theorem ggX7_layerAt_X7_isAhead : GoodIn wsX7_layerAt wsX7_isAhead := goodIn_r _ [14, 15, 16, 17, 18, 19, 20, 21, 22, 23, 24, 25, 26, 27, 28, 29, 30, 31, 32, 33, 34, 35, 36, 37, 38, 39, 40, 41] (by decide +kernel) (by decide +kernel)
set_option maxRecDepth 20000 in
theorem gX7_layerAt_X7_isAhead : GoodIn wsX7_layerAt (wsV RX7 87 RX7 yX7_isAhead wsX7_isAhead) := goodIn_app (goodIn_of _ (by decide +kernel)) ggX7_layerAt_X7_isAhead
theorem dX7_layerAt_0 : decode cX7_layerAt 0 = .ok (.iconst 0, 1) := by decide +kernel
theorem dX7_layerAt_1 : decode cX7_layerAt 1 = .ok (.istore_n 2, 1) := by decide +kernel
theorem dX7_layerAt_2 : decode cX7_layerAt 2 = .ok (.aload_n 0, 1) := by decide +kernel
theorem dX7_layerAt_3 : decode cX7_layerAt 3 = .ok (.iload_n 1, 1) := by decide +kernel
theorem dX7_layerAt_4 : decode cX7_layerAt 4 = .ok (.iconst 0, 1) := by decide +kernel
theorem dX7_layerAt_5 : decode cX7_layerAt 5 = .ok (.aload_n 0, 1) := by decide +kernel
theorem dX7_layerAt_6 : decode cX7_layerAt 6 = .ok (.getfield 71, 3) := by decide +kernel
theorem dX7_layerAt_9 : decode cX7_layerAt 9 = .ok (.iconst 1, 1) := by decide +kernel
theorem dX7_layerAt_10 : decode cX7_layerAt 10 = .ok (.isub, 1) := by decide +kernel
theorem dX7_layerAt_11 : decode cX7_layerAt 11 = .ok (.invokestatic 67, 3) := by decide +kernel
theorem dX7_layerAt_14 : decode cX7_layerAt 14 = .ok (.ifCond .eq 7, 3) := by decide +kernel
theorem dX7_layerAt_17 : decode cX7_layerAt 17 = .ok (.iconst 0, 1) := by decide +kernel
theorem dX7_layerAt_18 : decode cX7_layerAt 18 = .ok (.goto 4, 3) := by decide +kernel
theorem dX7_layerAt_21 : decode cX7_layerAt 21 = .ok (.iconst 1, 1) := by decide +kernel
theorem dX7_layerAt_22 : decode cX7_layerAt 22 = .ok (.invokevirtual 78, 3) := by decide +kernel
theorem dX7_layerAt_25 : decode cX7_layerAt 25 = .ok (.istore_n 3, 1) := by decide +kernel
theorem dX7_layerAt_26 : decode cX7_layerAt 26 = .ok (.iconst 0, 1) := by decide +kernel
theorem dX7_layerAt_27 : decode cX7_layerAt 27 = .ok (.istore 4, 2) := by decide +kernel
theorem dX7_layerAt_29 : decode cX7_layerAt 29 = .ok (.iload 4, 2) := by decide +kernel
theorem dX7_layerAt_31 : decode cX7_layerAt 31 = .ok (.aload_n 0, 1) := by decide +kernel
theorem dX7_layerAt_32 : decode cX7_layerAt 32 = .ok (.getfield 71, 3) := by decide +kernel
theorem dX7_layerAt_35 : decode cX7_layerAt 35 = .ok (.if_icmp .ge 68, 3) := by decide +kernel
theorem dX7_layerAt_38 : decode cX7_layerAt 38 = .ok (.iload_n 3, 1) := by decide +kernel
theorem dX7_layerAt_39 : decode cX7_layerAt 39 = .ok (.ifCond .eq 64, 3) := by decide +kernel
theorem dX7_layerAt_42 : decode cX7_layerAt 42 = .ok (.iconst 0, 1) := by decide +kernel
theorem dX7_layerAt_43 : decode cX7_layerAt 43 = .ok (.istore 5, 2) := by decide +kernel
theorem dX7_layerAt_45 : decode cX7_layerAt 45 = .ok (.iconst 0, 1) := by decide +kernel
theorem dX7_layerAt_46 : decode cX7_layerAt 46 = .ok (.istore 6, 2) := by decide +kernel
theorem dX7_layerAt_48 : decode cX7_layerAt 48 = .ok (.iload 6, 2) := by decide +kernel
theorem dX7_layerAt_50 : decode cX7_layerAt 50 = .ok (.aload_n 0, 1) := by decide +kernel
theorem dX7_layerAt_51 : decode cX7_layerAt 51 = .ok (.getfield 71, 3) := by decide +kernel
theorem dX7_layerAt_54 : decode cX7_layerAt 54 = .ok (.if_icmp .ge 30, 3) := by decide +kernel
theorem dX7_layerAt_57 : decode cX7_layerAt 57 = .ok (.iload 5, 2) := by decide +kernel
theorem dX7_layerAt_59 : decode cX7_layerAt 59 = .ok (.aload_n 0, 1) := by decide +kernel
theorem dX7_layerAt_60 : decode cX7_layerAt 60 = .ok (.iload 6, 2) := by decide +kernel
theorem dX7_layerAt_62 : decode cX7_layerAt 62 = .ok (.iload 4, 2) := by decide +kernel
theorem dX7_layerAt_64 : decode cX7_layerAt 64 = .ok (.invokevirtual 87, 3) := by decide +kernel
theorem dX7_layerAt_67 : decode cX7_layerAt 67 = .ok (.ifCond .eq 7, 3) := by decide +kernel
theorem dX7_layerAt_70 : decode cX7_layerAt 70 = .ok (.iconst 1, 1) := by decide +kernel
theorem dX7_layerAt_71 : decode cX7_layerAt 71 = .ok (.goto 4, 3) := by decide +kernel
theorem dX7_layerAt_74 : decode cX7_layerAt 74 = .ok (.iconst 0, 1) := by decide +kernel
theorem dX7_layerAt_75 : decode cX7_layerAt 75 = .ok (.iadd, 1) := by decide +kernel
theorem dX7_layerAt_76 : decode cX7_layerAt 76 = .ok (.istore 5, 2) := by decide +kernel
theorem dX7_layerAt_78 : decode cX7_layerAt 78 = .ok (.iinc 6 1, 3) := by decide +kernel
theorem dX7_layerAt_81 : decode cX7_layerAt 81 = .ok (.goto (-33), 3) := by decide +kernel
theorem dX7_layerAt_84 : decode cX7_layerAt 84 = .ok (.iload 5, 2) := by decide +kernel
theorem dX7_layerAt_86 : decode cX7_layerAt 86 = .ok (.iload_n 1, 1) := by decide +kernel
theorem dX7_layerAt_87 : decode cX7_layerAt 87 = .ok (.if_icmp .ne 8, 3) := by decide +kernel
theorem dX7_layerAt_90 : decode cX7_layerAt 90 = .ok (.iload 4, 2) := by decide +kernel
theorem dX7_layerAt_92 : decode cX7_layerAt 92 = .ok (.goto 4, 3) := by decide +kernel
theorem dX7_layerAt_95 : decode cX7_layerAt 95 = .ok (.iload_n 2, 1) := by decide +kernel
theorem dX7_layerAt_96 : decode cX7_layerAt 96 = .ok (.istore_n 2, 1) := by decide +kernel
theorem dX7_layerAt_97 : decode cX7_layerAt 97 = .ok (.iinc 4 1, 3) := by decide +kernel
theorem dX7_layerAt_100 : decode cX7_layerAt 100 = .ok (.goto (-71), 3) := by decide +kernel
theorem dX7_layerAt_103 : decode cX7_layerAt 103 = .ok (.iload_n 2, 1) := by decide +kernel
theorem dX7_layerAt_104 : decode cX7_layerAt 104 = .ok (.ireturn, 1) := by decide +kernel
theorem dX7_isFor_0 : decode cX7_isFor 0 = .ok (.aload_n 0, 1) := by decide +kernel
theorem dX7_isFor_1 : decode cX7_isFor 1 = .ok (.getfield 19, 3) := by decide +kernel
theorem dX7_isFor_4 : decode cX7_isFor 4 = .ok (.iload_n 1, 1) := by decide +kernel
theorem dX7_isFor_5 : decode cX7_isFor 5 = .ok (.iaload, 1) := by decide +kernel
theorem dX7_isFor_6 : decode cX7_isFor 6 = .ok (.iconst 1, 1) := by decide +kernel
theorem dX7_isFor_7 : decode cX7_isFor 7 = .ok (.if_icmp .ne 12, 3) := by decide +kernel
theorem dX7_isFor_10 : decode cX7_isFor 10 = .ok (.aload_n 0, 1) := by decide +kernel
theorem dX7_isFor_11 : decode cX7_isFor 11 = .ok (.getfield 7, 3) := by decide +kernel
theorem dX7_isFor_14 : decode cX7_isFor 14 = .ok (.iload_n 2, 1) := by decide +kernel
theorem dX7_isFor_15 : decode cX7_isFor 15 = .ok (.iaload, 1) := by decide +kernel
theorem dX7_isFor_16 : decode cX7_isFor 16 = .ok (.goto 23, 3) := by decide +kernel
theorem dX7_isFor_19 : decode cX7_isFor 19 = .ok (.aload_n 0, 1) := by decide +kernel
theorem dX7_isFor_20 : decode cX7_isFor 20 = .ok (.getfield 19, 3) := by decide +kernel
theorem dX7_isFor_23 : decode cX7_isFor 23 = .ok (.iload_n 1, 1) := by decide +kernel
theorem dX7_isFor_24 : decode cX7_isFor 24 = .ok (.iaload, 1) := by decide +kernel
theorem dX7_isFor_25 : decode cX7_isFor 25 = .ok (.iconst 2, 1) := by decide +kernel
theorem dX7_isFor_26 : decode cX7_isFor 26 = .ok (.if_icmp .ne 12, 3) := by decide +kernel
theorem dX7_isFor_29 : decode cX7_isFor 29 = .ok (.aload_n 0, 1) := by decide +kernel
theorem dX7_isFor_30 : decode cX7_isFor 30 = .ok (.getfield 13, 3) := by decide +kernel
theorem dX7_isFor_33 : decode cX7_isFor 33 = .ok (.iload_n 2, 1) := by decide +kernel
theorem dX7_isFor_34 : decode cX7_isFor 34 = .ok (.iaload, 1) := by decide +kernel
theorem dX7_isFor_35 : decode cX7_isFor 35 = .ok (.goto 4, 3) := by decide +kernel
theorem dX7_isFor_38 : decode cX7_isFor 38 = .ok (.iload_n 2, 1) := by decide +kernel
theorem dX7_isFor_39 : decode cX7_isFor 39 = .ok (.istore_n 3, 1) := by decide +kernel
theorem dX7_isFor_40 : decode cX7_isFor 40 = .ok (.aload_n 0, 1) := by decide +kernel
theorem dX7_isFor_41 : decode cX7_isFor 41 = .ok (.getfield 19, 3) := by decide +kernel
theorem dX7_isFor_44 : decode cX7_isFor 44 = .ok (.iload_n 1, 1) := by decide +kernel
theorem dX7_isFor_45 : decode cX7_isFor 45 = .ok (.iaload, 1) := by decide +kernel
theorem dX7_isFor_46 : decode cX7_isFor 46 = .ok (.ifCond .eq 13, 3) := by decide +kernel
theorem dX7_isFor_49 : decode cX7_isFor 49 = .ok (.iload_n 3, 1) := by decide +kernel
theorem dX7_isFor_50 : decode cX7_isFor 50 = .ok (.aload_n 0, 1) := by decide +kernel
theorem dX7_isFor_51 : decode cX7_isFor 51 = .ok (.getfield 22, 3) := by decide +kernel
theorem dX7_isFor_54 : decode cX7_isFor 54 = .ok (.iload_n 1, 1) := by decide +kernel
theorem dX7_isFor_55 : decode cX7_isFor 55 = .ok (.iaload, 1) := by decide +kernel
theorem dX7_isFor_56 : decode cX7_isFor 56 = .ok (.if_icmp .ne 7, 3) := by decide +kernel
theorem dX7_isFor_59 : decode cX7_isFor 59 = .ok (.iconst 1, 1) := by decide +kernel
theorem dX7_isFor_60 : decode cX7_isFor 60 = .ok (.goto 4, 3) := by decide +kernel
theorem dX7_isFor_63 : decode cX7_isFor 63 = .ok (.iconst 0, 1) := by decide +kernel
theorem dX7_isFor_64 : decode cX7_isFor 64 = .ok (.ireturn, 1) := by decide +kernel
set_option maxRecDepth 20000 in
theorem ggX7_applies_X7_isLayer : GoodIn wsX7_applies wsX7_isLayer := goodIn_r _ [5, 6, 7, 8, 4, 9, 28, 29, 30, 31, 32, 33, 34, 35, 36, 37, 38, 39, 40, 41, 42, 43, 44, 45, 46, 47, 48, 49, 50, 51, 52, 53] (by decide +kernel) (by decide +kernel)
set_option maxRecDepth 20000 in
theorem gX7_applies_X7_isLayer : GoodIn wsX7_applies (wsV RX7 84 RX7 yX7_isLayer wsX7_isLayer) := goodIn_app (goodIn_of _ (by decide +kernel)) ggX7_applies_X7_isLayer
set_option maxRecDepth 20000 in
theorem ggX7_applies_X7_isClient : GoodIn wsX7_applies wsX7_isClient := goodIn_r _ [13, 14, 7, 8, 4, 9, 28, 29, 30, 31, 32, 33, 34, 35, 36, 37, 38, 39, 40, 41, 42, 43, 44, 45, 46, 47, 48, 49, 50, 51, 52, 53] (by decide +kernel) (by decide +kernel)
set_option maxRecDepth 20000 in
theorem gX7_applies_X7_isClient : GoodIn wsX7_applies (wsV RX7 81 RX7 yX7_isClient wsX7_isClient) := goodIn_app (goodIn_of _ (by decide +kernel)) ggX7_applies_X7_isClient
set_option maxRecDepth 20000 in
theorem ggX7_applies_X7_goes : GoodIn wsX7_applies wsX7_goes := goodIn_r _ [18, 19, 28, 29, 30, 31, 32, 33, 34, 35, 36, 37, 38, 39, 40, 41, 42, 43, 44, 45, 46, 47, 48, 49, 50, 51, 52, 53] (by decide +kernel) (by decide +kernel)
set_option maxRecDepth 20000 in
theorem gX7_applies_X7_goes : GoodIn wsX7_applies (wsV RX7 78 RX7 yX7_goes wsX7_goes) := goodIn_app (goodIn_of _ (by decide +kernel)) ggX7_applies_X7_goes
set_option maxRecDepth 20000 in
theorem ggX7_applies_X7_isFor : GoodIn wsX7_applies wsX7_isFor := goodIn_r _ [23, 24, 25, 26, 27, 28, 29, 30, 31, 32, 33, 34, 35, 36, 37, 38, 39, 40, 41, 42, 43, 44, 45, 46, 47, 48, 49, 50, 51, 52, 53] (by decide +kernel) (by decide +kernel)
set_option maxRecDepth 20000 in
theorem gX7_applies_X7_isFor : GoodIn wsX7_applies (wsV RX7 91 RX7 yX7_isFor wsX7_isFor) := goodIn_app (goodIn_of _ (by decide +kernel)) ggX7_applies_X7_isFor
theorem dX7_applies_0 : decode cX7_applies 0 = .ok (.aload_n 0, 1) := by decide +kernel
theorem dX7_applies_1 : decode cX7_applies 1 = .ok (.aload_n 0, 1) := by decide +kernel
theorem dX7_applies_2 : decode cX7_applies 2 = .ok (.iload_n 1, 1) := by decide +kernel
theorem dX7_applies_3 : decode cX7_applies 3 = .ok (.invokevirtual 84, 3) := by decide +kernel
theorem dX7_applies_6 : decode cX7_applies 6 = .ok (.ifCond .eq 15, 3) := by decide +kernel
theorem dX7_applies_9 : decode cX7_applies 9 = .ok (.aload_n 0, 1) := by decide +kernel
theorem dX7_applies_10 : decode cX7_applies 10 = .ok (.iload_n 2, 1) := by decide +kernel
theorem dX7_applies_11 : decode cX7_applies 11 = .ok (.invokevirtual 81, 3) := by decide +kernel
theorem dX7_applies_14 : decode cX7_applies 14 = .ok (.ifCond .eq 7, 3) := by decide +kernel
theorem dX7_applies_17 : decode cX7_applies 17 = .ok (.iconst 0, 1) := by decide +kernel
theorem dX7_applies_18 : decode cX7_applies 18 = .ok (.goto 4, 3) := by decide +kernel
theorem dX7_applies_21 : decode cX7_applies 21 = .ok (.iconst 1, 1) := by decide +kernel
theorem dX7_applies_22 : decode cX7_applies 22 = .ok (.invokevirtual 78, 3) := by decide +kernel
theorem dX7_applies_25 : decode cX7_applies 25 = .ok (.ifCond .eq 16, 3) := by decide +kernel
theorem dX7_applies_28 : decode cX7_applies 28 = .ok (.aload_n 0, 1) := by decide +kernel
theorem dX7_applies_29 : decode cX7_applies 29 = .ok (.iload_n 1, 1) := by decide +kernel
theorem dX7_applies_30 : decode cX7_applies 30 = .ok (.iload_n 2, 1) := by decide +kernel
theorem dX7_applies_31 : decode cX7_applies 31 = .ok (.invokevirtual 91, 3) := by decide +kernel
theorem dX7_applies_34 : decode cX7_applies 34 = .ok (.ifCond .eq 7, 3) := by decide +kernel
theorem dX7_applies_37 : decode cX7_applies 37 = .ok (.iconst 1, 1) := by decide +kernel
theorem dX7_applies_38 : decode cX7_applies 38 = .ok (.goto 4, 3) := by decide +kernel
theorem dX7_applies_41 : decode cX7_applies 41 = .ok (.iconst 0, 1) := by decide +kernel
theorem dX7_applies_42 : decode cX7_applies 42 = .ok (.ireturn, 1) := by decide +kernel
theorem dX7_entry_0 : decode cX7_entry 0 = .ok (.iconst 1, 1) := by decide +kernel
theorem dX7_entry_1 : decode cX7_entry 1 = .ok (.iload_n 0, 1) := by decide +kernel
theorem dX7_entry_2 : decode cX7_entry 2 = .ok (.iadd, 1) := by decide +kernel
theorem dX7_entry_3 : decode cX7_entry 3 = .ok (.sipush 9999, 3) := by decide +kernel
theorem dX7_entry_6 : decode cX7_entry 6 = .ok (.iadd, 1) := by decide +kernel
theorem dX7_entry_7 : decode cX7_entry 7 = .ok (.sipush 20000, 3) := by decide +kernel
theorem dX7_entry_10 : decode cX7_entry 10 = .ok (.iload_n 1, 1) := by decide +kernel
theorem dX7_entry_11 : decode cX7_entry 11 = .ok (.iconst 1, 1) := by decide +kernel
theorem dX7_entry_12 : decode cX7_entry 12 = .ok (.iadd, 1) := by decide +kernel
theorem dX7_entry_13 : decode cX7_entry 13 = .ok (.bipush 17, 2) := by decide +kernel
theorem dX7_entry_15 : decode cX7_entry 15 = .ok (.iload_n 2, 1) := by decide +kernel
theorem dX7_entry_16 : decode cX7_entry 16 = .ok (.iconst 1, 1) := by decide +kernel
theorem dX7_entry_17 : decode cX7_entry 17 = .ok (.iadd, 1) := by decide +kernel
theorem dX7_entry_18 : decode cX7_entry 18 = .ok (.imul, 1) := by decide +kernel
theorem dX7_entry_19 : decode cX7_entry 19 = .ok (.iadd, 1) := by decide +kernel
theorem dX7_entry_20 : decode cX7_entry 20 = .ok (.imul, 1) := by decide +kernel
theorem dX7_entry_21 : decode cX7_entry 21 = .ok (.iadd, 1) := by decide +kernel
theorem dX7_entry_22 : decode cX7_entry 22 = .ok (.ireturn, 1) := by decide +kernel
theorem dX7_baseOf_0 : decode cX7_baseOf 0 = .ok (.iload_n 0, 1) := by decide +kernel
theorem dX7_baseOf_1 : decode cX7_baseOf 1 = .ok (.iconst 1, 1) := by decide +kernel
theorem dX7_baseOf_2 : decode cX7_baseOf 2 = .ok (.isub, 1) := by decide +kernel
theorem dX7_baseOf_3 : decode cX7_baseOf 3 = .ok (.sipush 20000, 3) := by decide +kernel
theorem dX7_baseOf_6 : decode cX7_baseOf 6 = .ok (.irem, 1) := by decide +kernel
theorem dX7_baseOf_7 : decode cX7_baseOf 7 = .ok (.sipush 9999, 3) := by decide +kernel
theorem dX7_baseOf_10 : decode cX7_baseOf 10 = .ok (.isub, 1) := by decide +kernel
theorem dX7_baseOf_11 : decode cX7_baseOf 11 = .ok (.ireturn, 1) := by decide +kernel
theorem dX7_firstOf_0 : decode cX7_firstOf 0 = .ok (.iload_n 0, 1) := by decide +kernel
theorem dX7_firstOf_1 : decode cX7_firstOf 1 = .ok (.iconst 1, 1) := by decide +kernel
theorem dX7_firstOf_2 : decode cX7_firstOf 2 = .ok (.isub, 1) := by decide +kernel
theorem dX7_firstOf_3 : decode cX7_firstOf 3 = .ok (.sipush 20000, 3) := by decide +kernel
theorem dX7_firstOf_6 : decode cX7_firstOf 6 = .ok (.idiv, 1) := by decide +kernel
theorem dX7_firstOf_7 : decode cX7_firstOf 7 = .ok (.bipush 17, 2) := by decide +kernel
theorem dX7_firstOf_9 : decode cX7_firstOf 9 = .ok (.irem, 1) := by decide +kernel
theorem dX7_firstOf_10 : decode cX7_firstOf 10 = .ok (.iconst 1, 1) := by decide +kernel
theorem dX7_firstOf_11 : decode cX7_firstOf 11 = .ok (.isub, 1) := by decide +kernel
theorem dX7_firstOf_12 : decode cX7_firstOf 12 = .ok (.ireturn, 1) := by decide +kernel
theorem dX7_secondOf_0 : decode cX7_secondOf 0 = .ok (.iload_n 0, 1) := by decide +kernel
theorem dX7_secondOf_1 : decode cX7_secondOf 1 = .ok (.iconst 1, 1) := by decide +kernel
theorem dX7_secondOf_2 : decode cX7_secondOf 2 = .ok (.isub, 1) := by decide +kernel
theorem dX7_secondOf_3 : decode cX7_secondOf 3 = .ok (.sipush 20000, 3) := by decide +kernel
theorem dX7_secondOf_6 : decode cX7_secondOf 6 = .ok (.idiv, 1) := by decide +kernel
theorem dX7_secondOf_7 : decode cX7_secondOf 7 = .ok (.bipush 17, 2) := by decide +kernel
theorem dX7_secondOf_9 : decode cX7_secondOf 9 = .ok (.idiv, 1) := by decide +kernel
theorem dX7_secondOf_10 : decode cX7_secondOf 10 = .ok (.iconst 1, 1) := by decide +kernel
theorem dX7_secondOf_11 : decode cX7_secondOf 11 = .ok (.isub, 1) := by decide +kernel
theorem dX7_secondOf_12 : decode cX7_secondOf 12 = .ok (.ireturn, 1) := by decide +kernel
theorem dX7_cell_0 : decode cX7_cell 0 = .ok (.bipush 16, 2) := by decide +kernel
theorem dX7_cell_2 : decode cX7_cell 2 = .ok (.iload_n 0, 1) := by decide +kernel
theorem dX7_cell_3 : decode cX7_cell 3 = .ok (.imul, 1) := by decide +kernel
theorem dX7_cell_4 : decode cX7_cell 4 = .ok (.iload_n 1, 1) := by decide +kernel
theorem dX7_cell_5 : decode cX7_cell 5 = .ok (.iadd, 1) := by decide +kernel
theorem dX7_cell_6 : decode cX7_cell 6 = .ok (.ireturn, 1) := by decide +kernel
theorem dX7_isLockedFor_0 : decode cX7_isLockedFor 0 = .ok (.aload_n 0, 1) := by decide +kernel
theorem dX7_isLockedFor_1 : decode cX7_isLockedFor 1 = .ok (.getfield 37, 3) := by decide +kernel
theorem dX7_isLockedFor_4 : decode cX7_isLockedFor 4 = .ok (.sipush 128, 3) := by decide +kernel
theorem dX7_isLockedFor_7 : decode cX7_isLockedFor 7 = .ok (.iload_n 1, 1) := by decide +kernel
theorem dX7_isLockedFor_8 : decode cX7_isLockedFor 8 = .ok (.bipush 16, 2) := by decide +kernel
theorem dX7_isLockedFor_10 : decode cX7_isLockedFor 10 = .ok (.idiv, 1) := by decide +kernel
theorem dX7_isLockedFor_11 : decode cX7_isLockedFor 11 = .ok (.iadd, 1) := by decide +kernel
theorem dX7_isLockedFor_12 : decode cX7_isLockedFor 12 = .ok (.iaload, 1) := by decide +kernel
theorem dX7_isLockedFor_13 : decode cX7_isLockedFor 13 = .ok (.istore_n 3, 1) := by decide +kernel
theorem dX7_isLockedFor_14 : decode cX7_isLockedFor 14 = .ok (.aload_n 0, 1) := by decide +kernel
theorem dX7_isLockedFor_15 : decode cX7_isLockedFor 15 = .ok (.getfield 37, 3) := by decide +kernel
theorem dX7_isLockedFor_18 : decode cX7_isLockedFor 18 = .ok (.iload_n 1, 1) := by decide +kernel
theorem dX7_isLockedFor_19 : decode cX7_isLockedFor 19 = .ok (.iaload, 1) := by decide +kernel
theorem dX7_isLockedFor_20 : decode cX7_isLockedFor 20 = .ok (.ifCond .le 13, 3) := by decide +kernel
theorem dX7_isLockedFor_23 : decode cX7_isLockedFor 23 = .ok (.aload_n 0, 1) := by decide +kernel
theorem dX7_isLockedFor_24 : decode cX7_isLockedFor 24 = .ok (.getfield 37, 3) := by decide +kernel
theorem dX7_isLockedFor_27 : decode cX7_isLockedFor 27 = .ok (.iload_n 1, 1) := by decide +kernel
theorem dX7_isLockedFor_28 : decode cX7_isLockedFor 28 = .ok (.iaload, 1) := by decide +kernel
theorem dX7_isLockedFor_29 : decode cX7_isLockedFor 29 = .ok (.iload_n 2, 1) := by decide +kernel
theorem dX7_isLockedFor_30 : decode cX7_isLockedFor 30 = .ok (.if_icmp .ne 12, 3) := by decide +kernel
theorem dX7_isLockedFor_33 : decode cX7_isLockedFor 33 = .ok (.iload_n 3, 1) := by decide +kernel
theorem dX7_isLockedFor_34 : decode cX7_isLockedFor 34 = .ok (.ifCond .le 12, 3) := by decide +kernel
theorem dX7_isLockedFor_37 : decode cX7_isLockedFor 37 = .ok (.iload_n 3, 1) := by decide +kernel
theorem dX7_isLockedFor_38 : decode cX7_isLockedFor 38 = .ok (.iload_n 2, 1) := by decide +kernel
theorem dX7_isLockedFor_39 : decode cX7_isLockedFor 39 = .ok (.if_icmp .eq 7, 3) := by decide +kernel
theorem dX7_isLockedFor_42 : decode cX7_isLockedFor 42 = .ok (.iconst 1, 1) := by decide +kernel
theorem dX7_isLockedFor_43 : decode cX7_isLockedFor 43 = .ok (.goto 4, 3) := by decide +kernel
theorem dX7_isLockedFor_46 : decode cX7_isLockedFor 46 = .ok (.iconst 0, 1) := by decide +kernel
theorem dX7_isLockedFor_47 : decode cX7_isLockedFor 47 = .ok (.ireturn, 1) := by decide +kernel
theorem dX7_versions_0 : decode cX7_versions 0 = .ok (.aload_n 0, 1) := by decide +kernel
theorem dX7_versions_1 : decode cX7_versions 1 = .ok (.dup, 1) := by decide +kernel
theorem dX7_versions_2 : decode cX7_versions 2 = .ok (.getfield 94, 3) := by decide +kernel
theorem dX7_versions_5 : decode cX7_versions 5 = .ok (.iconst 1, 1) := by decide +kernel
theorem dX7_versions_6 : decode cX7_versions 6 = .ok (.iadd, 1) := by decide +kernel
theorem dX7_versions_7 : decode cX7_versions 7 = .ok (.putfield 94, 3) := by decide +kernel
