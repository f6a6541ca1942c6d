set_option maxRecDepth 20000 in
theorem gX0_isInQuietHours_J9_floorMod_7cf53 : GoodIn wsX0_isInQuietHours (va_wsS RX0 175 yJ9_floorMod_7cf53 wsJ9_floorMod_7cf53) := goodIn_app (goodIn_of _ (by decide +kernel)) ggX0_isInQuietHours_J9_floorMod_7cf53
theorem dX0_isInQuietHours_0 : decode cX0_isInQuietHours 0 = .ok (.aload_n 0, 1) := by decide +kernel
theorem dX0_isInQuietHours_1 : decode cX0_isInQuietHours 1 = .ok (.iload_n 1, 1) := by decide +kernel
theorem dX0_isInQuietHours_2 : decode cX0_isInQuietHours 2 = .ok (.invokevirtual 178, 3) := by decide +kernel
theorem dX0_isInQuietHours_5 : decode cX0_isInQuietHours 5 = .ok (.aload_n 0, 1) := by decide +kernel
theorem dX0_isInQuietHours_6 : decode cX0_isInQuietHours 6 = .ok (.getfield 29, 3) := by decide +kernel
theorem dX0_isInQuietHours_9 : decode cX0_isInQuietHours 9 = .ok (.iload_n 1, 1) := by decide +kernel
theorem dX0_isInQuietHours_10 : decode cX0_isInQuietHours 10 = .ok (.iaload, 1) := by decide +kernel
theorem dX0_isInQuietHours_11 : decode cX0_isInQuietHours 11 = .ok (.isub, 1) := by decide +kernel
theorem dX0_isInQuietHours_12 : decode cX0_isInQuietHours 12 = .ok (.sipush 1440, 3) := by decide +kernel
theorem dX0_isInQuietHours_15 : decode cX0_isInQuietHours 15 = .ok (.invokestatic 175, 3) := by decide +kernel
theorem dX0_isInQuietHours_18 : decode cX0_isInQuietHours 18 = .ok (.istore_n 2, 1) := by decide +kernel
theorem dX0_isInQuietHours_19 : decode cX0_isInQuietHours 19 = .ok (.aload_n 0, 1) := by decide +kernel
theorem dX0_isInQuietHours_20 : decode cX0_isInQuietHours 20 = .ok (.getfield 32, 3) := by decide +kernel
theorem dX0_isInQuietHours_23 : decode cX0_isInQuietHours 23 = .ok (.iload_n 1, 1) := by decide +kernel
theorem dX0_isInQuietHours_24 : decode cX0_isInQuietHours 24 = .ok (.iaload, 1) := by decide +kernel
theorem dX0_isInQuietHours_25 : decode cX0_isInQuietHours 25 = .ok (.aload_n 0, 1) := by decide +kernel
theorem dX0_isInQuietHours_26 : decode cX0_isInQuietHours 26 = .ok (.getfield 29, 3) := by decide +kernel
theorem dX0_isInQuietHours_29 : decode cX0_isInQuietHours 29 = .ok (.iload_n 1, 1) := by decide +kernel
theorem dX0_isInQuietHours_30 : decode cX0_isInQuietHours 30 = .ok (.iaload, 1) := by decide +kernel
theorem dX0_isInQuietHours_31 : decode cX0_isInQuietHours 31 = .ok (.isub, 1) := by decide +kernel
theorem dX0_isInQuietHours_32 : decode cX0_isInQuietHours 32 = .ok (.sipush 1440, 3) := by decide +kernel
theorem dX0_isInQuietHours_35 : decode cX0_isInQuietHours 35 = .ok (.invokestatic 175, 3) := by decide +kernel
theorem dX0_isInQuietHours_38 : decode cX0_isInQuietHours 38 = .ok (.istore_n 3, 1) := by decide +kernel
theorem dX0_isInQuietHours_39 : decode cX0_isInQuietHours 39 = .ok (.iload_n 2, 1) := by decide +kernel
theorem dX0_isInQuietHours_40 : decode cX0_isInQuietHours 40 = .ok (.iload_n 3, 1) := by decide +kernel
theorem dX0_isInQuietHours_41 : decode cX0_isInQuietHours 41 = .ok (.if_icmp .ge 7, 3) := by decide +kernel
theorem dX0_isInQuietHours_44 : decode cX0_isInQuietHours 44 = .ok (.iconst 1, 1) := by decide +kernel
theorem dX0_isInQuietHours_45 : decode cX0_isInQuietHours 45 = .ok (.goto 4, 3) := by decide +kernel
theorem dX0_isInQuietHours_48 : decode cX0_isInQuietHours 48 = .ok (.iconst 0, 1) := by decide +kernel
theorem dX0_isInQuietHours_49 : decode cX0_isInQuietHours 49 = .ok (.ireturn, 1) := by decide +kernel
theorem dX0_spentToday_0 : decode cX0_spentToday 0 = .ok (.aload_n 0, 1) := by decide +kernel
theorem dX0_spentToday_1 : decode cX0_spentToday 1 = .ok (.getfield 35, 3) := by decide +kernel
theorem dX0_spentToday_4 : decode cX0_spentToday 4 = .ok (.iload_n 1, 1) := by decide +kernel
theorem dX0_spentToday_5 : decode cX0_spentToday 5 = .ok (.iaload, 1) := by decide +kernel
theorem dX0_spentToday_6 : decode cX0_spentToday 6 = .ok (.aload_n 0, 1) := by decide +kernel
theorem dX0_spentToday_7 : decode cX0_spentToday 7 = .ok (.getfield 63, 3) := by decide +kernel
theorem dX0_spentToday_10 : decode cX0_spentToday 10 = .ok (.sipush 1440, 3) := by decide +kernel
theorem dX0_spentToday_13 : decode cX0_spentToday 13 = .ok (.idiv, 1) := by decide +kernel
theorem dX0_spentToday_14 : decode cX0_spentToday 14 = .ok (.if_icmp .ne 12, 3) := by decide +kernel
theorem dX0_spentToday_17 : decode cX0_spentToday 17 = .ok (.aload_n 0, 1) := by decide +kernel
theorem dX0_spentToday_18 : decode cX0_spentToday 18 = .ok (.getfield 38, 3) := by decide +kernel
theorem dX0_spentToday_21 : decode cX0_spentToday 21 = .ok (.iload_n 1, 1) := by decide +kernel
theorem dX0_spentToday_22 : decode cX0_spentToday 22 = .ok (.iaload, 1) := by decide +kernel
theorem dX0_spentToday_23 : decode cX0_spentToday 23 = .ok (.goto 4, 3) := by decide +kernel
theorem dX0_spentToday_26 : decode cX0_spentToday 26 = .ok (.iconst 0, 1) := by decide +kernel
theorem dX0_spentToday_27 : decode cX0_spentToday 27 = .ok (.ireturn, 1) := by decide +kernel
set_option maxRecDepth 20000 in
theorem ggX0_spendQuota_X0_has : GoodIn wsX0_spendQuota wsX0_has := goodIn_r _ [8, 9, 10, 7, 11] (by decide +kernel) (by decide +kernel)
set_option maxRecDepth 20000 in
theorem gX0_spendQuota_X0_has : GoodIn wsX0_spendQuota (va_wsS RX0 96 yX0_has wsX0_has) := goodIn_app (goodIn_of _ (by decide +kernel)) ggX0_spendQuota_X0_has
set_option maxRecDepth 20000 in
theorem ggX0_spendQuota_X0_spentToday : GoodIn wsX0_spendQuota wsX0_spentToday := goodIn_r _ [15, 3, 4, 2, 16, 17, 18, 19, 20, 21, 22, 23, 24, 25, 26, 27, 28, 29, 30, 31, 32, 33, 34] (by decide +kernel) (by decide +kernel)
set_option maxRecDepth 20000 in
theorem gX0_spendQuota_X0_spentToday : GoodIn wsX0_spendQuota (wsV RX0 147 RX0 yX0_spentToday wsX0_spentToday) := goodIn_app (goodIn_of _ (by decide +kernel)) ggX0_spendQuota_X0_spentToday
theorem dX0_spendQuota_0 : decode cX0_spendQuota 0 = .ok (.iconst 0, 1) := by decide +kernel
theorem dX0_spendQuota_1 : decode cX0_spendQuota 1 = .ok (.istore_n 2, 1) := by decide +kernel
theorem dX0_spendQuota_2 : decode cX0_spendQuota 2 = .ok (.iload_n 2, 1) := by decide +kernel
theorem dX0_spendQuota_3 : decode cX0_spendQuota 3 = .ok (.aload_n 0, 1) := by decide +kernel
theorem dX0_spendQuota_4 : decode cX0_spendQuota 4 = .ok (.getfield 41, 3) := by decide +kernel
theorem dX0_spendQuota_7 : decode cX0_spendQuota 7 = .ok (.if_icmp .ge 44, 3) := by decide +kernel
theorem dX0_spendQuota_10 : decode cX0_spendQuota 10 = .ok (.iload_n 1, 1) := by decide +kernel
theorem dX0_spendQuota_11 : decode cX0_spendQuota 11 = .ok (.iload_n 2, 1) := by decide +kernel
theorem dX0_spendQuota_12 : decode cX0_spendQuota 12 = .ok (.invokestatic 96, 3) := by decide +kernel
theorem dX0_spendQuota_15 : decode cX0_spendQuota 15 = .ok (.ifCond .eq 30, 3) := by decide +kernel
theorem dX0_spendQuota_18 : decode cX0_spendQuota 18 = .ok (.aload_n 0, 1) := by decide +kernel
theorem dX0_spendQuota_19 : decode cX0_spendQuota 19 = .ok (.getfield 38, 3) := by decide +kernel
theorem dX0_spendQuota_22 : decode cX0_spendQuota 22 = .ok (.iload_n 2, 1) := by decide +kernel
theorem dX0_spendQuota_23 : decode cX0_spendQuota 23 = .ok (.aload_n 0, 1) := by decide +kernel
theorem dX0_spendQuota_24 : decode cX0_spendQuota 24 = .ok (.iload_n 2, 1) := by decide +kernel
theorem dX0_spendQuota_25 : decode cX0_spendQuota 25 = .ok (.invokevirtual 147, 3) := by decide +kernel
theorem dX0_spendQuota_28 : decode cX0_spendQuota 28 = .ok (.iconst 1, 1) := by decide +kernel
theorem dX0_spendQuota_29 : decode cX0_spendQuota 29 = .ok (.iadd, 1) := by decide +kernel
theorem dX0_spendQuota_30 : decode cX0_spendQuota 30 = .ok (.iastore, 1) := by decide +kernel
theorem dX0_spendQuota_31 : decode cX0_spendQuota 31 = .ok (.aload_n 0, 1) := by decide +kernel
theorem dX0_spendQuota_32 : decode cX0_spendQuota 32 = .ok (.getfield 35, 3) := by decide +kernel
theorem dX0_spendQuota_35 : decode cX0_spendQuota 35 = .ok (.iload_n 2, 1) := by decide +kernel
theorem dX0_spendQuota_36 : decode cX0_spendQuota 36 = .ok (.aload_n 0, 1) := by decide +kernel
theorem dX0_spendQuota_37 : decode cX0_spendQuota 37 = .ok (.getfield 63, 3) := by decide +kernel
theorem dX0_spendQuota_40 : decode cX0_spendQuota 40 = .ok (.sipush 1440, 3) := by decide +kernel
theorem dX0_spendQuota_43 : decode cX0_spendQuota 43 = .ok (.idiv, 1) := by decide +kernel
theorem dX0_spendQuota_44 : decode cX0_spendQuota 44 = .ok (.iastore, 1) := by decide +kernel
theorem dX0_spendQuota_45 : decode cX0_spendQuota 45 = .ok (.iinc 2 1, 3) := by decide +kernel
theorem dX0_spendQuota_48 : decode cX0_spendQuota 48 = .ok (.goto (-46), 3) := by decide +kernel
theorem dX0_spendQuota_51 : decode cX0_spendQuota 51 = .ok (.return_, 1) := by decide +kernel
set_option maxRecDepth 20000 in
theorem ggX0_deliverNow_X0_openToNormal : GoodIn wsX0_deliverNow wsX0_openToNormal := goodIn_r _ [8, 9, 10, 11, 12, 13, 14, 15, 7, 16, 17, 18, 19, 20, 21, 22, 23, 24, 25, 26, 27, 28, 29, 30, 31, 32, 33, 73, 74, 75, 76, 77, 78, 79, 80, 81, 82, 83, 84, 85, 86, 87, 88, 89, 90, 91] (by decide +kernel) (by decide +kernel)
set_option maxRecDepth 20000 in
theorem gX0_deliverNow_X0_openToNormal : GoodIn wsX0_deliverNow (wsV RX0 181 RX0 yX0_openToNormal wsX0_openToNormal) := goodIn_app (goodIn_of _ (by decide +kernel)) ggX0_deliverNow_X0_openToNormal
set_option maxRecDepth 20000 in
theorem ggX0_deliverNow_X0_waitsNow : GoodIn wsX0_deliverNow wsX0_waitsNow := goodIn_r _ [37, 38, 39, 40, 41, 7, 42, 9, 43, 73, 74, 75, 76, 77, 78, 79, 80, 81, 82, 83, 84, 85, 86, 87, 88, 89, 90, 91] (by decide +kernel) (by decide +kernel)
set_option maxRecDepth 20000 in
theorem gX0_deliverNow_X0_waitsNow : GoodIn wsX0_deliverNow (wsV RX0 132 RX0 yX0_waitsNow wsX0_waitsNow) := goodIn_app (goodIn_of _ (by decide +kernel)) ggX0_deliverNow_X0_waitsNow
set_option maxRecDepth 20000 in
theorem ggX0_deliverNow_X0_openToHigh : GoodIn wsX0_deliverNow wsX0_openToHigh := goodIn_r _ [47, 10, 12, 11, 48, 49, 7, 50, 31, 32, 33, 51, 52, 53, 54, 55, 9, 56, 28, 29, 30, 73, 74, 75, 76, 77, 78, 79, 80, 81, 82, 83, 84, 85, 86, 87, 88, 89, 90, 91] (by decide +kernel) (by decide +kernel)
set_option maxRecDepth 20000 in
theorem gX0_deliverNow_X0_openToHigh : GoodIn wsX0_deliverNow (wsV RX0 184 RX0 yX0_openToHigh wsX0_openToHigh) := goodIn_app (goodIn_of _ (by decide +kernel)) ggX0_deliverNow_X0_openToHigh
set_option maxRecDepth 20000 in
theorem ggX0_deliverNow_X0_deliver : GoodIn wsX0_deliverNow wsX0_deliver := goodIn_r _ [60, 38, 61, 1, 3, 11, 62, 63, 64, 65, 66, 67, 68, 69, 70, 71, 7, 72, 12, 56, 55, 9, 48, 49, 50, 31, 32, 33, 51, 52, 53, 54, 73, 74, 75, 76, 77, 78, 79, 80, 81, 82, 83, 84, 85, 86, 87, 88, 89, 90, 91] (by decide +kernel) (by decide +kernel)
set_option maxRecDepth 20000 in
theorem gX0_deliverNow_X0_deliver : GoodIn wsX0_deliverNow (wsV RX0 187 RX0 yX0_deliver wsX0_deliver) := goodIn_app (goodIn_of _ (by decide +kernel)) ggX0_deliverNow_X0_deliver
theorem dX0_deliverNow_0 : decode cX0_deliverNow 0 = .ok (.aload_n 0, 1) := by decide +kernel
theorem dX0_deliverNow_1 : decode cX0_deliverNow 1 = .ok (.getfield 66, 3) := by decide +kernel
theorem dX0_deliverNow_4 : decode cX0_deliverNow 4 = .ok (.istore_n 1, 1) := by decide +kernel
theorem dX0_deliverNow_5 : decode cX0_deliverNow 5 = .ok (.aload_n 0, 1) := by decide +kernel
theorem dX0_deliverNow_6 : decode cX0_deliverNow 6 = .ok (.invokevirtual 181, 3) := by decide +kernel
theorem dX0_deliverNow_9 : decode cX0_deliverNow 9 = .ok (.istore_n 2, 1) := by decide +kernel
theorem dX0_deliverNow_10 : decode cX0_deliverNow 10 = .ok (.iconst 0, 1) := by decide +kernel
theorem dX0_deliverNow_11 : decode cX0_deliverNow 11 = .ok (.istore_n 3, 1) := by decide +kernel
theorem dX0_deliverNow_12 : decode cX0_deliverNow 12 = .ok (.iload_n 3, 1) := by decide +kernel
theorem dX0_deliverNow_13 : decode cX0_deliverNow 13 = .ok (.aload_n 0, 1) := by decide +kernel
theorem dX0_deliverNow_14 : decode cX0_deliverNow 14 = .ok (.getfield 60, 3) := by decide +kernel
theorem dX0_deliverNow_17 : decode cX0_deliverNow 17 = .ok (.if_icmp .ge 46, 3) := by decide +kernel
theorem dX0_deliverNow_20 : decode cX0_deliverNow 20 = .ok (.aload_n 0, 1) := by decide +kernel
theorem dX0_deliverNow_21 : decode cX0_deliverNow 21 = .ok (.iload_n 3, 1) := by decide +kernel
theorem dX0_deliverNow_22 : decode cX0_deliverNow 22 = .ok (.invokevirtual 132, 3) := by decide +kernel
theorem dX0_deliverNow_25 : decode cX0_deliverNow 25 = .ok (.istore 4, 2) := by decide +kernel
theorem dX0_deliverNow_27 : decode cX0_deliverNow 27 = .ok (.iload 4, 2) := by decide +kernel
theorem dX0_deliverNow_29 : decode cX0_deliverNow 29 = .ok (.ifCond .eq 28, 3) := by decide +kernel
theorem dX0_deliverNow_32 : decode cX0_deliverNow 32 = .ok (.aload_n 0, 1) := by decide +kernel
theorem dX0_deliverNow_33 : decode cX0_deliverNow 33 = .ok (.iload_n 3, 1) := by decide +kernel
theorem dX0_deliverNow_34 : decode cX0_deliverNow 34 = .ok (.iload 4, 2) := by decide +kernel
theorem dX0_deliverNow_36 : decode cX0_deliverNow 36 = .ok (.aload_n 0, 1) := by decide +kernel
theorem dX0_deliverNow_37 : decode cX0_deliverNow 37 = .ok (.getfield 44, 3) := by decide +kernel
theorem dX0_deliverNow_40 : decode cX0_deliverNow 40 = .ok (.iload_n 3, 1) := by decide +kernel
theorem dX0_deliverNow_41 : decode cX0_deliverNow 41 = .ok (.baload, 1) := by decide +kernel
theorem dX0_deliverNow_42 : decode cX0_deliverNow 42 = .ok (.ifCond .eq 10, 3) := by decide +kernel
theorem dX0_deliverNow_45 : decode cX0_deliverNow 45 = .ok (.aload_n 0, 1) := by decide +kernel
theorem dX0_deliverNow_46 : decode cX0_deliverNow 46 = .ok (.invokevirtual 184, 3) := by decide +kernel
theorem dX0_deliverNow_49 : decode cX0_deliverNow 49 = .ok (.goto 4, 3) := by decide +kernel
theorem dX0_deliverNow_52 : decode cX0_deliverNow 52 = .ok (.iload_n 2, 1) := by decide +kernel
theorem dX0_deliverNow_53 : decode cX0_deliverNow 53 = .ok (.iand, 1) := by decide +kernel
theorem dX0_deliverNow_54 : decode cX0_deliverNow 54 = .ok (.invokevirtual 187, 3) := by decide +kernel
theorem dX0_deliverNow_57 : decode cX0_deliverNow 57 = .ok (.iinc 3 1, 3) := by decide +kernel
theorem dX0_deliverNow_60 : decode cX0_deliverNow 60 = .ok (.goto (-48), 3) := by decide +kernel
theorem dX0_deliverNow_63 : decode cX0_deliverNow 63 = .ok (.aload_n 0, 1) := by decide +kernel
theorem dX0_deliverNow_64 : decode cX0_deliverNow 64 = .ok (.getfield 66, 3) := by decide +kernel
theorem dX0_deliverNow_67 : decode cX0_deliverNow 67 = .ok (.iload_n 1, 1) := by decide +kernel
theorem dX0_deliverNow_68 : decode cX0_deliverNow 68 = .ok (.isub, 1) := by decide +kernel
theorem dX0_deliverNow_69 : decode cX0_deliverNow 69 = .ok (.ireturn, 1) := by decide +kernel
set_option maxRecDepth 20000 in
theorem ggX0_deliver_J6_bitCount_0f7a4 : GoodIn wsX0_deliver wsJ6_bitCount_0f7a4 := goodIn_r _ [9, 10, 11, 12] (by decide +kernel) (by decide +kernel)
set_option maxRecDepth 20000 in
theorem gX0_deliver_J6_bitCount_0f7a4 : GoodIn wsX0_deliver (va_wsS RX0 135 yJ6_bitCount_0f7a4 wsJ6_bitCount_0f7a4) := goodIn_app (goodIn_of _ (by decide +kernel)) ggX0_deliver_J6_bitCount_0f7a4
set_option maxRecDepth 20000 in
theorem ggX0_deliver_X0_spendQuota : GoodIn wsX0_deliver wsX0_spendQuota := goodIn_r _ [17, 18, 19, 20, 21, 22, 23, 16, 24, 25, 26, 27, 28, 29, 30, 31, 32, 33, 34, 35, 36, 37, 38, 39, 40, 41, 42, 43, 44, 45, 46, 47, 48, 49, 50] (by decide +kernel) (by decide +kernel)
set_option maxRecDepth 20000 in
theorem gX0_deliver_X0_spendQuota : GoodIn wsX0_deliver (wsV RX0 190 RX0 yX0_spendQuota wsX0_spendQuota) := goodIn_app (goodIn_of _ (by decide +kernel)) ggX0_deliver_X0_spendQuota
theorem dX0_deliver_0 : decode cX0_deliver 0 = .ok (.aload_n 0, 1) := by decide +kernel
theorem dX0_deliver_1 : decode cX0_deliver 1 = .ok (.getfield 51, 3) := by decide +kernel
theorem dX0_deliver_4 : decode cX0_deliver 4 = .ok (.iload_n 1, 1) := by decide +kernel
theorem dX0_deliver_5 : decode cX0_deliver 5 = .ok (.dup2, 1) := by decide +kernel
theorem dX0_deliver_6 : decode cX0_deliver 6 = .ok (.iaload, 1) := by decide +kernel
theorem dX0_deliver_7 : decode cX0_deliver 7 = .ok (.iload_n 2, 1) := by decide +kernel
theorem dX0_deliver_8 : decode cX0_deliver 8 = .ok (.iconst (-1), 1) := by decide +kernel
theorem dX0_deliver_9 : decode cX0_deliver 9 = .ok (.ixor, 1) := by decide +kernel
theorem dX0_deliver_10 : decode cX0_deliver 10 = .ok (.iand, 1) := by decide +kernel
theorem dX0_deliver_11 : decode cX0_deliver 11 = .ok (.iastore, 1) := by decide +kernel
theorem dX0_deliver_12 : decode cX0_deliver 12 = .ok (.aload_n 0, 1) := by decide +kernel
theorem dX0_deliver_13 : decode cX0_deliver 13 = .ok (.getfield 54, 3) := by decide +kernel
theorem dX0_deliver_16 : decode cX0_deliver 16 = .ok (.iload_n 1, 1) := by decide +kernel
theorem dX0_deliver_17 : decode cX0_deliver 17 = .ok (.dup2, 1) := by decide +kernel
theorem dX0_deliver_18 : decode cX0_deliver 18 = .ok (.iaload, 1) := by decide +kernel
theorem dX0_deliver_19 : decode cX0_deliver 19 = .ok (.iload_n 2, 1) := by decide +kernel
theorem dX0_deliver_20 : decode cX0_deliver 20 = .ok (.ior, 1) := by decide +kernel
theorem dX0_deliver_21 : decode cX0_deliver 21 = .ok (.iastore, 1) := by decide +kernel
theorem dX0_deliver_22 : decode cX0_deliver 22 = .ok (.aload_n 0, 1) := by decide +kernel
theorem dX0_deliver_23 : decode cX0_deliver 23 = .ok (.dup, 1) := by decide +kernel
theorem dX0_deliver_24 : decode cX0_deliver 24 = .ok (.getfield 66, 3) := by decide +kernel
theorem dX0_deliver_27 : decode cX0_deliver 27 = .ok (.iload_n 2, 1) := by decide +kernel
theorem dX0_deliver_28 : decode cX0_deliver 28 = .ok (.invokestatic 135, 3) := by decide +kernel
theorem dX0_deliver_31 : decode cX0_deliver 31 = .ok (.iadd, 1) := by decide +kernel
theorem dX0_deliver_32 : decode cX0_deliver 32 = .ok (.putfield 66, 3) := by decide +kernel
theorem dX0_deliver_35 : decode cX0_deliver 35 = .ok (.aload_n 0, 1) := by decide +kernel
theorem dX0_deliver_36 : decode cX0_deliver 36 = .ok (.getfield 44, 3) := by decide +kernel
theorem dX0_deliver_39 : decode cX0_deliver 39 = .ok (.iload_n 1, 1) := by decide +kernel
theorem dX0_deliver_40 : decode cX0_deliver 40 = .ok (.baload, 1) := by decide +kernel
theorem dX0_deliver_41 : decode cX0_deliver 41 = .ok (.ifCond .eq 13, 3) := by decide +kernel
theorem dX0_deliver_44 : decode cX0_deliver 44 = .ok (.aload_n 0, 1) := by decide +kernel
theorem dX0_deliver_45 : decode cX0_deliver 45 = .ok (.iload_n 2, 1) := by decide +kernel
theorem dX0_deliver_46 : decode cX0_deliver 46 = .ok (.aload_n 0, 1) := by decide +kernel
theorem dX0_deliver_47 : decode cX0_deliver 47 = .ok (.getfield 23, 3) := by decide +kernel
theorem dX0_deliver_50 : decode cX0_deliver 50 = .ok (.iand, 1) := by decide +kernel
theorem dX0_deliver_51 : decode cX0_deliver 51 = .ok (.invokevirtual 190, 3) := by decide +kernel
theorem dX0_deliver_54 : decode cX0_deliver 54 = .ok (.return_, 1) := by decide +kernel
set_option maxRecDepth 20000 in
theorem ggX0_openToNormal_X0_isInQuietHours : GoodIn wsX0_openToNormal wsX0_isInQuietHours := goodIn_r _ [9, 10, 11, 12, 13, 14, 8, 15, 1, 16, 17, 18, 19, 20, 27, 28, 29, 30, 31, 32, 33, 34, 35, 36, 37, 38, 39, 40, 41, 42, 43, 44, 45] (by decide +kernel) (by decide +kernel)
set_option maxRecDepth 20000 in
theorem gX0_openToNormal_X0_isInQuietHours : GoodIn wsX0_openToNormal (wsV RX0 105 RX0 yX0_isInQuietHours wsX0_isInQuietHours) := goodIn_app (goodIn_of _ (by decide +kernel)) ggX0_openToNormal_X0_isInQuietHours
set_option maxRecDepth 20000 in
theorem ggX0_openToNormal_X0_changed : GoodIn wsX0_openToNormal wsX0_changed := goodIn_r _ [23, 24, 25, 8, 26] (by decide +kernel) (by decide +kernel)
set_option maxRecDepth 20000 in
theorem gX0_openToNormal_X0_changed : GoodIn wsX0_openToNormal (va_wsS RX0 88 yX0_changed wsX0_changed) := goodIn_app (goodIn_of _ (by decide +kernel)) ggX0_openToNormal_X0_changed
theorem dX0_openToNormal_0 : decode cX0_openToNormal 0 = .ok (.aload_n 0, 1) := by decide +kernel
theorem dX0_openToNormal_1 : decode cX0_openToNormal 1 = .ok (.getfield 63, 3) := by decide +kernel
theorem dX0_openToNormal_4 : decode cX0_openToNormal 4 = .ok (.bipush 60, 2) := by decide +kernel
theorem dX0_openToNormal_6 : decode cX0_openToNormal 6 = .ok (.irem, 1) := by decide +kernel
theorem dX0_openToNormal_7 : decode cX0_openToNormal 7 = .ok (.ifCond .ne 10, 3) := by decide +kernel
theorem dX0_openToNormal_10 : decode cX0_openToNormal 10 = .ok (.aload_n 0, 1) := by decide +kernel
theorem dX0_openToNormal_11 : decode cX0_openToNormal 11 = .ok (.getfield 20, 3) := by decide +kernel
theorem dX0_openToNormal_14 : decode cX0_openToNormal 14 = .ok (.goto 14, 3) := by decide +kernel
theorem dX0_openToNormal_17 : decode cX0_openToNormal 17 = .ok (.aload_n 0, 1) := by decide +kernel
theorem dX0_openToNormal_18 : decode cX0_openToNormal 18 = .ok (.getfield 20, 3) := by decide +kernel
theorem dX0_openToNormal_21 : decode cX0_openToNormal 21 = .ok (.aload_n 0, 1) := by decide +kernel
theorem dX0_openToNormal_22 : decode cX0_openToNormal 22 = .ok (.getfield 23, 3) := by decide +kernel
theorem dX0_openToNormal_25 : decode cX0_openToNormal 25 = .ok (.iconst (-1), 1) := by decide +kernel
theorem dX0_openToNormal_26 : decode cX0_openToNormal 26 = .ok (.ixor, 1) := by decide +kernel
theorem dX0_openToNormal_27 : decode cX0_openToNormal 27 = .ok (.iand, 1) := by decide +kernel
theorem dX0_openToNormal_28 : decode cX0_openToNormal 28 = .ok (.istore_n 1, 1) := by decide +kernel
theorem dX0_openToNormal_29 : decode cX0_openToNormal 29 = .ok (.iconst 0, 1) := by decide +kernel
theorem dX0_openToNormal_30 : decode cX0_openToNormal 30 = .ok (.istore_n 2, 1) := by decide +kernel
theorem dX0_openToNormal_31 : decode cX0_openToNormal 31 = .ok (.iload_n 2, 1) := by decide +kernel
theorem dX0_openToNormal_32 : decode cX0_openToNormal 32 = .ok (.aload_n 0, 1) := by decide +kernel
theorem dX0_openToNormal_33 : decode cX0_openToNormal 33 = .ok (.getfield 41, 3) := by decide +kernel
theorem dX0_openToNormal_36 : decode cX0_openToNormal 36 = .ok (.if_icmp .ge 24, 3) := by decide +kernel
theorem dX0_openToNormal_39 : decode cX0_openToNormal 39 = .ok (.aload_n 0, 1) := by decide +kernel
theorem dX0_openToNormal_40 : decode cX0_openToNormal 40 = .ok (.iload_n 2, 1) := by decide +kernel
theorem dX0_openToNormal_41 : decode cX0_openToNormal 41 = .ok (.invokevirtual 105, 3) := by decide +kernel
theorem dX0_openToNormal_44 : decode cX0_openToNormal 44 = .ok (.ifCond .eq 10, 3) := by decide +kernel
theorem dX0_openToNormal_47 : decode cX0_openToNormal 47 = .ok (.iload_n 1, 1) := by decide +kernel
theorem dX0_openToNormal_48 : decode cX0_openToNormal 48 = .ok (.iload_n 2, 1) := by decide +kernel
theorem dX0_openToNormal_49 : decode cX0_openToNormal 49 = .ok (.iconst 0, 1) := by decide +kernel
theorem dX0_openToNormal_50 : decode cX0_openToNormal 50 = .ok (.invokestatic 88, 3) := by decide +kernel
theorem dX0_openToNormal_53 : decode cX0_openToNormal 53 = .ok (.istore_n 1, 1) := by decide +kernel
theorem dX0_openToNormal_54 : decode cX0_openToNormal 54 = .ok (.iinc 2 1, 3) := by decide +kernel
theorem dX0_openToNormal_57 : decode cX0_openToNormal 57 = .ok (.goto (-26), 3) := by decide +kernel
theorem dX0_openToNormal_60 : decode cX0_openToNormal 60 = .ok (.iload_n 1, 1) := by decide +kernel
theorem dX0_openToNormal_61 : decode cX0_openToNormal 61 = .ok (.ireturn, 1) := by decide +kernel
set_option maxRecDepth 20000 in
theorem ggX0_openToHigh_X0_has : GoodIn wsX0_openToHigh wsX0_has := goodIn_r _ [7, 8, 9, 6, 10] (by decide +kernel) (by decide +kernel)
set_option maxRecDepth 20000 in
theorem gX0_openToHigh_X0_has : GoodIn wsX0_openToHigh (va_wsS RX0 96 yX0_has wsX0_has) := goodIn_app (goodIn_of _ (by decide +kernel)) ggX0_openToHigh_X0_has
set_option maxRecDepth 20000 in
theorem ggX0_openToHigh_X0_spentToday : GoodIn wsX0_openToHigh wsX0_spentToday := goodIn_r _ [14, 15, 16, 17, 21, 22, 23, 24, 25, 26, 27, 28, 29, 30, 31, 32, 33, 34, 35, 36, 37, 38, 39] (by decide +kernel) (by decide +kernel)
set_option maxRecDepth 20000 in
theorem gX0_openToHigh_X0_spentToday : GoodIn wsX0_openToHigh (wsV RX0 147 RX0 yX0_spentToday wsX0_spentToday) := goodIn_app (goodIn_of _ (by decide +kernel)) ggX0_openToHigh_X0_spentToday
set_option maxRecDepth 20000 in
theorem ggX0_openToHigh_X0_changed : GoodIn wsX0_openToHigh wsX0_changed := goodIn_r _ [20, 8, 9, 6, 10] (by decide +kernel) (by decide +kernel)
set_option maxRecDepth 20000 in
theorem gX0_openToHigh_X0_changed : GoodIn wsX0_openToHigh (va_wsS RX0 88 yX0_changed wsX0_changed) := goodIn_app (goodIn_of _ (by decide +kernel)) ggX0_openToHigh_X0_changed
theorem dX0_openToHigh_0 : decode cX0_openToHigh 0 = .ok (.aload_n 0, 1) := by decide +kernel
theorem dX0_openToHigh_1 : decode cX0_openToHigh 1 = .ok (.getfield 20, 3) := by decide +kernel
theorem dX0_openToHigh_4 : decode cX0_openToHigh 4 = .ok (.istore_n 1, 1) := by decide +kernel
theorem dX0_openToHigh_5 : decode cX0_openToHigh 5 = .ok (.iconst 0, 1) := by decide +kernel
theorem dX0_openToHigh_6 : decode cX0_openToHigh 6 = .ok (.istore_n 2, 1) := by decide +kernel
theorem dX0_openToHigh_7 : decode cX0_openToHigh 7 = .ok (.iload_n 2, 1) := by decide +kernel
theorem dX0_openToHigh_8 : decode cX0_openToHigh 8 = .ok (.aload_n 0, 1) := by decide +kernel
theorem dX0_openToHigh_9 : decode cX0_openToHigh 9 = .ok (.getfield 41, 3) := by decide +kernel
theorem dX0_openToHigh_12 : decode cX0_openToHigh 12 = .ok (.if_icmp .ge 36, 3) := by decide +kernel
theorem dX0_openToHigh_15 : decode cX0_openToHigh 15 = .ok (.aload_n 0, 1) := by decide +kernel
theorem dX0_openToHigh_16 : decode cX0_openToHigh 16 = .ok (.getfield 23, 3) := by decide +kernel
theorem dX0_openToHigh_19 : decode cX0_openToHigh 19 = .ok (.iload_n 2, 1) := by decide +kernel
theorem dX0_openToHigh_20 : decode cX0_openToHigh 20 = .ok (.invokestatic 96, 3) := by decide +kernel
theorem dX0_openToHigh_23 : decode cX0_openToHigh 23 = .ok (.ifCond .eq 19, 3) := by decide +kernel
theorem dX0_openToHigh_26 : decode cX0_openToHigh 26 = .ok (.aload_n 0, 1) := by decide +kernel
theorem dX0_openToHigh_27 : decode cX0_openToHigh 27 = .ok (.iload_n 2, 1) := by decide +kernel
theorem dX0_openToHigh_28 : decode cX0_openToHigh 28 = .ok (.invokevirtual 147, 3) := by decide +kernel
theorem dX0_openToHigh_31 : decode cX0_openToHigh 31 = .ok (.iconst 3, 1) := by decide +kernel
theorem dX0_openToHigh_32 : decode cX0_openToHigh 32 = .ok (.if_icmp .lt 10, 3) := by decide +kernel
theorem dX0_openToHigh_35 : decode cX0_openToHigh 35 = .ok (.iload_n 1, 1) := by decide +kernel
theorem dX0_openToHigh_36 : decode cX0_openToHigh 36 = .ok (.iload_n 2, 1) := by decide +kernel
theorem dX0_openToHigh_37 : decode cX0_openToHigh 37 = .ok (.iconst 0, 1) := by decide +kernel
theorem dX0_openToHigh_38 : decode cX0_openToHigh 38 = .ok (.invokestatic 88, 3) := by decide +kernel
theorem dX0_openToHigh_41 : decode cX0_openToHigh 41 = .ok (.istore_n 1, 1) := by decide +kernel
theorem dX0_openToHigh_42 : decode cX0_openToHigh 42 = .ok (.iinc 2 1, 3) := by decide +kernel
theorem dX0_openToHigh_45 : decode cX0_openToHigh 45 = .ok (.goto (-38), 3) := by decide +kernel
theorem dX0_openToHigh_48 : decode cX0_openToHigh 48 = .ok (.iload_n 1, 1) := by decide +kernel
theorem dX0_openToHigh_49 : decode cX0_openToHigh 49 = .ok (.ireturn, 1) := by decide +kernel
set_option maxRecDepth 20000 in
theorem ggX0_nextChance_X0_isInQuietHours : GoodIn wsX0_nextChance wsX0_isInQuietHours := goodIn_r _ [12, 13, 3, 14, 15, 16, 11, 17, 1, 18, 19, 20, 21, 22, 23, 24, 25, 26, 27, 28, 29, 30, 31, 32, 33, 34, 35, 36, 37, 38, 39, 40, 41] (by decide +kernel) (by decide +kernel)
set_option maxRecDepth 20000 in
theorem gX0_nextChance_X0_isInQuietHours : GoodIn wsX0_nextChance (wsV RX0 105 RX0 yX0_isInQuietHours wsX0_isInQuietHours) := goodIn_app (goodIn_of _ (by decide +kernel)) ggX0_nextChance_X0_isInQuietHours
set_option maxRecDepth 20000 in
theorem ggX0_nextChance_X0_localTime : GoodIn wsX0_nextChance wsX0_localTime := goodIn_r _ [17, 1, 18, 19, 20, 21, 22, 23, 24, 25, 26, 27, 28, 29, 30, 31, 32, 33, 34, 35, 36, 37, 38, 39, 40, 41] (by decide +kernel) (by decide +kernel)
set_option maxRecDepth 20000 in
theorem gX0_nextChance_X0_localTime : GoodIn wsX0_nextChance (wsV RX0 178 RX0 yX0_localTime wsX0_localTime) := goodIn_app (goodIn_of _ (by decide +kernel)) ggX0_nextChance_X0_localTime
set_option maxRecDepth 20000 in
theorem ggX0_nextChance_J9_floorMod_7cf53 : GoodIn wsX0_nextChance wsJ9_floorMod_7cf53 := goodIn_r _ [22] (by decide +kernel) (by decide +kernel)
set_option maxRecDepth 20000 in
theorem gX0_nextChance_J9_floorMod_7cf53 : GoodIn wsX0_nextChance (va_wsS RX0 175 yJ9_floorMod_7cf53 wsJ9_floorMod_7cf53) := goodIn_app (goodIn_of _ (by decide +kernel)) ggX0_nextChance_J9_floorMod_7cf53
theorem dX0_nextChance_0 : decode cX0_nextChance 0 = .ok (.aload_n 0, 1) := by decide +kernel
theorem dX0_nextChance_1 : decode cX0_nextChance 1 = .ok (.getfield 63, 3) := by decide +kernel
theorem dX0_nextChance_4 : decode cX0_nextChance 4 = .ok (.aload_n 0, 1) := by decide +kernel
theorem dX0_nextChance_5 : decode cX0_nextChance 5 = .ok (.getfield 63, 3) := by decide +kernel
theorem dX0_nextChance_8 : decode cX0_nextChance 8 = .ok (.bipush 60, 2) := by decide +kernel
theorem dX0_nextChance_10 : decode cX0_nextChance 10 = .ok (.irem, 1) := by decide +kernel
theorem dX0_nextChance_11 : decode cX0_nextChance 11 = .ok (.isub, 1) := by decide +kernel
theorem dX0_nextChance_12 : decode cX0_nextChance 12 = .ok (.bipush 60, 2) := by decide +kernel
theorem dX0_nextChance_14 : decode cX0_nextChance 14 = .ok (.iadd, 1) := by decide +kernel
theorem dX0_nextChance_15 : decode cX0_nextChance 15 = .ok (.istore_n 1, 1) := by decide +kernel
theorem dX0_nextChance_16 : decode cX0_nextChance 16 = .ok (.iconst 0, 1) := by decide +kernel
theorem dX0_nextChance_17 : decode cX0_nextChance 17 = .ok (.istore_n 2, 1) := by decide +kernel
theorem dX0_nextChance_18 : decode cX0_nextChance 18 = .ok (.iload_n 2, 1) := by decide +kernel
theorem dX0_nextChance_19 : decode cX0_nextChance 19 = .ok (.aload_n 0, 1) := by decide +kernel
theorem dX0_nextChance_20 : decode cX0_nextChance 20 = .ok (.getfield 41, 3) := by decide +kernel
theorem dX0_nextChance_23 : decode cX0_nextChance 23 = .ok (.if_icmp .ge 47, 3) := by decide +kernel
theorem dX0_nextChance_26 : decode cX0_nextChance 26 = .ok (.aload_n 0, 1) := by decide +kernel
theorem dX0_nextChance_27 : decode cX0_nextChance 27 = .ok (.iload_n 2, 1) := by decide +kernel
theorem dX0_nextChance_28 : decode cX0_nextChance 28 = .ok (.invokevirtual 105, 3) := by decide +kernel
theorem dX0_nextChance_31 : decode cX0_nextChance 31 = .ok (.ifCond .eq 33, 3) := by decide +kernel
theorem dX0_nextChance_34 : decode cX0_nextChance 34 = .ok (.aload_n 0, 1) := by decide +kernel
theorem dX0_nextChance_35 : decode cX0_nextChance 35 = .ok (.getfield 32, 3) := by decide +kernel
theorem dX0_nextChance_38 : decode cX0_nextChance 38 = .ok (.iload_n 2, 1) := by decide +kernel
theorem dX0_nextChance_39 : decode cX0_nextChance 39 = .ok (.iaload, 1) := by decide +kernel
theorem dX0_nextChance_40 : decode cX0_nextChance 40 = .ok (.aload_n 0, 1) := by decide +kernel
theorem dX0_nextChance_41 : decode cX0_nextChance 41 = .ok (.iload_n 2, 1) := by decide +kernel
theorem dX0_nextChance_42 : decode cX0_nextChance 42 = .ok (.invokevirtual 178, 3) := by decide +kernel
theorem dX0_nextChance_45 : decode cX0_nextChance 45 = .ok (.isub, 1) := by decide +kernel
theorem dX0_nextChance_46 : decode cX0_nextChance 46 = .ok (.sipush 1440, 3) := by decide +kernel
theorem dX0_nextChance_49 : decode cX0_nextChance 49 = .ok (.invokestatic 175, 3) := by decide +kernel
theorem dX0_nextChance_52 : decode cX0_nextChance 52 = .ok (.istore_n 3, 1) := by decide +kernel
theorem dX0_nextChance_53 : decode cX0_nextChance 53 = .ok (.iload_n 1, 1) := by decide +kernel
theorem dX0_nextChance_54 : decode cX0_nextChance 54 = .ok (.aload_n 0, 1) := by decide +kernel
theorem dX0_nextChance_55 : decode cX0_nextChance 55 = .ok (.getfield 63, 3) := by decide +kernel
theorem dX0_nextChance_58 : decode cX0_nextChance 58 = .ok (.iload_n 3, 1) := by decide +kernel
theorem dX0_nextChance_59 : decode cX0_nextChance 59 = .ok (.iadd, 1) := by decide +kernel
theorem dX0_nextChance_60 : decode cX0_nextChance 60 = .ok (.invokestatic 156, 3) := by decide +kernel
theorem dX0_nextChance_63 : decode cX0_nextChance 63 = .ok (.istore_n 1, 1) := by decide +kernel
theorem dX0_nextChance_64 : decode cX0_nextChance 64 = .ok (.iinc 2 1, 3) := by decide +kernel
theorem dX0_nextChance_67 : decode cX0_nextChance 67 = .ok (.goto (-49), 3) := by decide +kernel
theorem dX0_nextChance_70 : decode cX0_nextChance 70 = .ok (.iload_n 1, 1) := by decide +kernel
theorem dX0_nextChance_71 : decode cX0_nextChance 71 = .ok (.ireturn, 1) := by decide +kernel
theorem dJ6_bitCount_0f7a4_0 : decode cJ6_bitCount_0f7a4 0 = .ok (.iload_n 0, 1) := by decide +kernel
theorem dJ6_bitCount_0f7a4_1 : decode cJ6_bitCount_0f7a4 1 = .ok (.iload_n 0, 1) := by decide +kernel
theorem dJ6_bitCount_0f7a4_2 : decode cJ6_bitCount_0f7a4 2 = .ok (.iconst 1, 1) := by decide +kernel
theorem dJ6_bitCount_0f7a4_3 : decode cJ6_bitCount_0f7a4 3 = .ok (.iushr, 1) := by decide +kernel
theorem dJ6_bitCount_0f7a4_4 : decode cJ6_bitCount_0f7a4 4 = .ok (.ldc_w 265, 3) := by decide +kernel
theorem dJ6_bitCount_0f7a4_7 : decode cJ6_bitCount_0f7a4 7 = .ok (.iand, 1) := by decide +kernel
theorem dJ6_bitCount_0f7a4_8 : decode cJ6_bitCount_0f7a4 8 = .ok (.isub, 1) := by decide +kernel
theorem dJ6_bitCount_0f7a4_9 : decode cJ6_bitCount_0f7a4 9 = .ok (.istore_n 0, 1) := by decide +kernel
theorem dJ6_bitCount_0f7a4_10 : decode cJ6_bitCount_0f7a4 10 = .ok (.iload_n 0, 1) := by decide +kernel
theorem dJ6_bitCount_0f7a4_11 : decode cJ6_bitCount_0f7a4 11 = .ok (.ldc_w 266, 3) := by decide +kernel
theorem dJ6_bitCount_0f7a4_14 : decode cJ6_bitCount_0f7a4 14 = .ok (.iand, 1) := by decide +kernel
theorem dJ6_bitCount_0f7a4_15 : decode cJ6_bitCount_0f7a4 15 = .ok (.iload_n 0, 1) := by decide +kernel
theorem dJ6_bitCount_0f7a4_16 : decode cJ6_bitCount_0f7a4 16 = .ok (.iconst 2, 1) := by decide +kernel
theorem dJ6_bitCount_0f7a4_17 : decode cJ6_bitCount_0f7a4 17 = .ok (.iushr, 1) := by decide +kernel
theorem dJ6_bitCount_0f7a4_18 : decode cJ6_bitCount_0f7a4 18 = .ok (.ldc_w 266, 3) := by decide +kernel
theorem dJ6_bitCount_0f7a4_21 : decode cJ6_bitCount_0f7a4 21 = .ok (.iand, 1) := by decide +kernel
theorem dJ6_bitCount_0f7a4_22 : decode cJ6_bitCount_0f7a4 22 = .ok (.iadd, 1) := by decide +kernel
theorem dJ6_bitCount_0f7a4_23 : decode cJ6_bitCount_0f7a4 23 = .ok (.istore_n 0, 1) := by decide +kernel
theorem dJ6_bitCount_0f7a4_24 : decode cJ6_bitCount_0f7a4 24 = .ok (.iload_n 0, 1) := by decide +kernel
theorem dJ6_bitCount_0f7a4_25 : decode cJ6_bitCount_0f7a4 25 = .ok (.iload_n 0, 1) := by decide +kernel
theorem dJ6_bitCount_0f7a4_26 : decode cJ6_bitCount_0f7a4 26 = .ok (.iconst 4, 1) := by decide +kernel
theorem dJ6_bitCount_0f7a4_27 : decode cJ6_bitCount_0f7a4 27 = .ok (.iushr, 1) := by decide +kernel
theorem dJ6_bitCount_0f7a4_28 : decode cJ6_bitCount_0f7a4 28 = .ok (.iadd, 1) := by decide +kernel
theorem dJ6_bitCount_0f7a4_29 : decode cJ6_bitCount_0f7a4 29 = .ok (.ldc_w 267, 3) := by decide +kernel
theorem dJ6_bitCount_0f7a4_32 : decode cJ6_bitCount_0f7a4 32 = .ok (.iand, 1) := by decide +kernel
theorem dJ6_bitCount_0f7a4_33 : decode cJ6_bitCount_0f7a4 33 = .ok (.istore_n 0, 1) := by decide +kernel
theorem dJ6_bitCount_0f7a4_34 : decode cJ6_bitCount_0f7a4 34 = .ok (.iload_n 0, 1) := by decide +kernel
theorem dJ6_bitCount_0f7a4_35 : decode cJ6_bitCount_0f7a4 35 = .ok (.iload_n 0, 1) := by decide +kernel
theorem dJ6_bitCount_0f7a4_36 : decode cJ6_bitCount_0f7a4 36 = .ok (.bipush 8, 2) := by decide +kernel
theorem dJ6_bitCount_0f7a4_38 : decode cJ6_bitCount_0f7a4 38 = .ok (.iushr, 1) := by decide +kernel
theorem dJ6_bitCount_0f7a4_39 : decode cJ6_bitCount_0f7a4 39 = .ok (.iadd, 1) := by decide +kernel
theorem dJ6_bitCount_0f7a4_40 : decode cJ6_bitCount_0f7a4 40 = .ok (.istore_n 0, 1) := by decide +kernel
theorem dJ6_bitCount_0f7a4_41 : decode cJ6_bitCount_0f7a4 41 = .ok (.iload_n 0, 1) := by decide +kernel
theorem dJ6_bitCount_0f7a4_42 : decode cJ6_bitCount_0f7a4 42 = .ok (.iload_n 0, 1) := by decide +kernel
theorem dJ6_bitCount_0f7a4_43 : decode cJ6_bitCount_0f7a4 43 = .ok (.bipush 16, 2) := by decide +kernel
theorem dJ6_bitCount_0f7a4_45 : decode cJ6_bitCount_0f7a4 45 = .ok (.iushr, 1) := by decide +kernel
theorem dJ6_bitCount_0f7a4_46 : decode cJ6_bitCount_0f7a4 46 = .ok (.iadd, 1) := by decide +kernel
theorem dJ6_bitCount_0f7a4_47 : decode cJ6_bitCount_0f7a4 47 = .ok (.istore_n 0, 1) := by decide +kernel
theorem dJ6_bitCount_0f7a4_48 : decode cJ6_bitCount_0f7a4 48 = .ok (.iload_n 0, 1) := by decide +kernel
theorem dJ6_bitCount_0f7a4_49 : decode cJ6_bitCount_0f7a4 49 = .ok (.bipush 63, 2) := by decide +kernel
theorem dJ6_bitCount_0f7a4_51 : decode cJ6_bitCount_0f7a4 51 = .ok (.iand, 1) := by decide +kernel
theorem dJ6_bitCount_0f7a4_52 : decode cJ6_bitCount_0f7a4 52 = .ok (.ireturn, 1) := by decide +kernel
theorem dJ9_floorMod_7cf53_0 : decode cJ9_floorMod_7cf53 0 = .ok (.iload_n 0, 1) := by decide +kernel
theorem dJ9_floorMod_7cf53_1 : decode cJ9_floorMod_7cf53 1 = .ok (.iload_n 1, 1) := by decide +kernel
theorem dJ9_floorMod_7cf53_2 : decode cJ9_floorMod_7cf53 2 = .ok (.irem, 1) := by decide +kernel
theorem dJ9_floorMod_7cf53_3 : decode cJ9_floorMod_7cf53 3 = .ok (.istore_n 2, 1) := by decide +kernel
theorem dJ9_floorMod_7cf53_4 : decode cJ9_floorMod_7cf53 4 = .ok (.iload_n 0, 1) := by decide +kernel
theorem dJ9_floorMod_7cf53_5 : decode cJ9_floorMod_7cf53 5 = .ok (.iload_n 1, 1) := by decide +kernel
theorem dJ9_floorMod_7cf53_6 : decode cJ9_floorMod_7cf53 6 = .ok (.ixor, 1) := by decide +kernel
theorem dJ9_floorMod_7cf53_7 : decode cJ9_floorMod_7cf53 7 = .ok (.ifCond .ge 11, 3) := by decide +kernel
theorem dJ9_floorMod_7cf53_10 : decode cJ9_floorMod_7cf53 10 = .ok (.iload_n 2, 1) := by decide +kernel
theorem dJ9_floorMod_7cf53_11 : decode cJ9_floorMod_7cf53 11 = .ok (.ifCond .eq 7, 3) := by decide +kernel
theorem dJ9_floorMod_7cf53_14 : decode cJ9_floorMod_7cf53 14 = .ok (.iload_n 2, 1) := by decide +kernel
theorem dJ9_floorMod_7cf53_15 : decode cJ9_floorMod_7cf53 15 = .ok (.iload_n 1, 1) := by decide +kernel
theorem dJ9_floorMod_7cf53_16 : decode cJ9_floorMod_7cf53 16 = .ok (.iadd, 1) := by decide +kernel
theorem dJ9_floorMod_7cf53_17 : decode cJ9_floorMod_7cf53 17 = .ok (.ireturn, 1) := by decide +kernel
theorem dJ9_floorMod_7cf53_18 : decode cJ9_floorMod_7cf53 18 = .ok (.iload_n 2, 1) := by decide +kernel
theorem dJ9_floorMod_7cf53_19 : decode cJ9_floorMod_7cf53 19 = .ok (.ireturn, 1) := by decide +kernel
theorem dJ9_min_7cf53_0 : decode cJ9_min_7cf53 0 = .ok (.iload_n 0, 1) := by decide +kernel
theorem dJ9_min_7cf53_1 : decode cJ9_min_7cf53 1 = .ok (.iload_n 1, 1) := by decide +kernel
theorem dJ9_min_7cf53_2 : decode cJ9_min_7cf53 2 = .ok (.if_icmp .gt 7, 3) := by decide +kernel
theorem dJ9_min_7cf53_5 : decode cJ9_min_7cf53 5 = .ok (.iload_n 0, 1) := by decide +kernel
theorem dJ9_min_7cf53_6 : decode cJ9_min_7cf53 6 = .ok (.goto 4, 3) := by decide +kernel
theorem dJ9_min_7cf53_9 : decode cJ9_min_7cf53 9 = .ok (.iload_n 1, 1) := by decide +kernel
theorem dJ9_min_7cf53_10 : decode cJ9_min_7cf53 10 = .ok (.ireturn, 1) := by decide +kernel
set_option maxRecDepth 20000 in
theorem ggL_adds_X0_addDevice : GoodIn wsL_adds wsX0_addDevice := goodIn_ca (goodIn_ca (goodIn_r _ [9, 10, 11, 12, 13, 14, 15, 16, 17, 18, 8, 19, 20, 21, 22, 23, 24, 25, 26, 27, 28, 29, 30, 31, 32, 33, 34, 35, 36, 37, 38, 39, 40, 41, 42, 43] (by decide +kernel) (by decide +kernel)) (goodIn_sub (fun _ h => List.mem_cons_of_mem _ (List.mem_append_left _ (List.mem_append_right _ h))) (by decide +kernel))) (goodIn_sub (fun _ h => List.mem_cons_of_mem _ (List.mem_append_right _ h)) (by decide +kernel))
set_option maxRecDepth 20000 in
theorem gL_adds_X0_addDevice : GoodIn wsL_adds (wsV RL 7 RX0 yX0_addDevice wsX0_addDevice) := goodIn_app (goodIn_of _ (by decide +kernel)) ggL_adds_X0_addDevice
theorem dL_adds_0 : decode cL_adds 0 = .ok (.aload_n 0, 1) := by decide +kernel
theorem dL_adds_1 : decode cL_adds 1 = .ok (.iload_n 1, 1) := by decide +kernel
theorem dL_adds_2 : decode cL_adds 2 = .ok (.iload_n 2, 1) := by decide +kernel
theorem dL_adds_3 : decode cL_adds 3 = .ok (.invokevirtual 7, 3) := by decide +kernel
theorem dL_adds_6 : decode cL_adds 6 = .ok (.ireturn, 1) := by decide +kernel
theorem dL_adds_7 : decode cL_adds 7 = .ok (.astore_n 3, 1) := by decide +kernel
theorem dL_adds_8 : decode cL_adds 8 = .ok (.ldc 15, 2) := by decide +kernel
theorem dL_adds_10 : decode cL_adds 10 = .ok (.ireturn, 1) := by decide +kernel
theorem dL_adds_11 : decode cL_adds 11 = .ok (.astore_n 3, 1) := by decide +kernel
theorem dL_adds_12 : decode cL_adds 12 = .ok (.ldc 18, 2) := by decide +kernel
theorem dL_adds_14 : decode cL_adds 14 = .ok (.ireturn, 1) := by decide +kernel
set_option maxRecDepth 20000 in
theorem ggL_online_X0_setOnline : GoodIn wsL_online wsX0_setOnline := goodIn_ca (goodIn_r _ [7, 8, 9, 10, 11, 6, 12, 13, 14, 15, 16, 17, 18, 19, 20, 21, 22, 23, 24, 25, 26, 27, 28, 29, 30, 31, 32, 33, 34, 35, 36, 37, 38, 39, 40, 41, 42, 43, 44, 45, 46, 47, 48, 49, 50, 51, 52, 53, 54, 55, 56, 57, 58, 59, 60, 61, 62, 63, 64, 65, 66, 67, 68, 69, 70, 71, 72, 73, 74, 75, 76, 77, 78, 79, 80, 81, 82, 83, 84, 85, 86, 87, 88, 89, 90, 91, 92, 93, 94, 95, 96, 97, 98, 99, 100, 101, 102, 103, 104, 105, 106, 107] (by decide +kernel) (by decide +kernel)) (goodIn_sub (fun _ h => List.mem_cons_of_mem _ (List.mem_append_right _ h)) (by decide +kernel))
set_option maxRecDepth 20000 in
theorem gL_online_X0_setOnline : GoodIn wsL_online (wsV RL 19 RX0 yX0_setOnline wsX0_setOnline) := goodIn_app (goodIn_of _ (by decide +kernel)) ggL_online_X0_setOnline
theorem dL_online_0 : decode cL_online 0 = .ok (.aload_n 0, 1) := by decide +kernel
theorem dL_online_1 : decode cL_online 1 = .ok (.iload_n 1, 1) := by decide +kernel
theorem dL_online_2 : decode cL_online 2 = .ok (.iload_n 2, 1) := by decide +kernel
theorem dL_online_3 : decode cL_online 3 = .ok (.invokevirtual 19, 3) := by decide +kernel
theorem dL_online_6 : decode cL_online 6 = .ok (.ireturn, 1) := by decide +kernel
theorem dL_online_7 : decode cL_online 7 = .ok (.astore_n 3, 1) := by decide +kernel
theorem dL_online_8 : decode cL_online 8 = .ok (.ldc 25, 2) := by decide +kernel
theorem dL_online_10 : decode cL_online 10 = .ok (.ireturn, 1) := by decide +kernel
set_option maxRecDepth 20000 in
theorem ggL_dozes_X0_setDozing : GoodIn wsL_dozes wsX0_setDozing := goodIn_ca (goodIn_r _ [7, 8, 9, 10, 11, 6, 12, 13, 14, 15, 16, 17, 18, 19, 20, 21, 22, 23, 24, 25, 26, 27, 28, 29, 30, 31, 32, 33, 34, 35, 36, 37, 38, 39, 40, 41, 42, 43, 44, 45, 46, 47, 48, 49, 50, 51, 52, 53, 54, 55, 56, 57, 58, 59, 60, 61, 62, 63, 64, 65, 66, 67, 68, 69, 70, 71, 72, 73, 74, 75, 76, 77, 78, 79, 80, 81, 82, 83, 84, 85, 86, 87, 88, 89, 90, 91, 92, 93, 94, 95, 96, 97, 98, 99, 100, 101, 102, 103, 104, 105, 106, 107] (by decide +kernel) (by decide +kernel)) (goodIn_sub (fun _ h => List.mem_cons_of_mem _ (List.mem_append_right _ h)) (by decide +kernel))
set_option maxRecDepth 20000 in
theorem gL_dozes_X0_setDozing : GoodIn wsL_dozes (wsV RL 26 RX0 yX0_setDozing wsX0_setDozing) := goodIn_app (goodIn_of _ (by decide +kernel)) ggL_dozes_X0_setDozing
theorem dL_dozes_0 : decode cL_dozes 0 = .ok (.aload_n 0, 1) := by decide +kernel
theorem dL_dozes_1 : decode cL_dozes 1 = .ok (.iload_n 1, 1) := by decide +kernel
theorem dL_dozes_2 : decode cL_dozes 2 = .ok (.iload_n 2, 1) := by decide +kernel
theorem dL_dozes_3 : decode cL_dozes 3 = .ok (.invokevirtual 26, 3) := by decide +kernel
theorem dL_dozes_6 : decode cL_dozes 6 = .ok (.ireturn, 1) := by decide +kernel
theorem dL_dozes_7 : decode cL_dozes 7 = .ok (.astore_n 3, 1) := by decide +kernel
theorem dL_dozes_8 : decode cL_dozes 8 = .ok (.ldc 25, 2) := by decide +kernel
theorem dL_dozes_10 : decode cL_dozes 10 = .ok (.ireturn, 1) := by decide +kernel
set_option maxRecDepth 20000 in
theorem ggL_quiets_X0_setQuiet : GoodIn wsL_quiets wsX0_setQuiet := goodIn_ca (goodIn_ca (goodIn_r _ [9, 10, 11, 12, 13, 14, 8, 15, 16, 17, 18, 19, 20, 21, 22, 23, 24, 25, 26, 27, 28, 29, 30, 31, 32, 33, 34, 35, 36, 37, 38, 39, 40, 41, 42, 43, 44, 45, 46, 47, 48, 49, 50, 51, 52, 53, 54, 55, 56, 57, 58, 59, 60, 61, 62, 63, 64, 65, 66, 67, 68, 69, 70, 71, 72, 73, 74, 75, 76, 77, 78, 79, 80, 81, 82, 83, 84, 85, 86, 87, 88, 89, 90, 91, 92, 93, 94, 95, 96, 97, 98, 99, 100, 101, 102, 103, 104, 105, 106, 107, 108, 109, 110, 111, 112, 113, 114] (by decide +kernel) (by decide +kernel)) (goodIn_sub (fun _ h => List.mem_cons_of_mem _ (List.mem_append_left _ (List.mem_append_right _ h))) (by decide +kernel))) (goodIn_sub (fun _ h => List.mem_cons_of_mem _ (List.mem_append_right _ h)) (by decide +kernel))
set_option maxRecDepth 20000 in
theorem gL_quiets_X0_setQuiet : GoodIn wsL_quiets (wsV RL 29 RX0 yX0_setQuiet wsX0_setQuiet) := goodIn_app (goodIn_of _ (by decide +kernel)) ggL_quiets_X0_setQuiet
theorem dL_quiets_0 : decode cL_quiets 0 = .ok (.aload_n 0, 1) := by decide +kernel
theorem dL_quiets_1 : decode cL_quiets 1 = .ok (.iload_n 1, 1) := by decide +kernel
theorem dL_quiets_2 : decode cL_quiets 2 = .ok (.iload_n 2, 1) := by decide +kernel
theorem dL_quiets_3 : decode cL_quiets 3 = .ok (.iload_n 3, 1) := by decide +kernel
theorem dL_quiets_4 : decode cL_quiets 4 = .ok (.invokevirtual 29, 3) := by decide +kernel
theorem dL_quiets_7 : decode cL_quiets 7 = .ok (.ireturn, 1) := by decide +kernel
theorem dL_quiets_8 : decode cL_quiets 8 = .ok (.astore 4, 2) := by decide +kernel
theorem dL_quiets_10 : decode cL_quiets 10 = .ok (.ldc 25, 2) := by decide +kernel
theorem dL_quiets_12 : decode cL_quiets 12 = .ok (.ireturn, 1) := by decide +kernel
theorem dL_quiets_13 : decode cL_quiets 13 = .ok (.astore 4, 2) := by decide +kernel
theorem dL_quiets_15 : decode cL_quiets 15 = .ok (.ldc 15, 2) := by decide +kernel
theorem dL_quiets_17 : decode cL_quiets 17 = .ok (.ireturn, 1) := by decide +kernel
set_option maxRecDepth 20000 in
theorem ggL_joins_X0_join : GoodIn wsL_joins wsX0_join := goodIn_ca (goodIn_ca (goodIn_r _ [9, 10, 11, 12, 13, 8, 14, 15, 16, 17, 18, 19, 20, 21, 22, 23, 24, 25, 26, 27, 28, 29, 30, 31, 32, 33, 34, 35, 36, 37, 38, 39, 40, 41, 42, 43, 44, 45, 46, 47, 48, 49, 50] (by decide +kernel) (by decide +kernel)) (goodIn_sub (fun _ h => List.mem_cons_of_mem _ (List.mem_append_left _ (List.mem_append_right _ h))) (by decide +kernel))) (goodIn_sub (fun _ h => List.mem_cons_of_mem _ (List.mem_append_right _ h)) (by decide +kernel))
set_option maxRecDepth 20000 in
theorem gL_joins_X0_join : GoodIn wsL_joins (wsV RL 33 RX0 yX0_join wsX0_join) := goodIn_app (goodIn_of _ (by decide +kernel)) ggL_joins_X0_join
theorem dL_joins_0 : decode cL_joins 0 = .ok (.aload_n 0, 1) := by decide +kernel
theorem dL_joins_1 : decode cL_joins 1 = .ok (.iload_n 1, 1) := by decide +kernel
theorem dL_joins_2 : decode cL_joins 2 = .ok (.iload_n 2, 1) := by decide +kernel
theorem dL_joins_3 : decode cL_joins 3 = .ok (.iload_n 3, 1) := by decide +kernel
theorem dL_joins_4 : decode cL_joins 4 = .ok (.invokevirtual 33, 3) := by decide +kernel
theorem dL_joins_7 : decode cL_joins 7 = .ok (.ifCond .eq 7, 3) := by decide +kernel
theorem dL_joins_10 : decode cL_joins 10 = .ok (.iconst 1, 1) := by decide +kernel
theorem dL_joins_11 : decode cL_joins 11 = .ok (.goto 4, 3) := by decide +kernel
theorem dL_joins_14 : decode cL_joins 14 = .ok (.iconst 0, 1) := by decide +kernel
theorem dL_joins_15 : decode cL_joins 15 = .ok (.ireturn, 1) := by decide +kernel
theorem dL_joins_16 : decode cL_joins 16 = .ok (.astore 4, 2) := by decide +kernel
theorem dL_joins_18 : decode cL_joins 18 = .ok (.ldc 25, 2) := by decide +kernel
theorem dL_joins_20 : decode cL_joins 20 = .ok (.ireturn, 1) := by decide +kernel
theorem dL_joins_21 : decode cL_joins 21 = .ok (.astore 4, 2) := by decide +kernel
theorem dL_joins_23 : decode cL_joins 23 = .ok (.ldc 15, 2) := by decide +kernel
theorem dL_joins_25 : decode cL_joins 25 = .ok (.ireturn, 1) := by decide +kernel
set_option maxRecDepth 20000 in
theorem ggL_kills_X0_kill : GoodIn wsL_kills wsX0_kill := goodIn_ca (goodIn_ca (goodIn_r _ [9, 10, 11, 12, 13, 14, 15, 16, 17, 8, 18, 19, 20, 21, 22, 23, 24, 25, 26, 27, 28, 29, 30, 31, 32, 33, 34, 35, 36, 37, 38, 39, 40, 41, 42, 43, 44, 45, 46, 47, 48, 49, 50, 51, 52, 53, 54, 55, 56, 57, 58, 59, 60, 61, 62, 63] (by decide +kernel) (by decide +kernel)) (goodIn_sub (fun _ h => List.mem_cons_of_mem _ (List.mem_append_left _ (List.mem_append_right _ h))) (by decide +kernel))) (goodIn_sub (fun _ h => List.mem_cons_of_mem _ (List.mem_append_right _ h)) (by decide +kernel))
set_option maxRecDepth 20000 in
theorem gL_kills_X0_kill : GoodIn wsL_kills (wsV RL 37 RX0 yX0_kill wsX0_kill) := goodIn_app (goodIn_of _ (by decide +kernel)) ggL_kills_X0_kill
theorem dL_kills_0 : decode cL_kills 0 = .ok (.aload_n 0, 1) := by decide +kernel
theorem dL_kills_1 : decode cL_kills 1 = .ok (.iload_n 1, 1) := by decide +kernel
theorem dL_kills_2 : decode cL_kills 2 = .ok (.invokevirtual 37, 3) := by decide +kernel
theorem dL_kills_5 : decode cL_kills 5 = .ok (.ireturn, 1) := by decide +kernel
theorem dL_kills_6 : decode cL_kills 6 = .ok (.astore_n 2, 1) := by decide +kernel
theorem dL_kills_7 : decode cL_kills 7 = .ok (.ldc 25, 2) := by decide +kernel
theorem dL_kills_9 : decode cL_kills 9 = .ok (.ireturn, 1) := by decide +kernel
theorem dL_kills_10 : decode cL_kills 10 = .ok (.astore_n 2, 1) := by decide +kernel
theorem dL_kills_11 : decode cL_kills 11 = .ok (.ldc 18, 2) := by decide +kernel
theorem dL_kills_13 : decode cL_kills 13 = .ok (.ireturn, 1) := by decide +kernel
set_option maxRecDepth 20000 in
theorem ggL_quiet_X0_isQuiet : GoodIn wsL_quiet wsX0_isQuiet := goodIn_ca (goodIn_r _ [7, 8, 9, 10, 6, 11, 12, 13, 14, 15, 16, 17, 18, 19, 20, 21, 22, 23, 24, 25, 26, 27, 28, 29, 30, 31, 32, 33, 34, 35, 36, 37, 38, 39, 40, 41, 42, 43, 44, 45, 46, 47, 48, 49] (by decide +kernel) (by decide +kernel)) (goodIn_sub (fun _ h => List.mem_cons_of_mem _ (List.mem_append_right _ h)) (by decide +kernel))
set_option maxRecDepth 20000 in
theorem gL_quiet_X0_isQuiet : GoodIn wsL_quiet (wsV RL 41 RX0 yX0_isQuiet wsX0_isQuiet) := goodIn_app (goodIn_of _ (by decide +kernel)) ggL_quiet_X0_isQuiet
theorem dL_quiet_0 : decode cL_quiet 0 = .ok (.aload_n 0, 1) := by decide +kernel
theorem dL_quiet_1 : decode cL_quiet 1 = .ok (.iload_n 1, 1) := by decide +kernel
