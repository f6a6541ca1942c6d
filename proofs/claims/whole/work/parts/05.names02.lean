set_option maxRecDepth 20000 in
theorem gX0_deliverNow_X0_waitsNow : GoodIn wsX0_deliverNow (wsV RX0 132 RX0 yX0_waitsNow wsX0_waitsNow) := goodIn_app (goodIn_of _ (by decide +kernel)) ggX0_deliverNow_X0_waitsNow
set_option maxRecDepth 20000 in
theorem ggX0_deliverNow_X0_openToHigh : GoodIn wsX0_deliverNow wsX0_openToHigh := goodIn_r _ [47, 10, 12, 11, 48, 49, 7, 50, 31, 32, 33, 51, 52, 53, 54, 55, 9, 56, 28, 29, 30, 73, 74, 75, 76, 77, 78, 79, 80, 81, 82, 83, 84, 85, 86, 87, 88, 89, 90, 91] (by decide +kernel) (by decide +kernel)
set_option maxRecDepth 20000 in
theorem gX0_deliverNow_X0_openToHigh : GoodIn wsX0_deliverNow (wsV RX0 184 RX0 yX0_openToHigh wsX0_openToHigh) := goodIn_app (goodIn_of _ (by decide +kernel)) ggX0_deliverNow_X0_openToHigh
set_option maxRecDepth 20000 in
theorem ggX0_deliverNow_X0_deliver : GoodIn wsX0_deliverNow wsX0_deliver := goodIn_r _ [60, 38, 61, 1, 3, 11, 62, 63, 64, 65, 66, 67, 68, 69, 70, 71, 7, 72, 12, 56, 55, 9, 48, 49, 50, 31, 32, 33, 51, 52, 53, 54, 73, 74, 75, 76, 77, 78, 79, 80, 81, 82, 83, 84, 85, 86, 87, 88, 89, 90, 91] (by decide +kernel) (by decide +kernel)
set_option maxRecDepth 20000 in
theorem gX0_deliverNow_X0_deliver : GoodIn wsX0_deliverNow (wsV RX0 187 RX0 yX0_deliver wsX0_deliver) := goodIn_app (goodIn_of _ (by decide +kernel)) ggX0_deliverNow_X0_deliver
theorem dX0_deliverNow_0 : decode cX0_deliverNow 0 = .ok (.aload_n 0, 1) := by decide +kernel
theorem dX0_deliverNow_1 : decode cX0_deliverNow 1 = .ok (.getfield 66, 3) := by decide +kernel
theorem dX0_deliverNow_4 : decode cX0_deliverNow 4 = .ok (.istore_n 1, 1) := by decide +kernel
theorem dX0_deliverNow_5 : decode cX0_deliverNow 5 = .ok (.aload_n 0, 1) := by decide +kernel
theorem dX0_deliverNow_6 : decode cX0_deliverNow 6 = .ok (.invokevirtual 181, 3) := by decide +kernel
theorem dX0_deliverNow_9 : decode cX0_deliverNow 9 = .ok (.istore_n 2, 1) := by decide +kernel
theorem dX0_deliverNow_10 : decode cX0_deliverNow 10 = .ok (.iconst 0, 1) := by decide +kernel
theorem dX0_deliverNow_11 : decode cX0_deliverNow 11 = .ok (.istore_n 3, 1) := by decide +kernel
theorem dX0_deliverNow_12 : decode cX0_deliverNow 12 = .ok (.iload_n 3, 1) := by decide +kernel
theorem dX0_deliverNow_13 : decode cX0_deliverNow 13 = .ok (.aload_n 0, 1) := by decide +kernel
theorem dX0_deliverNow_14 : decode cX0_deliverNow 14 = .ok (.getfield 60, 3) := by decide +kernel
theorem dX0_deliverNow_17 : decode cX0_deliverNow 17 = .ok (.if_icmp .ge 46, 3) := by decide +kernel
theorem dX0_deliverNow_20 : decode cX0_deliverNow 20 = .ok (.aload_n 0, 1) := by decide +kernel
theorem dX0_deliverNow_21 : decode cX0_deliverNow 21 = .ok (.iload_n 3, 1) := by decide +kernel
theorem dX0_deliverNow_22 : decode cX0_deliverNow 22 = .ok (.invokevirtual 132, 3) := by decide +kernel
theorem dX0_deliverNow_25 : decode cX0_deliverNow 25 = .ok (.istore 4, 2) := by decide +kernel
theorem dX0_deliverNow_27 : decode cX0_deliverNow 27 = .ok (.iload 4, 2) := by decide +kernel
theorem dX0_deliverNow_29 : decode cX0_deliverNow 29 = .ok (.ifCond .eq 28, 3) := by decide +kernel
theorem dX0_deliverNow_32 : decode cX0_deliverNow 32 = .ok (.aload_n 0, 1) := by decide +kernel
theorem dX0_deliverNow_33 : decode cX0_deliverNow 33 = .ok (.iload_n 3, 1) := by decide +kernel
theorem dX0_deliverNow_34 : decode cX0_deliverNow 34 = .ok (.iload 4, 2) := by decide +kernel
theorem dX0_deliverNow_36 : decode cX0_deliverNow 36 = .ok (.aload_n 0, 1) := by decide +kernel
theorem dX0_deliverNow_37 : decode cX0_deliverNow 37 = .ok (.getfield 44, 3) := by decide +kernel
theorem dX0_deliverNow_40 : decode cX0_deliverNow 40 = .ok (.iload_n 3, 1) := by decide +kernel
theorem dX0_deliverNow_41 : decode cX0_deliverNow 41 = .ok (.baload, 1) := by decide +kernel
theorem dX0_deliverNow_42 : decode cX0_deliverNow 42 = .ok (.ifCond .eq 10, 3) := by decide +kernel
theorem dX0_deliverNow_45 : decode cX0_deliverNow 45 = .ok (.aload_n 0, 1) := by decide +kernel
theorem dX0_deliverNow_46 : decode cX0_deliverNow 46 = .ok (.invokevirtual 184, 3) := by decide +kernel
theorem dX0_deliverNow_49 : decode cX0_deliverNow 49 = .ok (.goto 4, 3) := by decide +kernel
theorem dX0_deliverNow_52 : decode cX0_deliverNow 52 = .ok (.iload_n 2, 1) := by decide +kernel
theorem dX0_deliverNow_53 : decode cX0_deliverNow 53 = .ok (.iand, 1) := by decide +kernel
theorem dX0_deliverNow_54 : decode cX0_deliverNow 54 = .ok (.invokevirtual 187, 3) := by decide +kernel
theorem dX0_deliverNow_57 : decode cX0_deliverNow 57 = .ok (.iinc 3 1, 3) := by decide +kernel
theorem dX0_deliverNow_60 : decode cX0_deliverNow 60 = .ok (.goto (-48), 3) := by decide +kernel
theorem dX0_deliverNow_63 : decode cX0_deliverNow 63 = .ok (.aload_n 0, 1) := by decide +kernel
theorem dX0_deliverNow_64 : decode cX0_deliverNow 64 = .ok (.getfield 66, 3) := by decide +kernel
theorem dX0_deliverNow_67 : decode cX0_deliverNow 67 = .ok (.iload_n 1, 1) := by decide +kernel
theorem dX0_deliverNow_68 : decode cX0_deliverNow 68 = .ok (.isub, 1) := by decide +kernel
theorem dX0_deliverNow_69 : decode cX0_deliverNow 69 = .ok (.ireturn, 1) := by decide +kernel
set_option maxRecDepth 20000 in
theorem ggX0_deliver_J6_bitCount_0f7a4 : GoodIn wsX0_deliver wsJ6_bitCount_0f7a4 := goodIn_r _ [9, 10, 11, 12] (by decide +kernel) (by decide +kernel)
set_option maxRecDepth 20000 in
theorem gX0_deliver_J6_bitCount_0f7a4 : GoodIn wsX0_deliver (va_wsS RX0 135 yJ6_bitCount_0f7a4 wsJ6_bitCount_0f7a4) := goodIn_app (goodIn_of _ (by decide +kernel)) ggX0_deliver_J6_bitCount_0f7a4
set_option maxRecDepth 20000 in
theorem ggX0_deliver_X0_spendQuota : GoodIn wsX0_deliver wsX0_spendQuota := goodIn_r _ [17, 18, 19, 20, 21, 22, 23, 16, 24, 25, 26, 27, 28, 29, 30, 31, 32, 33, 34, 35, 36, 37, 38, 39, 40, 41, 42, 43, 44, 45, 46, 47, 48, 49, 50] (by decide +kernel) (by decide +kernel)
set_option maxRecDepth 20000 in
theorem gX0_deliver_X0_spendQuota : GoodIn wsX0_deliver (wsV RX0 190 RX0 yX0_spendQuota wsX0_spendQuota) := goodIn_app (goodIn_of _ (by decide +kernel)) ggX0_deliver_X0_spendQuota
theorem dX0_deliver_0 : decode cX0_deliver 0 = .ok (.aload_n 0, 1) := by decide +kernel
theorem dX0_deliver_1 : decode cX0_deliver 1 = .ok (.getfield 51, 3) := by decide +kernel
theorem dX0_deliver_4 : decode cX0_deliver 4 = .ok (.iload_n 1, 1) := by decide +kernel
theorem dX0_deliver_5 : decode cX0_deliver 5 = .ok (.dup2, 1) := by decide +kernel
theorem dX0_deliver_6 : decode cX0_deliver 6 = .ok (.iaload, 1) := by decide +kernel
theorem dX0_deliver_7 : decode cX0_deliver 7 = .ok (.iload_n 2, 1) := by decide +kernel
theorem dX0_deliver_8 : decode cX0_deliver 8 = .ok (.iconst (-1), 1) := by decide +kernel
theorem dX0_deliver_9 : decode cX0_deliver 9 = .ok (.ixor, 1) := by decide +kernel
theorem dX0_deliver_10 : decode cX0_deliver 10 = .ok (.iand, 1) := by decide +kernel
theorem dX0_deliver_11 : decode cX0_deliver 11 = .ok (.iastore, 1) := by decide +kernel
theorem dX0_deliver_12 : decode cX0_deliver 12 = .ok (.aload_n 0, 1) := by decide +kernel
theorem dX0_deliver_13 : decode cX0_deliver 13 = .ok (.getfield 54, 3) := by decide +kernel
theorem dX0_deliver_16 : decode cX0_deliver 16 = .ok (.iload_n 1, 1) := by decide +kernel
theorem dX0_deliver_17 : decode cX0_deliver 17 = .ok (.dup2, 1) := by decide +kernel
theorem dX0_deliver_18 : decode cX0_deliver 18 = .ok (.iaload, 1) := by decide +kernel
theorem dX0_deliver_19 : decode cX0_deliver 19 = .ok (.iload_n 2, 1) := by decide +kernel
theorem dX0_deliver_20 : decode cX0_deliver 20 = .ok (.ior, 1) := by decide +kernel
theorem dX0_deliver_21 : decode cX0_deliver 21 = .ok (.iastore, 1) := by decide +kernel
theorem dX0_deliver_22 : decode cX0_deliver 22 = .ok (.aload_n 0, 1) := by decide +kernel
theorem dX0_deliver_23 : decode cX0_deliver 23 = .ok (.dup, 1) := by decide +kernel
theorem dX0_deliver_24 : decode cX0_deliver 24 = .ok (.getfield 66, 3) := by decide +kernel
theorem dX0_deliver_27 : decode cX0_deliver 27 = .ok (.iload_n 2, 1) := by decide +kernel
theorem dX0_deliver_28 : decode cX0_deliver 28 = .ok (.invokestatic 135, 3) := by decide +kernel
theorem dX0_deliver_31 : decode cX0_deliver 31 = .ok (.iadd, 1) := by decide +kernel
theorem dX0_deliver_32 : decode cX0_deliver 32 = .ok (.putfield 66, 3) := by decide +kernel
theorem dX0_deliver_35 : decode cX0_deliver 35 = .ok (.aload_n 0, 1) := by decide +kernel
theorem dX0_deliver_36 : decode cX0_deliver 36 = .ok (.getfield 44, 3) := by decide +kernel
theorem dX0_deliver_39 : decode cX0_deliver 39 = .ok (.iload_n 1, 1) := by decide +kernel
theorem dX0_deliver_40 : decode cX0_deliver 40 = .ok (.baload, 1) := by decide +kernel
theorem dX0_deliver_41 : decode cX0_deliver 41 = .ok (.ifCond .eq 13, 3) := by decide +kernel
theorem dX0_deliver_44 : decode cX0_deliver 44 = .ok (.aload_n 0, 1) := by decide +kernel
theorem dX0_deliver_45 : decode cX0_deliver 45 = .ok (.iload_n 2, 1) := by decide +kernel
theorem dX0_deliver_46 : decode cX0_deliver 46 = .ok (.aload_n 0, 1) := by decide +kernel
theorem dX0_deliver_47 : decode cX0_deliver 47 = .ok (.getfield 23, 3) := by decide +kernel
theorem dX0_deliver_50 : decode cX0_deliver 50 = .ok (.iand, 1) := by decide +kernel
theorem dX0_deliver_51 : decode cX0_deliver 51 = .ok (.invokevirtual 190, 3) := by decide +kernel
theorem dX0_deliver_54 : decode cX0_deliver 54 = .ok (.return_, 1) := by decide +kernel
set_option maxRecDepth 20000 in
theorem ggX0_openToNormal_X0_isInQuietHours : GoodIn wsX0_openToNormal wsX0_isInQuietHours := goodIn_r _ [9, 10, 11, 12, 13, 14, 8, 15, 1, 16, 17, 18, 19, 20, 27, 28, 29, 30, 31, 32, 33, 34, 35, 36, 37, 38, 39, 40, 41, 42, 43, 44, 45] (by decide +kernel) (by decide +kernel)
set_option maxRecDepth 20000 in
theorem gX0_openToNormal_X0_isInQuietHours : GoodIn wsX0_openToNormal (wsV RX0 105 RX0 yX0_isInQuietHours wsX0_isInQuietHours) := goodIn_app (goodIn_of _ (by decide +kernel)) ggX0_openToNormal_X0_isInQuietHours
set_option maxRecDepth 20000 in
theorem ggX0_openToNormal_X0_changed : GoodIn wsX0_openToNormal wsX0_changed := goodIn_r _ [23, 24, 25, 8, 26] (by decide +kernel) (by decide +kernel)
set_option maxRecDepth 20000 in
theorem gX0_openToNormal_X0_changed : GoodIn wsX0_openToNormal (va_wsS RX0 88 yX0_changed wsX0_changed) := goodIn_app (goodIn_of _ (by decide +kernel)) ggX0_openToNormal_X0_changed
theorem dX0_openToNormal_0 : decode cX0_openToNormal 0 = .ok (.aload_n 0, 1) := by decide +kernel
theorem dX0_openToNormal_1 : decode cX0_openToNormal 1 = .ok (.getfield 63, 3) := by decide +kernel
theorem dX0_openToNormal_4 : decode cX0_openToNormal 4 = .ok (.bipush 60, 2) := by decide +kernel
theorem dX0_openToNormal_6 : decode cX0_openToNormal 6 = .ok (.irem, 1) := by decide +kernel
theorem dX0_openToNormal_7 : decode cX0_openToNormal 7 = .ok (.ifCond .ne 10, 3) := by decide +kernel
theorem dX0_openToNormal_10 : decode cX0_openToNormal 10 = .ok (.aload_n 0, 1) := by decide +kernel
theorem dX0_openToNormal_11 : decode cX0_openToNormal 11 = .ok (.getfield 20, 3) := by decide +kernel
theorem dX0_openToNormal_14 : decode cX0_openToNormal 14 = .ok (.goto 14, 3) := by decide +kernel
theorem dX0_openToNormal_17 : decode cX0_openToNormal 17 = .ok (.aload_n 0, 1) := by decide +kernel
theorem dX0_openToNormal_18 : decode cX0_openToNormal 18 = .ok (.getfield 20, 3) := by decide +kernel
theorem dX0_openToNormal_21 : decode cX0_openToNormal 21 = .ok (.aload_n 0, 1) := by decide +kernel
theorem dX0_openToNormal_22 : decode cX0_openToNormal 22 = .ok (.getfield 23, 3) := by decide +kernel
theorem dX0_openToNormal_25 : decode cX0_openToNormal 25 = .ok (.iconst (-1), 1) := by decide +kernel
theorem dX0_openToNormal_26 : decode cX0_openToNormal 26 = .ok (.ixor, 1) := by decide +kernel
theorem dX0_openToNormal_27 : decode cX0_openToNormal 27 = .ok (.iand, 1) := by decide +kernel
theorem dX0_openToNormal_28 : decode cX0_openToNormal 28 = .ok (.istore_n 1, 1) := by decide +kernel
theorem dX0_openToNormal_29 : decode cX0_openToNormal 29 = .ok (.iconst 0, 1) := by decide +kernel
theorem dX0_openToNormal_30 : decode cX0_openToNormal 30 = .ok (.istore_n 2, 1) := by decide +kernel
theorem dX0_openToNormal_31 : decode cX0_openToNormal 31 = .ok (.iload_n 2, 1) := by decide +kernel
theorem dX0_openToNormal_32 : decode cX0_openToNormal 32 = .ok (.aload_n 0, 1) := by decide +kernel
theorem dX0_openToNormal_33 : decode cX0_openToNormal 33 = .ok (.getfield 41, 3) := by decide +kernel
theorem dX0_openToNormal_36 : decode cX0_openToNormal 36 = .ok (.if_icmp .ge 24, 3) := by decide +kernel
theorem dX0_openToNormal_39 : decode cX0_openToNormal 39 = .ok (.aload_n 0, 1) := by decide +kernel
theorem dX0_openToNormal_40 : decode cX0_openToNormal 40 = .ok (.iload_n 2, 1) := by decide +kernel
theorem dX0_openToNormal_41 : decode cX0_openToNormal 41 = .ok (.invokevirtual 105, 3) := by decide +kernel
theorem dX0_openToNormal_44 : decode cX0_openToNormal 44 = .ok (.ifCond .eq 10, 3) := by decide +kernel
theorem dX0_openToNormal_47 : decode cX0_openToNormal 47 = .ok (.iload_n 1, 1) := by decide +kernel
theorem dX0_openToNormal_48 : decode cX0_openToNormal 48 = .ok (.iload_n 2, 1) := by decide +kernel
theorem dX0_openToNormal_49 : decode cX0_openToNormal 49 = .ok (.iconst 0, 1) := by decide +kernel
theorem dX0_openToNormal_50 : decode cX0_openToNormal 50 = .ok (.invokestatic 88, 3) := by decide +kernel
theorem dX0_openToNormal_53 : decode cX0_openToNormal 53 = .ok (.istore_n 1, 1) := by decide +kernel
theorem dX0_openToNormal_54 : decode cX0_openToNormal 54 = .ok (.iinc 2 1, 3) := by decide +kernel
theorem dX0_openToNormal_57 : decode cX0_openToNormal 57 = .ok (.goto (-26), 3) := by decide +kernel
theorem dX0_openToNormal_60 : decode cX0_openToNormal 60 = .ok (.iload_n 1, 1) := by decide +kernel
theorem dX0_openToNormal_61 : decode cX0_openToNormal 61 = .ok (.ireturn, 1) := by decide +kernel
set_option maxRecDepth 20000 in
theorem ggX0_openToHigh_X0_has : GoodIn wsX0_openToHigh wsX0_has := goodIn_r _ [7, 8, 9, 6, 10] (by decide +kernel) (by decide +kernel)
set_option maxRecDepth 20000 in
theorem gX0_openToHigh_X0_has : GoodIn wsX0_openToHigh (va_wsS RX0 96 yX0_has wsX0_has) := goodIn_app (goodIn_of _ (by decide +kernel)) ggX0_openToHigh_X0_has
set_option maxRecDepth 20000 in
theorem ggX0_openToHigh_X0_spentToday : GoodIn wsX0_openToHigh wsX0_spentToday := goodIn_r _ [14, 15, 16, 17, 21, 22, 23, 24, 25, 26, 27, 28, 29, 30, 31, 32, 33, 34, 35, 36, 37, 38, 39] (by decide +kernel) (by decide +kernel)
set_option maxRecDepth 20000 in
theorem gX0_openToHigh_X0_spentToday : GoodIn wsX0_openToHigh (wsV RX0 147 RX0 yX0_spentToday wsX0_spentToday) := goodIn_app (goodIn_of _ (by decide +kernel)) ggX0_openToHigh_X0_spentToday
set_option maxRecDepth 20000 in
theorem ggX0_openToHigh_X0_changed : GoodIn wsX0_openToHigh wsX0_changed := goodIn_r _ [20, 8, 9, 6, 10] (by decide +kernel) (by decide +kernel)
set_option maxRecDepth 20000 in
theorem gX0_openToHigh_X0_changed : GoodIn wsX0_openToHigh (va_wsS RX0 88 yX0_changed wsX0_changed) := goodIn_app (goodIn_of _ (by decide +kernel)) ggX0_openToHigh_X0_changed
theorem dX0_openToHigh_0 : decode cX0_openToHigh 0 = .ok (.aload_n 0, 1) := by decide +kernel
theorem dX0_openToHigh_1 : decode cX0_openToHigh 1 = .ok (.getfield 20, 3) := by decide +kernel
theorem dX0_openToHigh_4 : decode cX0_openToHigh 4 = .ok (.istore_n 1, 1) := by decide +kernel
theorem dX0_openToHigh_5 : decode cX0_openToHigh 5 = .ok (.iconst 0, 1) := by decide +kernel
theorem dX0_openToHigh_6 : decode cX0_openToHigh 6 = .ok (.istore_n 2, 1) := by decide +kernel
theorem dX0_openToHigh_7 : decode cX0_openToHigh 7 = .ok (.iload_n 2, 1) := by decide +kernel
theorem dX0_openToHigh_8 : decode cX0_openToHigh 8 = .ok (.aload_n 0, 1) := by decide +kernel
theorem dX0_openToHigh_9 : decode cX0_openToHigh 9 = .ok (.getfield 41, 3) := by decide +kernel
theorem dX0_openToHigh_12 : decode cX0_openToHigh 12 = .ok (.if_icmp .ge 36, 3) := by decide +kernel
theorem dX0_openToHigh_15 : decode cX0_openToHigh 15 = .ok (.aload_n 0, 1) := by decide +kernel
theorem dX0_openToHigh_16 : decode cX0_openToHigh 16 = .ok (.getfield 23, 3) := by decide +kernel
theorem dX0_openToHigh_19 : decode cX0_openToHigh 19 = .ok (.iload_n 2, 1) := by decide +kernel
theorem dX0_openToHigh_20 : decode cX0_openToHigh 20 = .ok (.invokestatic 96, 3) := by decide +kernel
theorem dX0_openToHigh_23 : decode cX0_openToHigh 23 = .ok (.ifCond .eq 19, 3) := by decide +kernel
theorem dX0_openToHigh_26 : decode cX0_openToHigh 26 = .ok (.aload_n 0, 1) := by decide +kernel
theorem dX0_openToHigh_27 : decode cX0_openToHigh 27 = .ok (.iload_n 2, 1) := by decide +kernel
theorem dX0_openToHigh_28 : decode cX0_openToHigh 28 = .ok (.invokevirtual 147, 3) := by decide +kernel
theorem dX0_openToHigh_31 : decode cX0_openToHigh 31 = .ok (.iconst 3, 1) := by decide +kernel
theorem dX0_openToHigh_32 : decode cX0_openToHigh 32 = .ok (.if_icmp .lt 10, 3) := by decide +kernel
theorem dX0_openToHigh_35 : decode cX0_openToHigh 35 = .ok (.iload_n 1, 1) := by decide +kernel
theorem dX0_openToHigh_36 : decode cX0_openToHigh 36 = .ok (.iload_n 2, 1) := by decide +kernel
theorem dX0_openToHigh_37 : decode cX0_openToHigh 37 = .ok (.iconst 0, 1) := by decide +kernel
theorem dX0_openToHigh_38 : decode cX0_openToHigh 38 = .ok (.invokestatic 88, 3) := by decide +kernel
theorem dX0_openToHigh_41 : decode cX0_openToHigh 41 = .ok (.istore_n 1, 1) := by decide +kernel
theorem dX0_openToHigh_42 : decode cX0_openToHigh 42 = .ok (.iinc 2 1, 3) := by decide +kernel
theorem dX0_openToHigh_45 : decode cX0_openToHigh 45 = .ok (.goto (-38), 3) := by decide +kernel
theorem dX0_openToHigh_48 : decode cX0_openToHigh 48 = .ok (.iload_n 1, 1) := by decide +kernel
theorem dX0_openToHigh_49 : decode cX0_openToHigh 49 = .ok (.ireturn, 1) := by decide +kernel
set_option maxRecDepth 20000 in
theorem ggX0_nextChance_X0_isInQuietHours : GoodIn wsX0_nextChance wsX0_isInQuietHours := goodIn_r _ [12, 13, 3, 14, 15, 16, 11, 17, 1, 18, 19, 20, 21, 22, 23, 24, 25, 26, 27, 28, 29, 30, 31, 32, 33, 34, 35, 36, 37, 38, 39, 40, 41] (by decide +kernel) (by decide +kernel)
set_option maxRecDepth 20000 in
theorem gX0_nextChance_X0_isInQuietHours : GoodIn wsX0_nextChance (wsV RX0 105 RX0 yX0_isInQuietHours wsX0_isInQuietHours) := goodIn_app (goodIn_of _ (by decide +kernel)) ggX0_nextChance_X0_isInQuietHours
set_option maxRecDepth 20000 in
theorem ggX0_nextChance_X0_localTime : GoodIn wsX0_nextChance wsX0_localTime := goodIn_r _ [17, 1, 18, 19, 20, 21, 22, 23, 24, 25, 26, 27, 28, 29, 30, 31, 32, 33, 34, 35, 36, 37, 38, 39, 40, 41] (by decide +kernel) (by decide +kernel)
set_option maxRecDepth 20000 in
theorem gX0_nextChance_X0_localTime : GoodIn wsX0_nextChance (wsV RX0 178 RX0 yX0_localTime wsX0_localTime) := goodIn_app (goodIn_of _ (by decide +kernel)) ggX0_nextChance_X0_localTime
set_option maxRecDepth 20000 in
theorem ggX0_nextChance_J9_floorMod_7cf53 : GoodIn wsX0_nextChance wsJ9_floorMod_7cf53 := goodIn_r _ [22] (by decide +kernel) (by decide +kernel)
set_option maxRecDepth 20000 in
theorem gX0_nextChance_J9_floorMod_7cf53 : GoodIn wsX0_nextChance (va_wsS RX0 175 yJ9_floorMod_7cf53 wsJ9_floorMod_7cf53) := goodIn_app (goodIn_of _ (by decide +kernel)) ggX0_nextChance_J9_floorMod_7cf53
theorem dX0_nextChance_0 : decode cX0_nextChance 0 = .ok (.aload_n 0, 1) := by decide +kernel
theorem dX0_nextChance_1 : decode cX0_nextChance 1 = .ok (.getfield 63, 3) := by decide +kernel
theorem dX0_nextChance_4 : decode cX0_nextChance 4 = .ok (.aload_n 0, 1) := by decide +kernel
theorem dX0_nextChance_5 : decode cX0_nextChance 5 = .ok (.getfield 63, 3) := by decide +kernel
theorem dX0_nextChance_8 : decode cX0_nextChance 8 = .ok (.bipush 60, 2) := by decide +kernel
theorem dX0_nextChance_10 : decode cX0_nextChance 10 = .ok (.irem, 1) := by decide +kernel
theorem dX0_nextChance_11 : decode cX0_nextChance 11 = .ok (.isub, 1) := by decide +kernel
theorem dX0_nextChance_12 : decode cX0_nextChance 12 = .ok (.bipush 60, 2) := by decide +kernel
theorem dX0_nextChance_14 : decode cX0_nextChance 14 = .ok (.iadd, 1) := by decide +kernel
theorem dX0_nextChance_15 : decode cX0_nextChance 15 = .ok (.istore_n 1, 1) := by decide +kernel
theorem dX0_nextChance_16 : decode cX0_nextChance 16 = .ok (.iconst 0, 1) := by decide +kernel
theorem dX0_nextChance_17 : decode cX0_nextChance 17 = .ok (.istore_n 2, 1) := by decide +kernel
theorem dX0_nextChance_18 : decode cX0_nextChance 18 = .ok (.iload_n 2, 1) := by decide +kernel
theorem dX0_nextChance_19 : decode cX0_nextChance 19 = .ok (.aload_n 0, 1) := by decide +kernel
theorem dX0_nextChance_20 : decode cX0_nextChance 20 = .ok (.getfield 41, 3) := by decide +kernel
theorem dX0_nextChance_23 : decode cX0_nextChance 23 = .ok (.if_icmp .ge 47, 3) := by decide +kernel
theorem dX0_nextChance_26 : decode cX0_nextChance 26 = .ok (.aload_n 0, 1) := by decide +kernel
theorem dX0_nextChance_27 : decode cX0_nextChance 27 = .ok (.iload_n 2, 1) := by decide +kernel
theorem dX0_nextChance_28 : decode cX0_nextChance 28 = .ok (.invokevirtual 105, 3) := by decide +kernel
theorem dX0_nextChance_31 : decode cX0_nextChance 31 = .ok (.ifCond .eq 33, 3) := by decide +kernel
theorem dX0_nextChance_34 : decode cX0_nextChance 34 = .ok (.aload_n 0, 1) := by decide +kernel
theorem dX0_nextChance_35 : decode cX0_nextChance 35 = .ok (.getfield 32, 3) := by decide +kernel
theorem dX0_nextChance_38 : decode cX0_nextChance 38 = .ok (.iload_n 2, 1) := by decide +kernel
theorem dX0_nextChance_39 : decode cX0_nextChance 39 = .ok (.iaload, 1) := by decide +kernel
theorem dX0_nextChance_40 : decode cX0_nextChance 40 = .ok (.aload_n 0, 1) := by decide +kernel
theorem dX0_nextChance_41 : decode cX0_nextChance 41 = .ok (.iload_n 2, 1) := by decide +kernel
theorem dX0_nextChance_42 : decode cX0_nextChance 42 = .ok (.invokevirtual 178, 3) := by decide +kernel
theorem dX0_nextChance_45 : decode cX0_nextChance 45 = .ok (.isub, 1) := by decide +kernel
theorem dX0_nextChance_46 : decode cX0_nextChance 46 = .ok (.sipush 1440, 3) := by decide +kernel
theorem dX0_nextChance_49 : decode cX0_nextChance 49 = .ok (.invokestatic 175, 3) := by decide +kernel
theorem dX0_nextChance_52 : decode cX0_nextChance 52 = .ok (.istore_n 3, 1) := by decide +kernel
theorem dX0_nextChance_53 : decode cX0_nextChance 53 = .ok (.iload_n 1, 1) := by decide +kernel
theorem dX0_nextChance_54 : decode cX0_nextChance 54 = .ok (.aload_n 0, 1) := by decide +kernel
theorem dX0_nextChance_55 : decode cX0_nextChance 55 = .ok (.getfield 63, 3) := by decide +kernel
theorem dX0_nextChance_58 : decode cX0_nextChance 58 = .ok (.iload_n 3, 1) := by decide +kernel
theorem dX0_nextChance_59 : decode cX0_nextChance 59 = .ok (.iadd, 1) := by decide +kernel
theorem dX0_nextChance_60 : decode cX0_nextChance 60 = .ok (.invokestatic 156, 3) := by decide +kernel
theorem dX0_nextChance_63 : decode cX0_nextChance 63 = .ok (.istore_n 1, 1) := by decide +kernel
theorem dX0_nextChance_64 : decode cX0_nextChance 64 = .ok (.iinc 2 1, 3) := by decide +kernel
theorem dX0_nextChance_67 : decode cX0_nextChance 67 = .ok (.goto (-49), 3) := by decide +kernel
theorem dX0_nextChance_70 : decode cX0_nextChance 70 = .ok (.iload_n 1, 1) := by decide +kernel
theorem dX0_nextChance_71 : decode cX0_nextChance 71 = .ok (.ireturn, 1) := by decide +kernel
theorem dX1_init_0 : decode cX1_init 0 = .ok (.aload_n 0, 1) := by decide +kernel
theorem dX1_init_1 : decode cX1_init 1 = .ok (.invokespecial 1, 3) := by decide +kernel
theorem dX1_init_4 : decode cX1_init 4 = .ok (.aload_n 0, 1) := by decide +kernel
theorem dX1_init_5 : decode cX1_init 5 = .ok (.bipush 16, 2) := by decide +kernel
theorem dX1_init_7 : decode cX1_init 7 = .ok (.newarray .int, 2) := by decide +kernel
theorem dX1_init_9 : decode cX1_init 9 = .ok (.putfield 7, 3) := by decide +kernel
theorem dX1_init_12 : decode cX1_init 12 = .ok (.aload_n 0, 1) := by decide +kernel
theorem dX1_init_13 : decode cX1_init 13 = .ok (.bipush 16, 2) := by decide +kernel
theorem dX1_init_15 : decode cX1_init 15 = .ok (.newarray .int, 2) := by decide +kernel
theorem dX1_init_17 : decode cX1_init 17 = .ok (.putfield 13, 3) := by decide +kernel
theorem dX1_init_20 : decode cX1_init 20 = .ok (.aload_n 0, 1) := by decide +kernel
theorem dX1_init_21 : decode cX1_init 21 = .ok (.bipush 16, 2) := by decide +kernel
theorem dX1_init_23 : decode cX1_init 23 = .ok (.newarray .boolean, 2) := by decide +kernel
theorem dX1_init_25 : decode cX1_init 25 = .ok (.putfield 16, 3) := by decide +kernel
theorem dX1_init_28 : decode cX1_init 28 = .ok (.aload_n 0, 1) := by decide +kernel
theorem dX1_init_29 : decode cX1_init 29 = .ok (.bipush 16, 2) := by decide +kernel
theorem dX1_init_31 : decode cX1_init 31 = .ok (.newarray .boolean, 2) := by decide +kernel
theorem dX1_init_33 : decode cX1_init 33 = .ok (.putfield 20, 3) := by decide +kernel
theorem dX1_init_36 : decode cX1_init 36 = .ok (.aload_n 0, 1) := by decide +kernel
theorem dX1_init_37 : decode cX1_init 37 = .ok (.bipush 16, 2) := by decide +kernel
theorem dX1_init_39 : decode cX1_init 39 = .ok (.newarray .boolean, 2) := by decide +kernel
theorem dX1_init_41 : decode cX1_init 41 = .ok (.putfield 23, 3) := by decide +kernel
theorem dX1_init_44 : decode cX1_init 44 = .ok (.aload_n 0, 1) := by decide +kernel
theorem dX1_init_45 : decode cX1_init 45 = .ok (.bipush 16, 2) := by decide +kernel
theorem dX1_init_47 : decode cX1_init 47 = .ok (.newarray .int, 2) := by decide +kernel
theorem dX1_init_49 : decode cX1_init 49 = .ok (.putfield 26, 3) := by decide +kernel
theorem dX1_init_52 : decode cX1_init 52 = .ok (.aload_n 0, 1) := by decide +kernel
theorem dX1_init_53 : decode cX1_init 53 = .ok (.bipush 16, 2) := by decide +kernel
theorem dX1_init_55 : decode cX1_init 55 = .ok (.newarray .int, 2) := by decide +kernel
theorem dX1_init_57 : decode cX1_init 57 = .ok (.putfield 29, 3) := by decide +kernel
theorem dX1_init_60 : decode cX1_init 60 = .ok (.aload_n 0, 1) := by decide +kernel
theorem dX1_init_61 : decode cX1_init 61 = .ok (.bipush 16, 2) := by decide +kernel
theorem dX1_init_63 : decode cX1_init 63 = .ok (.newarray .int, 2) := by decide +kernel
theorem dX1_init_65 : decode cX1_init 65 = .ok (.putfield 32, 3) := by decide +kernel
theorem dX1_init_68 : decode cX1_init 68 = .ok (.aload_n 0, 1) := by decide +kernel
theorem dX1_init_69 : decode cX1_init 69 = .ok (.bipush 16, 2) := by decide +kernel
theorem dX1_init_71 : decode cX1_init 71 = .ok (.newarray .int, 2) := by decide +kernel
theorem dX1_init_73 : decode cX1_init 73 = .ok (.putfield 35, 3) := by decide +kernel
theorem dX1_init_76 : decode cX1_init 76 = .ok (.aload_n 0, 1) := by decide +kernel
theorem dX1_init_77 : decode cX1_init 77 = .ok (.bipush 16, 2) := by decide +kernel
theorem dX1_init_79 : decode cX1_init 79 = .ok (.newarray .int, 2) := by decide +kernel
theorem dX1_init_81 : decode cX1_init 81 = .ok (.putfield 38, 3) := by decide +kernel
theorem dX1_init_84 : decode cX1_init 84 = .ok (.aload_n 0, 1) := by decide +kernel
theorem dX1_init_85 : decode cX1_init 85 = .ok (.bipush 120, 2) := by decide +kernel
theorem dX1_init_87 : decode cX1_init 87 = .ok (.newarray .boolean, 2) := by decide +kernel
theorem dX1_init_89 : decode cX1_init 89 = .ok (.putfield 41, 3) := by decide +kernel
theorem dX1_init_92 : decode cX1_init 92 = .ok (.aload_n 0, 1) := by decide +kernel
theorem dX1_init_93 : decode cX1_init 93 = .ok (.bipush 120, 2) := by decide +kernel
theorem dX1_init_95 : decode cX1_init 95 = .ok (.newarray .int, 2) := by decide +kernel
theorem dX1_init_97 : decode cX1_init 97 = .ok (.putfield 44, 3) := by decide +kernel
theorem dX1_init_100 : decode cX1_init 100 = .ok (.aload_n 0, 1) := by decide +kernel
theorem dX1_init_101 : decode cX1_init 101 = .ok (.bipush 120, 2) := by decide +kernel
theorem dX1_init_103 : decode cX1_init 103 = .ok (.newarray .int, 2) := by decide +kernel
theorem dX1_init_105 : decode cX1_init 105 = .ok (.putfield 47, 3) := by decide +kernel
theorem dX1_init_108 : decode cX1_init 108 = .ok (.aload_n 0, 1) := by decide +kernel
theorem dX1_init_109 : decode cX1_init 109 = .ok (.bipush 120, 2) := by decide +kernel
theorem dX1_init_111 : decode cX1_init 111 = .ok (.newarray .int, 2) := by decide +kernel
theorem dX1_init_113 : decode cX1_init 113 = .ok (.putfield 50, 3) := by decide +kernel
theorem dX1_init_116 : decode cX1_init 116 = .ok (.aload_n 0, 1) := by decide +kernel
theorem dX1_init_117 : decode cX1_init 117 = .ok (.bipush 120, 2) := by decide +kernel
theorem dX1_init_119 : decode cX1_init 119 = .ok (.newarray .boolean, 2) := by decide +kernel
theorem dX1_init_121 : decode cX1_init 121 = .ok (.putfield 53, 3) := by decide +kernel
theorem dX1_init_124 : decode cX1_init 124 = .ok (.aload_n 0, 1) := by decide +kernel
theorem dX1_init_125 : decode cX1_init 125 = .ok (.bipush 120, 2) := by decide +kernel
theorem dX1_init_127 : decode cX1_init 127 = .ok (.newarray .int, 2) := by decide +kernel
theorem dX1_init_129 : decode cX1_init 129 = .ok (.putfield 56, 3) := by decide +kernel
theorem dX1_init_132 : decode cX1_init 132 = .ok (.aload_n 0, 1) := by decide +kernel
theorem dX1_init_133 : decode cX1_init 133 = .ok (.bipush 120, 2) := by decide +kernel
theorem dX1_init_135 : decode cX1_init 135 = .ok (.newarray .int, 2) := by decide +kernel
theorem dX1_init_137 : decode cX1_init 137 = .ok (.putfield 59, 3) := by decide +kernel
theorem dX1_init_140 : decode cX1_init 140 = .ok (.return_, 1) := by decide +kernel
theorem dX1_thrown_0 : decode cX1_thrown 0 = .ok (.aload_n 0, 1) := by decide +kernel
theorem dX1_thrown_1 : decode cX1_thrown 1 = .ok (.getfield 62, 3) := by decide +kernel
theorem dX1_thrown_4 : decode cX1_thrown 4 = .ok (.ireturn, 1) := by decide +kernel
theorem dX1_refused_0 : decode cX1_refused 0 = .ok (.aload_n 0, 1) := by decide +kernel
theorem dX1_refused_1 : decode cX1_refused 1 = .ok (.iload_n 1, 1) := by decide +kernel
theorem dX1_refused_2 : decode cX1_refused 2 = .ok (.putfield 62, 3) := by decide +kernel
theorem dX1_refused_5 : decode cX1_refused 5 = .ok (.iload_n 1, 1) := by decide +kernel
theorem dX1_refused_6 : decode cX1_refused 6 = .ok (.ifCond .eq 7, 3) := by decide +kernel
theorem dX1_refused_9 : decode cX1_refused 9 = .ok (.iconst 1, 1) := by decide +kernel
theorem dX1_refused_10 : decode cX1_refused 10 = .ok (.goto 4, 3) := by decide +kernel
theorem dX1_refused_13 : decode cX1_refused 13 = .ok (.iconst 0, 1) := by decide +kernel
theorem dX1_refused_14 : decode cX1_refused 14 = .ok (.ireturn, 1) := by decide +kernel
theorem dX1_fine_0 : decode cX1_fine 0 = .ok (.aload_n 0, 1) := by decide +kernel
theorem dX1_fine_1 : decode cX1_fine 1 = .ok (.iconst 0, 1) := by decide +kernel
theorem dX1_fine_2 : decode cX1_fine 2 = .ok (.putfield 62, 3) := by decide +kernel
theorem dX1_fine_5 : decode cX1_fine 5 = .ok (.iload_n 1, 1) := by decide +kernel
theorem dX1_fine_6 : decode cX1_fine 6 = .ok (.ireturn, 1) := by decide +kernel
theorem dX1_in_0 : decode cX1_in 0 = .ok (.iload_n 0, 1) := by decide +kernel
theorem dX1_in_1 : decode cX1_in 1 = .ok (.iload_n 1, 1) := by decide +kernel
theorem dX1_in_2 : decode cX1_in 2 = .ok (.if_icmp .lt 12, 3) := by decide +kernel
theorem dX1_in_5 : decode cX1_in 5 = .ok (.iload_n 0, 1) := by decide +kernel
theorem dX1_in_6 : decode cX1_in 6 = .ok (.iload_n 2, 1) := by decide +kernel
theorem dX1_in_7 : decode cX1_in 7 = .ok (.if_icmp .gt 7, 3) := by decide +kernel
theorem dX1_in_10 : decode cX1_in 10 = .ok (.iconst 1, 1) := by decide +kernel
theorem dX1_in_11 : decode cX1_in 11 = .ok (.goto 4, 3) := by decide +kernel
theorem dX1_in_14 : decode cX1_in 14 = .ok (.iconst 0, 1) := by decide +kernel
theorem dX1_in_15 : decode cX1_in 15 = .ok (.ireturn, 1) := by decide +kernel
set_option maxRecDepth 20000 in
theorem ggX1_isDevice_X1_in : GoodIn wsX1_isDevice wsX1_in := goodIn_r _ [5] (by decide +kernel) (by decide +kernel)
set_option maxRecDepth 20000 in
theorem gX1_isDevice_X1_in : GoodIn wsX1_isDevice (va_wsS RX1 69 yX1_in wsX1_in) := goodIn_app (goodIn_of _ (by decide +kernel)) ggX1_isDevice_X1_in
theorem dX1_isDevice_0 : decode cX1_isDevice 0 = .ok (.iload_n 1, 1) := by decide +kernel
theorem dX1_isDevice_1 : decode cX1_isDevice 1 = .ok (.iconst 0, 1) := by decide +kernel
theorem dX1_isDevice_2 : decode cX1_isDevice 2 = .ok (.aload_n 0, 1) := by decide +kernel
theorem dX1_isDevice_3 : decode cX1_isDevice 3 = .ok (.getfield 66, 3) := by decide +kernel
theorem dX1_isDevice_6 : decode cX1_isDevice 6 = .ok (.iconst 1, 1) := by decide +kernel
theorem dX1_isDevice_7 : decode cX1_isDevice 7 = .ok (.isub, 1) := by decide +kernel
theorem dX1_isDevice_8 : decode cX1_isDevice 8 = .ok (.invokestatic 69, 3) := by decide +kernel
theorem dX1_isDevice_11 : decode cX1_isDevice 11 = .ok (.ireturn, 1) := by decide +kernel
set_option maxRecDepth 20000 in
theorem ggX1_isNotice_X1_in : GoodIn wsX1_isNotice wsX1_in := goodIn_r _ [5] (by decide +kernel) (by decide +kernel)
set_option maxRecDepth 20000 in
theorem gX1_isNotice_X1_in : GoodIn wsX1_isNotice (va_wsS RX1 69 yX1_in wsX1_in) := goodIn_app (goodIn_of _ (by decide +kernel)) ggX1_isNotice_X1_in
theorem dX1_isNotice_0 : decode cX1_isNotice 0 = .ok (.iload_n 1, 1) := by decide +kernel
theorem dX1_isNotice_1 : decode cX1_isNotice 1 = .ok (.iconst 0, 1) := by decide +kernel
theorem dX1_isNotice_2 : decode cX1_isNotice 2 = .ok (.aload_n 0, 1) := by decide +kernel
theorem dX1_isNotice_3 : decode cX1_isNotice 3 = .ok (.getfield 73, 3) := by decide +kernel
theorem dX1_isNotice_6 : decode cX1_isNotice 6 = .ok (.iconst 1, 1) := by decide +kernel
theorem dX1_isNotice_7 : decode cX1_isNotice 7 = .ok (.isub, 1) := by decide +kernel
theorem dX1_isNotice_8 : decode cX1_isNotice 8 = .ok (.invokestatic 69, 3) := by decide +kernel
theorem dX1_isNotice_11 : decode cX1_isNotice 11 = .ok (.ireturn, 1) := by decide +kernel
theorem dX1_isQuietNow_0 : decode cX1_isQuietNow 0 = .ok (.aload_n 0, 1) := by decide +kernel
theorem dX1_isQuietNow_1 : decode cX1_isQuietNow 1 = .ok (.getfield 76, 3) := by decide +kernel
theorem dX1_isQuietNow_4 : decode cX1_isQuietNow 4 = .ok (.aload_n 0, 1) := by decide +kernel
theorem dX1_isQuietNow_5 : decode cX1_isQuietNow 5 = .ok (.getfield 13, 3) := by decide +kernel
theorem dX1_isQuietNow_8 : decode cX1_isQuietNow 8 = .ok (.iload_n 1, 1) := by decide +kernel
theorem dX1_isQuietNow_9 : decode cX1_isQuietNow 9 = .ok (.iaload, 1) := by decide +kernel
theorem dX1_isQuietNow_10 : decode cX1_isQuietNow 10 = .ok (.iadd, 1) := by decide +kernel
theorem dX1_isQuietNow_11 : decode cX1_isQuietNow 11 = .ok (.sipush 1440, 3) := by decide +kernel
theorem dX1_isQuietNow_14 : decode cX1_isQuietNow 14 = .ok (.iadd, 1) := by decide +kernel
theorem dX1_isQuietNow_15 : decode cX1_isQuietNow 15 = .ok (.sipush 1440, 3) := by decide +kernel
theorem dX1_isQuietNow_18 : decode cX1_isQuietNow 18 = .ok (.irem, 1) := by decide +kernel
theorem dX1_isQuietNow_19 : decode cX1_isQuietNow 19 = .ok (.istore_n 2, 1) := by decide +kernel
theorem dX1_isQuietNow_20 : decode cX1_isQuietNow 20 = .ok (.aload_n 0, 1) := by decide +kernel
theorem dX1_isQuietNow_21 : decode cX1_isQuietNow 21 = .ok (.getfield 26, 3) := by decide +kernel
theorem dX1_isQuietNow_24 : decode cX1_isQuietNow 24 = .ok (.iload_n 1, 1) := by decide +kernel
theorem dX1_isQuietNow_25 : decode cX1_isQuietNow 25 = .ok (.iaload, 1) := by decide +kernel
theorem dX1_isQuietNow_26 : decode cX1_isQuietNow 26 = .ok (.istore_n 3, 1) := by decide +kernel
theorem dX1_isQuietNow_27 : decode cX1_isQuietNow 27 = .ok (.aload_n 0, 1) := by decide +kernel
theorem dX1_isQuietNow_28 : decode cX1_isQuietNow 28 = .ok (.getfield 29, 3) := by decide +kernel
theorem dX1_isQuietNow_31 : decode cX1_isQuietNow 31 = .ok (.iload_n 1, 1) := by decide +kernel
theorem dX1_isQuietNow_32 : decode cX1_isQuietNow 32 = .ok (.iaload, 1) := by decide +kernel
theorem dX1_isQuietNow_33 : decode cX1_isQuietNow 33 = .ok (.istore 4, 2) := by decide +kernel
theorem dX1_isQuietNow_35 : decode cX1_isQuietNow 35 = .ok (.iload_n 3, 1) := by decide +kernel
theorem dX1_isQuietNow_36 : decode cX1_isQuietNow 36 = .ok (.iload 4, 2) := by decide +kernel
theorem dX1_isQuietNow_38 : decode cX1_isQuietNow 38 = .ok (.if_icmp .gt 22, 3) := by decide +kernel
theorem dX1_isQuietNow_41 : decode cX1_isQuietNow 41 = .ok (.iload_n 2, 1) := by decide +kernel
theorem dX1_isQuietNow_42 : decode cX1_isQuietNow 42 = .ok (.iload_n 3, 1) := by decide +kernel
theorem dX1_isQuietNow_43 : decode cX1_isQuietNow 43 = .ok (.if_icmp .lt 13, 3) := by decide +kernel
theorem dX1_isQuietNow_46 : decode cX1_isQuietNow 46 = .ok (.iload_n 2, 1) := by decide +kernel
theorem dX1_isQuietNow_47 : decode cX1_isQuietNow 47 = .ok (.iload 4, 2) := by decide +kernel
theorem dX1_isQuietNow_49 : decode cX1_isQuietNow 49 = .ok (.if_icmp .ge 7, 3) := by decide +kernel
theorem dX1_isQuietNow_52 : decode cX1_isQuietNow 52 = .ok (.iconst 1, 1) := by decide +kernel
theorem dX1_isQuietNow_53 : decode cX1_isQuietNow 53 = .ok (.goto 23, 3) := by decide +kernel
theorem dX1_isQuietNow_56 : decode cX1_isQuietNow 56 = .ok (.iconst 0, 1) := by decide +kernel
theorem dX1_isQuietNow_57 : decode cX1_isQuietNow 57 = .ok (.goto 19, 3) := by decide +kernel
theorem dX1_isQuietNow_60 : decode cX1_isQuietNow 60 = .ok (.iload_n 2, 1) := by decide +kernel
theorem dX1_isQuietNow_61 : decode cX1_isQuietNow 61 = .ok (.iload_n 3, 1) := by decide +kernel
theorem dX1_isQuietNow_62 : decode cX1_isQuietNow 62 = .ok (.if_icmp .ge 9, 3) := by decide +kernel
theorem dX1_isQuietNow_65 : decode cX1_isQuietNow 65 = .ok (.iload_n 2, 1) := by decide +kernel
theorem dX1_isQuietNow_66 : decode cX1_isQuietNow 66 = .ok (.iload 4, 2) := by decide +kernel
theorem dX1_isQuietNow_68 : decode cX1_isQuietNow 68 = .ok (.if_icmp .ge 7, 3) := by decide +kernel
theorem dX1_isQuietNow_71 : decode cX1_isQuietNow 71 = .ok (.iconst 1, 1) := by decide +kernel
theorem dX1_isQuietNow_72 : decode cX1_isQuietNow 72 = .ok (.goto 4, 3) := by decide +kernel
theorem dX1_isQuietNow_75 : decode cX1_isQuietNow 75 = .ok (.iconst 0, 1) := by decide +kernel
theorem dX1_isQuietNow_76 : decode cX1_isQuietNow 76 = .ok (.ireturn, 1) := by decide +kernel
theorem dX1_used_0 : decode cX1_used 0 = .ok (.aload_n 0, 1) := by decide +kernel
theorem dX1_used_1 : decode cX1_used 1 = .ok (.getfield 35, 3) := by decide +kernel
theorem dX1_used_4 : decode cX1_used 4 = .ok (.iload_n 1, 1) := by decide +kernel
theorem dX1_used_5 : decode cX1_used 5 = .ok (.iaload, 1) := by decide +kernel
theorem dX1_used_6 : decode cX1_used 6 = .ok (.aload_n 0, 1) := by decide +kernel
theorem dX1_used_7 : decode cX1_used 7 = .ok (.getfield 76, 3) := by decide +kernel
theorem dX1_used_10 : decode cX1_used 10 = .ok (.sipush 1440, 3) := by decide +kernel
theorem dX1_used_13 : decode cX1_used 13 = .ok (.idiv, 1) := by decide +kernel
theorem dX1_used_14 : decode cX1_used 14 = .ok (.if_icmp .ne 12, 3) := by decide +kernel
theorem dX1_used_17 : decode cX1_used 17 = .ok (.aload_n 0, 1) := by decide +kernel
theorem dX1_used_18 : decode cX1_used 18 = .ok (.getfield 38, 3) := by decide +kernel
theorem dX1_used_21 : decode cX1_used 21 = .ok (.iload_n 1, 1) := by decide +kernel
theorem dX1_used_22 : decode cX1_used 22 = .ok (.iaload, 1) := by decide +kernel
theorem dX1_used_23 : decode cX1_used 23 = .ok (.goto 4, 3) := by decide +kernel
theorem dX1_used_26 : decode cX1_used 26 = .ok (.iconst 0, 1) := by decide +kernel
theorem dX1_used_27 : decode cX1_used 27 = .ok (.ireturn, 1) := by decide +kernel
set_option maxRecDepth 20000 in
theorem ggX1_can_X1_used : GoodIn wsX1_can wsX1_used := goodIn_r _ [9, 10, 4, 11, 19, 20, 21, 22, 23, 24, 25, 26, 27, 28, 29, 30, 31, 32, 33, 34, 35, 36, 37, 38, 39, 40] (by decide +kernel) (by decide +kernel)
set_option maxRecDepth 20000 in
theorem gX1_can_X1_used : GoodIn wsX1_can (wsV RX1 79 RX1 yX1_used wsX1_used) := goodIn_app (goodIn_of _ (by decide +kernel)) ggX1_can_X1_used
set_option maxRecDepth 20000 in
theorem ggX1_can_X1_isQuietNow : GoodIn wsX1_can wsX1_isQuietNow := goodIn_r _ [15, 4, 16, 17, 18, 19, 20, 21, 22, 23, 24, 25, 26, 27, 28, 29, 30, 31, 32, 33, 34, 35, 36, 37, 38, 39, 40] (by decide +kernel) (by decide +kernel)
set_option maxRecDepth 20000 in
theorem gX1_can_X1_isQuietNow : GoodIn wsX1_can (wsV RX1 83 RX1 yX1_isQuietNow wsX1_isQuietNow) := goodIn_app (goodIn_of _ (by decide +kernel)) ggX1_can_X1_isQuietNow
theorem dX1_can_0 : decode cX1_can 0 = .ok (.aload_n 0, 1) := by decide +kernel
theorem dX1_can_1 : decode cX1_can 1 = .ok (.getfield 16, 3) := by decide +kernel
theorem dX1_can_4 : decode cX1_can 4 = .ok (.iload_n 1, 1) := by decide +kernel
theorem dX1_can_5 : decode cX1_can 5 = .ok (.baload, 1) := by decide +kernel
theorem dX1_can_6 : decode cX1_can 6 = .ok (.ifCond .ne 5, 3) := by decide +kernel
theorem dX1_can_9 : decode cX1_can 9 = .ok (.iconst 0, 1) := by decide +kernel
theorem dX1_can_10 : decode cX1_can 10 = .ok (.ireturn, 1) := by decide +kernel
theorem dX1_can_11 : decode cX1_can 11 = .ok (.aload_n 0, 1) := by decide +kernel
theorem dX1_can_12 : decode cX1_can 12 = .ok (.getfield 41, 3) := by decide +kernel
theorem dX1_can_15 : decode cX1_can 15 = .ok (.iload_n 2, 1) := by decide +kernel
theorem dX1_can_16 : decode cX1_can 16 = .ok (.baload, 1) := by decide +kernel
theorem dX1_can_17 : decode cX1_can 17 = .ok (.ifCond .eq 27, 3) := by decide +kernel
theorem dX1_can_20 : decode cX1_can 20 = .ok (.aload_n 0, 1) := by decide +kernel
theorem dX1_can_21 : decode cX1_can 21 = .ok (.getfield 20, 3) := by decide +kernel
theorem dX1_can_24 : decode cX1_can 24 = .ok (.iload_n 1, 1) := by decide +kernel
theorem dX1_can_25 : decode cX1_can 25 = .ok (.baload, 1) := by decide +kernel
theorem dX1_can_26 : decode cX1_can 26 = .ok (.ifCond .eq 12, 3) := by decide +kernel
theorem dX1_can_29 : decode cX1_can 29 = .ok (.aload_n 0, 1) := by decide +kernel
theorem dX1_can_30 : decode cX1_can 30 = .ok (.iload_n 1, 1) := by decide +kernel
theorem dX1_can_31 : decode cX1_can 31 = .ok (.invokevirtual 79, 3) := by decide +kernel
theorem dX1_can_34 : decode cX1_can 34 = .ok (.iconst 3, 1) := by decide +kernel
theorem dX1_can_35 : decode cX1_can 35 = .ok (.if_icmp .ge 7, 3) := by decide +kernel
theorem dX1_can_38 : decode cX1_can 38 = .ok (.iconst 1, 1) := by decide +kernel
theorem dX1_can_39 : decode cX1_can 39 = .ok (.goto 4, 3) := by decide +kernel
theorem dX1_can_42 : decode cX1_can 42 = .ok (.iconst 0, 1) := by decide +kernel
theorem dX1_can_43 : decode cX1_can 43 = .ok (.ireturn, 1) := by decide +kernel
theorem dX1_can_44 : decode cX1_can 44 = .ok (.aload_n 0, 1) := by decide +kernel
theorem dX1_can_45 : decode cX1_can 45 = .ok (.iload_n 1, 1) := by decide +kernel
theorem dX1_can_46 : decode cX1_can 46 = .ok (.invokevirtual 83, 3) := by decide +kernel
theorem dX1_can_49 : decode cX1_can 49 = .ok (.ifCond .ne 26, 3) := by decide +kernel
theorem dX1_can_52 : decode cX1_can 52 = .ok (.aload_n 0, 1) := by decide +kernel
theorem dX1_can_53 : decode cX1_can 53 = .ok (.getfield 20, 3) := by decide +kernel
theorem dX1_can_56 : decode cX1_can 56 = .ok (.iload_n 1, 1) := by decide +kernel
theorem dX1_can_57 : decode cX1_can 57 = .ok (.baload, 1) := by decide +kernel
theorem dX1_can_58 : decode cX1_can 58 = .ok (.ifCond .eq 13, 3) := by decide +kernel
theorem dX1_can_61 : decode cX1_can 61 = .ok (.aload_n 0, 1) := by decide +kernel
theorem dX1_can_62 : decode cX1_can 62 = .ok (.getfield 76, 3) := by decide +kernel
theorem dX1_can_65 : decode cX1_can 65 = .ok (.bipush 60, 2) := by decide +kernel
theorem dX1_can_67 : decode cX1_can 67 = .ok (.irem, 1) := by decide +kernel
theorem dX1_can_68 : decode cX1_can 68 = .ok (.ifCond .ne 7, 3) := by decide +kernel
theorem dX1_can_71 : decode cX1_can 71 = .ok (.iconst 1, 1) := by decide +kernel
theorem dX1_can_72 : decode cX1_can 72 = .ok (.goto 4, 3) := by decide +kernel
theorem dX1_can_75 : decode cX1_can 75 = .ok (.iconst 0, 1) := by decide +kernel
theorem dX1_can_76 : decode cX1_can 76 = .ok (.ireturn, 1) := by decide +kernel
set_option maxRecDepth 20000 in
theorem ggX1_deliver_X1_used : GoodIn wsX1_deliver wsX1_used := goodIn_r _ [13, 7, 8, 6, 14, 15, 16, 17, 18, 19, 20, 21, 22, 23, 24, 25, 26, 27, 28, 29, 30, 31, 32, 33, 34, 35] (by decide +kernel) (by decide +kernel)
set_option maxRecDepth 20000 in
theorem gX1_deliver_X1_used : GoodIn wsX1_deliver (wsV RX1 79 RX1 yX1_used wsX1_used) := goodIn_app (goodIn_of _ (by decide +kernel)) ggX1_deliver_X1_used
theorem dX1_deliver_0 : decode cX1_deliver 0 = .ok (.aload_n 0, 1) := by decide +kernel
theorem dX1_deliver_1 : decode cX1_deliver 1 = .ok (.getfield 56, 3) := by decide +kernel
theorem dX1_deliver_4 : decode cX1_deliver 4 = .ok (.iload_n 2, 1) := by decide +kernel
theorem dX1_deliver_5 : decode cX1_deliver 5 = .ok (.dup2, 1) := by decide +kernel
theorem dX1_deliver_6 : decode cX1_deliver 6 = .ok (.iaload, 1) := by decide +kernel
theorem dX1_deliver_7 : decode cX1_deliver 7 = .ok (.iconst 1, 1) := by decide +kernel
theorem dX1_deliver_8 : decode cX1_deliver 8 = .ok (.iload_n 1, 1) := by decide +kernel
theorem dX1_deliver_9 : decode cX1_deliver 9 = .ok (.ishl, 1) := by decide +kernel
theorem dX1_deliver_10 : decode cX1_deliver 10 = .ok (.iconst (-1), 1) := by decide +kernel
theorem dX1_deliver_11 : decode cX1_deliver 11 = .ok (.ixor, 1) := by decide +kernel
theorem dX1_deliver_12 : decode cX1_deliver 12 = .ok (.iand, 1) := by decide +kernel
theorem dX1_deliver_13 : decode cX1_deliver 13 = .ok (.iastore, 1) := by decide +kernel
theorem dX1_deliver_14 : decode cX1_deliver 14 = .ok (.aload_n 0, 1) := by decide +kernel
theorem dX1_deliver_15 : decode cX1_deliver 15 = .ok (.getfield 59, 3) := by decide +kernel
theorem dX1_deliver_18 : decode cX1_deliver 18 = .ok (.iload_n 2, 1) := by decide +kernel
theorem dX1_deliver_19 : decode cX1_deliver 19 = .ok (.dup2, 1) := by decide +kernel
theorem dX1_deliver_20 : decode cX1_deliver 20 = .ok (.iaload, 1) := by decide +kernel
theorem dX1_deliver_21 : decode cX1_deliver 21 = .ok (.iconst 1, 1) := by decide +kernel
theorem dX1_deliver_22 : decode cX1_deliver 22 = .ok (.iload_n 1, 1) := by decide +kernel
theorem dX1_deliver_23 : decode cX1_deliver 23 = .ok (.ishl, 1) := by decide +kernel
theorem dX1_deliver_24 : decode cX1_deliver 24 = .ok (.ior, 1) := by decide +kernel
theorem dX1_deliver_25 : decode cX1_deliver 25 = .ok (.iastore, 1) := by decide +kernel
theorem dX1_deliver_26 : decode cX1_deliver 26 = .ok (.aload_n 0, 1) := by decide +kernel
theorem dX1_deliver_27 : decode cX1_deliver 27 = .ok (.dup, 1) := by decide +kernel
theorem dX1_deliver_28 : decode cX1_deliver 28 = .ok (.getfield 87, 3) := by decide +kernel
theorem dX1_deliver_31 : decode cX1_deliver 31 = .ok (.iconst 1, 1) := by decide +kernel
theorem dX1_deliver_32 : decode cX1_deliver 32 = .ok (.iadd, 1) := by decide +kernel
theorem dX1_deliver_33 : decode cX1_deliver 33 = .ok (.putfield 87, 3) := by decide +kernel
theorem dX1_deliver_36 : decode cX1_deliver 36 = .ok (.aload_n 0, 1) := by decide +kernel
theorem dX1_deliver_37 : decode cX1_deliver 37 = .ok (.getfield 41, 3) := by decide +kernel
theorem dX1_deliver_40 : decode cX1_deliver 40 = .ok (.iload_n 2, 1) := by decide +kernel
theorem dX1_deliver_41 : decode cX1_deliver 41 = .ok (.baload, 1) := by decide +kernel
theorem dX1_deliver_42 : decode cX1_deliver 42 = .ok (.ifCond .eq 39, 3) := by decide +kernel
theorem dX1_deliver_45 : decode cX1_deliver 45 = .ok (.aload_n 0, 1) := by decide +kernel
theorem dX1_deliver_46 : decode cX1_deliver 46 = .ok (.getfield 20, 3) := by decide +kernel
theorem dX1_deliver_49 : decode cX1_deliver 49 = .ok (.iload_n 1, 1) := by decide +kernel
theorem dX1_deliver_50 : decode cX1_deliver 50 = .ok (.baload, 1) := by decide +kernel
theorem dX1_deliver_51 : decode cX1_deliver 51 = .ok (.ifCond .eq 30, 3) := by decide +kernel
theorem dX1_deliver_54 : decode cX1_deliver 54 = .ok (.aload_n 0, 1) := by decide +kernel
theorem dX1_deliver_55 : decode cX1_deliver 55 = .ok (.getfield 38, 3) := by decide +kernel
theorem dX1_deliver_58 : decode cX1_deliver 58 = .ok (.iload_n 1, 1) := by decide +kernel
theorem dX1_deliver_59 : decode cX1_deliver 59 = .ok (.aload_n 0, 1) := by decide +kernel
theorem dX1_deliver_60 : decode cX1_deliver 60 = .ok (.iload_n 1, 1) := by decide +kernel
theorem dX1_deliver_61 : decode cX1_deliver 61 = .ok (.invokevirtual 79, 3) := by decide +kernel
theorem dX1_deliver_64 : decode cX1_deliver 64 = .ok (.iconst 1, 1) := by decide +kernel
