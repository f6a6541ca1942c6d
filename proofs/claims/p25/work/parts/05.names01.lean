theorem dX0_read_43 : decode cX0_read 43 = .ok (.invokevirtual 132, 3) := by decide +kernel
theorem dX0_read_46 : decode cX0_read 46 = .ok (.invokestatic 135, 3) := by decide +kernel
theorem dX0_read_49 : decode cX0_read 49 = .ok (.istore_n 3, 1) := by decide +kernel
theorem dX0_read_50 : decode cX0_read 50 = .ok (.aload_n 0, 1) := by decide +kernel
theorem dX0_read_51 : decode cX0_read 51 = .ok (.iload_n 2, 1) := by decide +kernel
theorem dX0_read_52 : decode cX0_read 52 = .ok (.invokevirtual 140, 3) := by decide +kernel
theorem dX0_read_55 : decode cX0_read 55 = .ok (.iload_n 3, 1) := by decide +kernel
theorem dX0_read_56 : decode cX0_read 56 = .ok (.ireturn, 1) := by decide +kernel
theorem dX0_sent_0 : decode cX0_sent 0 = .ok (.aload_n 0, 1) := by decide +kernel
theorem dX0_sent_1 : decode cX0_sent 1 = .ok (.getfield 60, 3) := by decide +kernel
theorem dX0_sent_4 : decode cX0_sent 4 = .ok (.ireturn, 1) := by decide +kernel
set_option maxRecDepth 20000 in
theorem ggX0_stands_X0_requireNotice : GoodIn wsX0_stands wsX0_requireNotice := goodIn_ca (goodIn_r _ [5, 6, 7, 8, 15, 16, 17, 18, 19, 20, 21, 22, 23, 24, 25, 26, 27, 28, 29, 30, 31, 32, 33] (by decide +kernel) (by decide +kernel)) (goodIn_sub (fun _ h => List.mem_cons_of_mem _ (List.mem_append_right _ h)) (by decide +kernel))
set_option maxRecDepth 20000 in
theorem gX0_stands_X0_requireNotice : GoodIn wsX0_stands (wsV RX0 124 RX0 yX0_requireNotice wsX0_requireNotice) := goodIn_app (goodIn_of _ (by decide +kernel)) ggX0_stands_X0_requireNotice
set_option maxRecDepth 20000 in
theorem ggX0_stands_X0_isStanding : GoodIn wsX0_stands wsX0_isStanding := goodIn_r _ [12, 13, 14, 15, 16, 17, 18, 19, 20, 21, 22, 23, 24, 25, 26, 27, 28, 29, 30, 31, 32, 33] (by decide +kernel) (by decide +kernel)
set_option maxRecDepth 20000 in
theorem gX0_stands_X0_isStanding : GoodIn wsX0_stands (wsV RX0 127 RX0 yX0_isStanding wsX0_isStanding) := goodIn_app (goodIn_of _ (by decide +kernel)) ggX0_stands_X0_isStanding
theorem dX0_stands_0 : decode cX0_stands 0 = .ok (.aload_n 0, 1) := by decide +kernel
theorem dX0_stands_1 : decode cX0_stands 1 = .ok (.iload_n 1, 1) := by decide +kernel
theorem dX0_stands_2 : decode cX0_stands 2 = .ok (.invokevirtual 124, 3) := by decide +kernel
theorem dX0_stands_5 : decode cX0_stands 5 = .ok (.aload_n 0, 1) := by decide +kernel
theorem dX0_stands_6 : decode cX0_stands 6 = .ok (.iload_n 1, 1) := by decide +kernel
theorem dX0_stands_7 : decode cX0_stands 7 = .ok (.invokevirtual 127, 3) := by decide +kernel
theorem dX0_stands_10 : decode cX0_stands 10 = .ok (.ireturn, 1) := by decide +kernel
set_option maxRecDepth 20000 in
theorem ggX0_waitsFor_X0_requireNotice : GoodIn wsX0_waitsFor wsX0_requireNotice := goodIn_ca (goodIn_r _ [5, 6, 7, 8, 20, 21, 22, 23, 24, 25, 26, 27, 28, 29, 30, 31, 32, 33, 34, 35, 36, 37, 38] (by decide +kernel) (by decide +kernel)) (goodIn_sub (fun _ h => List.mem_cons_of_mem _ (List.mem_append_right _ h)) (by decide +kernel))
set_option maxRecDepth 20000 in
theorem gX0_waitsFor_X0_requireNotice : GoodIn wsX0_waitsFor (wsV RX0 124 RX0 yX0_requireNotice wsX0_requireNotice) := goodIn_app (goodIn_of _ (by decide +kernel)) ggX0_waitsFor_X0_requireNotice
set_option maxRecDepth 20000 in
theorem ggX0_waitsFor_X0_waitsNow : GoodIn wsX0_waitsFor wsX0_waitsNow := goodIn_r _ [12, 13, 14, 15, 16, 4, 17, 18, 19, 20, 21, 22, 23, 24, 25, 26, 27, 28, 29, 30, 31, 32, 33, 34, 35, 36, 37, 38] (by decide +kernel) (by decide +kernel)
set_option maxRecDepth 20000 in
theorem gX0_waitsFor_X0_waitsNow : GoodIn wsX0_waitsFor (wsV RX0 132 RX0 yX0_waitsNow wsX0_waitsNow) := goodIn_app (goodIn_of _ (by decide +kernel)) ggX0_waitsFor_X0_waitsNow
theorem dX0_waitsFor_0 : decode cX0_waitsFor 0 = .ok (.aload_n 0, 1) := by decide +kernel
theorem dX0_waitsFor_1 : decode cX0_waitsFor 1 = .ok (.iload_n 1, 1) := by decide +kernel
theorem dX0_waitsFor_2 : decode cX0_waitsFor 2 = .ok (.invokevirtual 124, 3) := by decide +kernel
theorem dX0_waitsFor_5 : decode cX0_waitsFor 5 = .ok (.aload_n 0, 1) := by decide +kernel
theorem dX0_waitsFor_6 : decode cX0_waitsFor 6 = .ok (.iload_n 1, 1) := by decide +kernel
theorem dX0_waitsFor_7 : decode cX0_waitsFor 7 = .ok (.invokevirtual 132, 3) := by decide +kernel
theorem dX0_waitsFor_10 : decode cX0_waitsFor 10 = .ok (.ireturn, 1) := by decide +kernel
set_option maxRecDepth 20000 in
theorem ggX0_deliveredTo_X0_requireNotice : GoodIn wsX0_deliveredTo wsX0_requireNotice := goodIn_ca (goodIn_r _ [6, 7, 8, 9, 10, 11, 12, 13, 14, 15, 16, 17, 18, 19, 20, 21, 22, 23, 24, 25, 26, 27, 28] (by decide +kernel) (by decide +kernel)) (goodIn_sub (fun _ h => List.mem_cons_of_mem _ (List.mem_append_right _ h)) (by decide +kernel))
set_option maxRecDepth 20000 in
theorem gX0_deliveredTo_X0_requireNotice : GoodIn wsX0_deliveredTo (wsV RX0 124 RX0 yX0_requireNotice wsX0_requireNotice) := goodIn_app (goodIn_of _ (by decide +kernel)) ggX0_deliveredTo_X0_requireNotice
theorem dX0_deliveredTo_0 : decode cX0_deliveredTo 0 = .ok (.aload_n 0, 1) := by decide +kernel
theorem dX0_deliveredTo_1 : decode cX0_deliveredTo 1 = .ok (.iload_n 1, 1) := by decide +kernel
theorem dX0_deliveredTo_2 : decode cX0_deliveredTo 2 = .ok (.invokevirtual 124, 3) := by decide +kernel
theorem dX0_deliveredTo_5 : decode cX0_deliveredTo 5 = .ok (.aload_n 0, 1) := by decide +kernel
theorem dX0_deliveredTo_6 : decode cX0_deliveredTo 6 = .ok (.getfield 54, 3) := by decide +kernel
theorem dX0_deliveredTo_9 : decode cX0_deliveredTo 9 = .ok (.iload_n 1, 1) := by decide +kernel
theorem dX0_deliveredTo_10 : decode cX0_deliveredTo 10 = .ok (.iaload, 1) := by decide +kernel
theorem dX0_deliveredTo_11 : decode cX0_deliveredTo 11 = .ok (.ireturn, 1) := by decide +kernel
set_option maxRecDepth 20000 in
theorem ggX0_standing_X0_requireWithin : GoodIn wsX0_standing wsX0_requireWithin := goodIn_ca (goodIn_r _ [5, 6, 7] (by decide +kernel) (by decide +kernel)) (goodIn_sub (fun _ h => List.mem_cons_of_mem _ (List.mem_append_right _ h)) (by decide +kernel))
set_option maxRecDepth 20000 in
theorem gX0_standing_X0_requireWithin : GoodIn wsX0_standing (va_wsS RX0 69 yX0_requireWithin wsX0_requireWithin) := goodIn_app (goodIn_of _ (by decide +kernel)) ggX0_standing_X0_requireWithin
set_option maxRecDepth 20000 in
theorem ggX0_standing_X0_placeOf : GoodIn wsX0_standing wsX0_placeOf := goodIn_r _ [10] (by decide +kernel) (by decide +kernel)
set_option maxRecDepth 20000 in
theorem gX0_standing_X0_placeOf : GoodIn wsX0_standing (va_wsS RX0 143 yX0_placeOf wsX0_placeOf) := goodIn_app (goodIn_of _ (by decide +kernel)) ggX0_standing_X0_placeOf
set_option maxRecDepth 20000 in
theorem ggX0_standing_X0_isStanding : GoodIn wsX0_standing wsX0_isStanding := goodIn_r _ [14, 15, 16, 17, 18, 19, 20, 21, 22, 23, 24, 25, 26, 27, 28, 29, 30, 31, 32, 33, 34, 35] (by decide +kernel) (by decide +kernel)
set_option maxRecDepth 20000 in
theorem gX0_standing_X0_isStanding : GoodIn wsX0_standing (wsV RX0 127 RX0 yX0_isStanding wsX0_isStanding) := goodIn_app (goodIn_of _ (by decide +kernel)) ggX0_standing_X0_isStanding
theorem dX0_standing_0 : decode cX0_standing 0 = .ok (.iload_n 1, 1) := by decide +kernel
theorem dX0_standing_1 : decode cX0_standing 1 = .ok (.iconst 0, 1) := by decide +kernel
theorem dX0_standing_2 : decode cX0_standing 2 = .ok (.bipush 7, 2) := by decide +kernel
theorem dX0_standing_4 : decode cX0_standing 4 = .ok (.invokestatic 69, 3) := by decide +kernel
theorem dX0_standing_7 : decode cX0_standing 7 = .ok (.iload_n 2, 1) := by decide +kernel
theorem dX0_standing_8 : decode cX0_standing 8 = .ok (.iconst 0, 1) := by decide +kernel
theorem dX0_standing_9 : decode cX0_standing 9 = .ok (.bipush 9, 2) := by decide +kernel
theorem dX0_standing_11 : decode cX0_standing 11 = .ok (.invokestatic 69, 3) := by decide +kernel
theorem dX0_standing_14 : decode cX0_standing 14 = .ok (.aload_n 0, 1) := by decide +kernel
theorem dX0_standing_15 : decode cX0_standing 15 = .ok (.getfield 57, 3) := by decide +kernel
theorem dX0_standing_18 : decode cX0_standing 18 = .ok (.iload_n 1, 1) := by decide +kernel
theorem dX0_standing_19 : decode cX0_standing 19 = .ok (.iload_n 2, 1) := by decide +kernel
theorem dX0_standing_20 : decode cX0_standing 20 = .ok (.invokestatic 143, 3) := by decide +kernel
theorem dX0_standing_23 : decode cX0_standing 23 = .ok (.iaload, 1) := by decide +kernel
theorem dX0_standing_24 : decode cX0_standing 24 = .ok (.istore_n 3, 1) := by decide +kernel
theorem dX0_standing_25 : decode cX0_standing 25 = .ok (.iload_n 3, 1) := by decide +kernel
theorem dX0_standing_26 : decode cX0_standing 26 = .ok (.iconst (-1), 1) := by decide +kernel
theorem dX0_standing_27 : decode cX0_standing 27 = .ok (.if_icmp .eq 15, 3) := by decide +kernel
theorem dX0_standing_30 : decode cX0_standing 30 = .ok (.aload_n 0, 1) := by decide +kernel
theorem dX0_standing_31 : decode cX0_standing 31 = .ok (.iload_n 3, 1) := by decide +kernel
theorem dX0_standing_32 : decode cX0_standing 32 = .ok (.invokevirtual 127, 3) := by decide +kernel
theorem dX0_standing_35 : decode cX0_standing 35 = .ok (.ifCond .eq 7, 3) := by decide +kernel
theorem dX0_standing_38 : decode cX0_standing 38 = .ok (.iload_n 3, 1) := by decide +kernel
theorem dX0_standing_39 : decode cX0_standing 39 = .ok (.goto 4, 3) := by decide +kernel
theorem dX0_standing_42 : decode cX0_standing 42 = .ok (.iconst (-1), 1) := by decide +kernel
theorem dX0_standing_43 : decode cX0_standing 43 = .ok (.ireturn, 1) := by decide +kernel
set_option maxRecDepth 20000 in
theorem ggX0_badge_X0_requireDevice : GoodIn wsX0_badge wsX0_requireDevice := goodIn_ca (goodIn_r _ [7, 8, 9, 10, 23, 24, 25, 26, 27, 28, 29, 30, 31, 32, 33, 34, 35, 36, 37, 38, 39, 40, 41] (by decide +kernel) (by decide +kernel)) (goodIn_sub (fun _ h => List.mem_cons_of_mem _ (List.mem_append_right _ h)) (by decide +kernel))
set_option maxRecDepth 20000 in
theorem gX0_badge_X0_requireDevice : GoodIn wsX0_badge (wsV RX0 84 RX0 yX0_requireDevice wsX0_requireDevice) := goodIn_app (goodIn_of _ (by decide +kernel)) ggX0_badge_X0_requireDevice
set_option maxRecDepth 20000 in
theorem ggX0_badge_X0_has : GoodIn wsX0_badge wsX0_has := goodIn_r _ [13, 14, 15, 6, 16] (by decide +kernel) (by decide +kernel)
set_option maxRecDepth 20000 in
theorem gX0_badge_X0_has : GoodIn wsX0_badge (va_wsS RX0 96 yX0_has wsX0_has) := goodIn_app (goodIn_of _ (by decide +kernel)) ggX0_badge_X0_has
set_option maxRecDepth 20000 in
theorem ggX0_badge_X0_isStanding : GoodIn wsX0_badge wsX0_isStanding := goodIn_r _ [20, 21, 22, 23, 24, 25, 26, 27, 28, 29, 30, 31, 32, 33, 34, 35, 36, 37, 38, 39, 40, 41] (by decide +kernel) (by decide +kernel)
set_option maxRecDepth 20000 in
theorem gX0_badge_X0_isStanding : GoodIn wsX0_badge (wsV RX0 127 RX0 yX0_isStanding wsX0_isStanding) := goodIn_app (goodIn_of _ (by decide +kernel)) ggX0_badge_X0_isStanding
theorem dX0_badge_0 : decode cX0_badge 0 = .ok (.aload_n 0, 1) := by decide +kernel
theorem dX0_badge_1 : decode cX0_badge 1 = .ok (.iload_n 1, 1) := by decide +kernel
theorem dX0_badge_2 : decode cX0_badge 2 = .ok (.invokevirtual 84, 3) := by decide +kernel
theorem dX0_badge_5 : decode cX0_badge 5 = .ok (.iconst 0, 1) := by decide +kernel
theorem dX0_badge_6 : decode cX0_badge 6 = .ok (.istore_n 2, 1) := by decide +kernel
theorem dX0_badge_7 : decode cX0_badge 7 = .ok (.iconst 0, 1) := by decide +kernel
theorem dX0_badge_8 : decode cX0_badge 8 = .ok (.istore_n 3, 1) := by decide +kernel
theorem dX0_badge_9 : decode cX0_badge 9 = .ok (.iload_n 3, 1) := by decide +kernel
theorem dX0_badge_10 : decode cX0_badge 10 = .ok (.aload_n 0, 1) := by decide +kernel
theorem dX0_badge_11 : decode cX0_badge 11 = .ok (.getfield 60, 3) := by decide +kernel
theorem dX0_badge_14 : decode cX0_badge 14 = .ok (.if_icmp .ge 33, 3) := by decide +kernel
theorem dX0_badge_17 : decode cX0_badge 17 = .ok (.aload_n 0, 1) := by decide +kernel
theorem dX0_badge_18 : decode cX0_badge 18 = .ok (.getfield 54, 3) := by decide +kernel
theorem dX0_badge_21 : decode cX0_badge 21 = .ok (.iload_n 3, 1) := by decide +kernel
theorem dX0_badge_22 : decode cX0_badge 22 = .ok (.iaload, 1) := by decide +kernel
theorem dX0_badge_23 : decode cX0_badge 23 = .ok (.iload_n 1, 1) := by decide +kernel
theorem dX0_badge_24 : decode cX0_badge 24 = .ok (.invokestatic 96, 3) := by decide +kernel
theorem dX0_badge_27 : decode cX0_badge 27 = .ok (.ifCond .eq 14, 3) := by decide +kernel
theorem dX0_badge_30 : decode cX0_badge 30 = .ok (.aload_n 0, 1) := by decide +kernel
theorem dX0_badge_31 : decode cX0_badge 31 = .ok (.iload_n 3, 1) := by decide +kernel
theorem dX0_badge_32 : decode cX0_badge 32 = .ok (.invokevirtual 127, 3) := by decide +kernel
theorem dX0_badge_35 : decode cX0_badge 35 = .ok (.ifCond .eq 6, 3) := by decide +kernel
theorem dX0_badge_38 : decode cX0_badge 38 = .ok (.iinc 2 1, 3) := by decide +kernel
theorem dX0_badge_41 : decode cX0_badge 41 = .ok (.iinc 3 1, 3) := by decide +kernel
theorem dX0_badge_44 : decode cX0_badge 44 = .ok (.goto (-35), 3) := by decide +kernel
theorem dX0_badge_47 : decode cX0_badge 47 = .ok (.iload_n 2, 1) := by decide +kernel
theorem dX0_badge_48 : decode cX0_badge 48 = .ok (.ireturn, 1) := by decide +kernel
set_option maxRecDepth 20000 in
theorem ggX0_waiting_X0_requireDevice : GoodIn wsX0_waiting wsX0_requireDevice := goodIn_ca (goodIn_r _ [5, 6, 7, 8, 31, 32, 33, 34, 35, 36, 37, 38, 39, 40, 41, 42, 43, 44, 45, 46, 47, 48, 49] (by decide +kernel) (by decide +kernel)) (goodIn_sub (fun _ h => List.mem_cons_of_mem _ (List.mem_append_right _ h)) (by decide +kernel))
set_option maxRecDepth 20000 in
theorem gX0_waiting_X0_requireDevice : GoodIn wsX0_waiting (wsV RX0 84 RX0 yX0_requireDevice wsX0_requireDevice) := goodIn_app (goodIn_of _ (by decide +kernel)) ggX0_waiting_X0_requireDevice
set_option maxRecDepth 20000 in
theorem ggX0_waiting_X0_countWaiting : GoodIn wsX0_waiting wsX0_countWaiting := goodIn_r _ [12, 13, 14, 15, 16, 4, 17, 18, 19, 20, 21, 22, 23, 24, 25, 26, 27, 28, 29, 30, 31, 32, 33, 34, 35, 36, 37, 38, 39, 40, 41, 42, 43, 44, 45, 46, 47, 48, 49] (by decide +kernel) (by decide +kernel)
set_option maxRecDepth 20000 in
theorem gX0_waiting_X0_countWaiting : GoodIn wsX0_waiting (wsV RX0 102 RX0 yX0_countWaiting wsX0_countWaiting) := goodIn_app (goodIn_of _ (by decide +kernel)) ggX0_waiting_X0_countWaiting
theorem dX0_waiting_0 : decode cX0_waiting 0 = .ok (.aload_n 0, 1) := by decide +kernel
theorem dX0_waiting_1 : decode cX0_waiting 1 = .ok (.iload_n 1, 1) := by decide +kernel
theorem dX0_waiting_2 : decode cX0_waiting 2 = .ok (.invokevirtual 84, 3) := by decide +kernel
theorem dX0_waiting_5 : decode cX0_waiting 5 = .ok (.aload_n 0, 1) := by decide +kernel
theorem dX0_waiting_6 : decode cX0_waiting 6 = .ok (.iload_n 1, 1) := by decide +kernel
theorem dX0_waiting_7 : decode cX0_waiting 7 = .ok (.invokevirtual 102, 3) := by decide +kernel
theorem dX0_waiting_10 : decode cX0_waiting 10 = .ok (.ireturn, 1) := by decide +kernel
set_option maxRecDepth 20000 in
theorem ggX0_quota_X0_requireDevice : GoodIn wsX0_quota wsX0_requireDevice := goodIn_ca (goodIn_r _ [5, 6, 7, 8, 16, 17, 18, 19, 20, 21, 22, 23, 24, 25, 26, 27, 28, 29, 30, 31, 32, 33, 34] (by decide +kernel) (by decide +kernel)) (goodIn_sub (fun _ h => List.mem_cons_of_mem _ (List.mem_append_right _ h)) (by decide +kernel))
set_option maxRecDepth 20000 in
theorem gX0_quota_X0_requireDevice : GoodIn wsX0_quota (wsV RX0 84 RX0 yX0_requireDevice wsX0_requireDevice) := goodIn_app (goodIn_of _ (by decide +kernel)) ggX0_quota_X0_requireDevice
set_option maxRecDepth 20000 in
theorem ggX0_quota_X0_spentToday : GoodIn wsX0_quota wsX0_spentToday := goodIn_r _ [12, 13, 14, 15, 16, 17, 18, 19, 20, 21, 22, 23, 24, 25, 26, 27, 28, 29, 30, 31, 32, 33, 34] (by decide +kernel) (by decide +kernel)
set_option maxRecDepth 20000 in
theorem gX0_quota_X0_spentToday : GoodIn wsX0_quota (wsV RX0 147 RX0 yX0_spentToday wsX0_spentToday) := goodIn_app (goodIn_of _ (by decide +kernel)) ggX0_quota_X0_spentToday
theorem dX0_quota_0 : decode cX0_quota 0 = .ok (.aload_n 0, 1) := by decide +kernel
theorem dX0_quota_1 : decode cX0_quota 1 = .ok (.iload_n 1, 1) := by decide +kernel
theorem dX0_quota_2 : decode cX0_quota 2 = .ok (.invokevirtual 84, 3) := by decide +kernel
theorem dX0_quota_5 : decode cX0_quota 5 = .ok (.iconst 3, 1) := by decide +kernel
theorem dX0_quota_6 : decode cX0_quota 6 = .ok (.aload_n 0, 1) := by decide +kernel
theorem dX0_quota_7 : decode cX0_quota 7 = .ok (.iload_n 1, 1) := by decide +kernel
theorem dX0_quota_8 : decode cX0_quota 8 = .ok (.invokevirtual 147, 3) := by decide +kernel
theorem dX0_quota_11 : decode cX0_quota 11 = .ok (.isub, 1) := by decide +kernel
theorem dX0_quota_12 : decode cX0_quota 12 = .ok (.ireturn, 1) := by decide +kernel
set_option maxRecDepth 20000 in
theorem ggX0_pass_X0_requireWithin : GoodIn wsX0_pass wsX0_requireWithin := goodIn_ca (goodIn_r _ [12, 13, 14] (by decide +kernel) (by decide +kernel)) (goodIn_sub (fun _ h => List.mem_cons_of_mem _ (List.mem_append_right _ h)) (by decide +kernel))
set_option maxRecDepth 20000 in
theorem gX0_pass_X0_requireWithin : GoodIn wsX0_pass (va_wsS RX0 69 yX0_requireWithin wsX0_requireWithin) := goodIn_app (goodIn_of _ (by decide +kernel)) ggX0_pass_X0_requireWithin
set_option maxRecDepth 20000 in
theorem ggX0_pass_X0_nextChance : GoodIn wsX0_pass wsX0_nextChance := goodIn_r _ [18, 3, 19, 20, 5, 6, 7, 8, 21, 22, 23, 11, 24, 25, 26, 27, 28, 29, 30, 31, 32, 33, 34, 93, 94, 95, 96, 97, 98, 99, 100, 101, 102, 103, 104, 105, 106, 107, 108, 109, 110, 111] (by decide +kernel) (by decide +kernel)
set_option maxRecDepth 20000 in
theorem gX0_pass_X0_nextChance : GoodIn wsX0_pass (wsV RX0 153 RX0 yX0_nextChance wsX0_nextChance) := goodIn_app (goodIn_of _ (by decide +kernel)) ggX0_pass_X0_nextChance
set_option maxRecDepth 20000 in
theorem ggX0_pass_X0_deliverNow : GoodIn wsX0_pass wsX0_deliverNow := goodIn_r _ [38, 39, 40, 41, 42, 43, 44, 11, 45, 3, 46, 47, 19, 21, 22, 23, 24, 25, 20, 26, 27, 28, 29, 30, 31, 32, 33, 34, 48, 49, 50, 51, 52, 53, 54, 55, 56, 57, 58, 59, 60, 61, 62, 63, 64, 65, 66, 67, 68, 69, 70, 71, 72, 73, 74, 75, 76, 77, 78, 79, 80, 81, 82, 83, 84, 85, 86, 87, 88, 89, 90, 91, 92, 93, 94, 95, 96, 97, 98, 99, 100, 101, 102, 103, 104, 105, 106, 107, 108, 109, 110, 111] (by decide +kernel) (by decide +kernel)
set_option maxRecDepth 20000 in
theorem gX0_pass_X0_deliverNow : GoodIn wsX0_pass (wsV RX0 92 RX0 yX0_deliverNow wsX0_deliverNow) := goodIn_app (goodIn_of _ (by decide +kernel)) ggX0_pass_X0_deliverNow
theorem dX0_pass_0 : decode cX0_pass 0 = .ok (.iload_n 1, 1) := by decide +kernel
theorem dX0_pass_1 : decode cX0_pass 1 = .ok (.iconst 1, 1) := by decide +kernel
theorem dX0_pass_2 : decode cX0_pass 2 = .ok (.sipush 3000, 3) := by decide +kernel
theorem dX0_pass_5 : decode cX0_pass 5 = .ok (.invokestatic 69, 3) := by decide +kernel
theorem dX0_pass_8 : decode cX0_pass 8 = .ok (.aload_n 0, 1) := by decide +kernel
theorem dX0_pass_9 : decode cX0_pass 9 = .ok (.getfield 63, 3) := by decide +kernel
theorem dX0_pass_12 : decode cX0_pass 12 = .ok (.iload_n 1, 1) := by decide +kernel
theorem dX0_pass_13 : decode cX0_pass 13 = .ok (.iadd, 1) := by decide +kernel
theorem dX0_pass_14 : decode cX0_pass 14 = .ok (.ldc 150, 2) := by decide +kernel
theorem dX0_pass_16 : decode cX0_pass 16 = .ok (.if_icmp .le 13, 3) := by decide +kernel
theorem dX0_pass_19 : decode cX0_pass 19 = .ok (.new 73, 3) := by decide +kernel
theorem dX0_pass_22 : decode cX0_pass 22 = .ok (.dup, 1) := by decide +kernel
theorem dX0_pass_23 : decode cX0_pass 23 = .ok (.ldc 151, 2) := by decide +kernel
theorem dX0_pass_25 : decode cX0_pass 25 = .ok (.invokespecial 77, 3) := by decide +kernel
theorem dX0_pass_28 : decode cX0_pass 28 = .ok (.athrow, 1) := by decide +kernel
theorem dX0_pass_29 : decode cX0_pass 29 = .ok (.aload_n 0, 1) := by decide +kernel
theorem dX0_pass_30 : decode cX0_pass 30 = .ok (.getfield 63, 3) := by decide +kernel
theorem dX0_pass_33 : decode cX0_pass 33 = .ok (.iload_n 1, 1) := by decide +kernel
theorem dX0_pass_34 : decode cX0_pass 34 = .ok (.iadd, 1) := by decide +kernel
theorem dX0_pass_35 : decode cX0_pass 35 = .ok (.istore_n 2, 1) := by decide +kernel
theorem dX0_pass_36 : decode cX0_pass 36 = .ok (.iconst 0, 1) := by decide +kernel
theorem dX0_pass_37 : decode cX0_pass 37 = .ok (.istore_n 3, 1) := by decide +kernel
theorem dX0_pass_38 : decode cX0_pass 38 = .ok (.iconst 0, 1) := by decide +kernel
theorem dX0_pass_39 : decode cX0_pass 39 = .ok (.istore 4, 2) := by decide +kernel
theorem dX0_pass_41 : decode cX0_pass 41 = .ok (.iload 4, 2) := by decide +kernel
theorem dX0_pass_43 : decode cX0_pass 43 = .ok (.iload_n 1, 1) := by decide +kernel
theorem dX0_pass_44 : decode cX0_pass 44 = .ok (.if_icmp .ge 36, 3) := by decide +kernel
theorem dX0_pass_47 : decode cX0_pass 47 = .ok (.aload_n 0, 1) := by decide +kernel
theorem dX0_pass_48 : decode cX0_pass 48 = .ok (.getfield 63, 3) := by decide +kernel
theorem dX0_pass_51 : decode cX0_pass 51 = .ok (.iload_n 2, 1) := by decide +kernel
theorem dX0_pass_52 : decode cX0_pass 52 = .ok (.if_icmp .ge 28, 3) := by decide +kernel
theorem dX0_pass_55 : decode cX0_pass 55 = .ok (.aload_n 0, 1) := by decide +kernel
theorem dX0_pass_56 : decode cX0_pass 56 = .ok (.iload_n 2, 1) := by decide +kernel
theorem dX0_pass_57 : decode cX0_pass 57 = .ok (.aload_n 0, 1) := by decide +kernel
theorem dX0_pass_58 : decode cX0_pass 58 = .ok (.invokevirtual 153, 3) := by decide +kernel
theorem dX0_pass_61 : decode cX0_pass 61 = .ok (.invokestatic 156, 3) := by decide +kernel
theorem dX0_pass_64 : decode cX0_pass 64 = .ok (.putfield 63, 3) := by decide +kernel
theorem dX0_pass_67 : decode cX0_pass 67 = .ok (.iload_n 3, 1) := by decide +kernel
theorem dX0_pass_68 : decode cX0_pass 68 = .ok (.aload_n 0, 1) := by decide +kernel
theorem dX0_pass_69 : decode cX0_pass 69 = .ok (.invokevirtual 92, 3) := by decide +kernel
theorem dX0_pass_72 : decode cX0_pass 72 = .ok (.iadd, 1) := by decide +kernel
theorem dX0_pass_73 : decode cX0_pass 73 = .ok (.istore_n 3, 1) := by decide +kernel
theorem dX0_pass_74 : decode cX0_pass 74 = .ok (.iinc 4 1, 3) := by decide +kernel
theorem dX0_pass_77 : decode cX0_pass 77 = .ok (.goto (-36), 3) := by decide +kernel
theorem dX0_pass_80 : decode cX0_pass 80 = .ok (.iload_n 3, 1) := by decide +kernel
theorem dX0_pass_81 : decode cX0_pass 81 = .ok (.ireturn, 1) := by decide +kernel
theorem dX0_clock_0 : decode cX0_clock 0 = .ok (.aload_n 0, 1) := by decide +kernel
theorem dX0_clock_1 : decode cX0_clock 1 = .ok (.getfield 63, 3) := by decide +kernel
theorem dX0_clock_4 : decode cX0_clock 4 = .ok (.ireturn, 1) := by decide +kernel
theorem dX0_deliveries_0 : decode cX0_deliveries 0 = .ok (.aload_n 0, 1) := by decide +kernel
theorem dX0_deliveries_1 : decode cX0_deliveries 1 = .ok (.getfield 66, 3) := by decide +kernel
theorem dX0_deliveries_4 : decode cX0_deliveries 4 = .ok (.ireturn, 1) := by decide +kernel
theorem dX0_requireWithin_0 : decode cX0_requireWithin 0 = .ok (.iload_n 0, 1) := by decide +kernel
theorem dX0_requireWithin_1 : decode cX0_requireWithin 1 = .ok (.iload_n 1, 1) := by decide +kernel
theorem dX0_requireWithin_2 : decode cX0_requireWithin 2 = .ok (.if_icmp .lt 8, 3) := by decide +kernel
theorem dX0_requireWithin_5 : decode cX0_requireWithin 5 = .ok (.iload_n 0, 1) := by decide +kernel
theorem dX0_requireWithin_6 : decode cX0_requireWithin 6 = .ok (.iload_n 2, 1) := by decide +kernel
theorem dX0_requireWithin_7 : decode cX0_requireWithin 7 = .ok (.if_icmp .le 13, 3) := by decide +kernel
theorem dX0_requireWithin_10 : decode cX0_requireWithin 10 = .ok (.new 161, 3) := by decide +kernel
theorem dX0_requireWithin_13 : decode cX0_requireWithin 13 = .ok (.dup, 1) := by decide +kernel
theorem dX0_requireWithin_14 : decode cX0_requireWithin 14 = .ok (.ldc 163, 2) := by decide +kernel
theorem dX0_requireWithin_16 : decode cX0_requireWithin 16 = .ok (.invokespecial 165, 3) := by decide +kernel
theorem dX0_requireWithin_19 : decode cX0_requireWithin 19 = .ok (.athrow, 1) := by decide +kernel
theorem dX0_requireWithin_20 : decode cX0_requireWithin 20 = .ok (.return_, 1) := by decide +kernel
theorem dX0_requireDevice_0 : decode cX0_requireDevice 0 = .ok (.iload_n 1, 1) := by decide +kernel
theorem dX0_requireDevice_1 : decode cX0_requireDevice 1 = .ok (.ifCond .lt 11, 3) := by decide +kernel
theorem dX0_requireDevice_4 : decode cX0_requireDevice 4 = .ok (.iload_n 1, 1) := by decide +kernel
theorem dX0_requireDevice_5 : decode cX0_requireDevice 5 = .ok (.aload_n 0, 1) := by decide +kernel
theorem dX0_requireDevice_6 : decode cX0_requireDevice 6 = .ok (.getfield 41, 3) := by decide +kernel
theorem dX0_requireDevice_9 : decode cX0_requireDevice 9 = .ok (.if_icmp .lt 13, 3) := by decide +kernel
theorem dX0_requireDevice_12 : decode cX0_requireDevice 12 = .ok (.new 166, 3) := by decide +kernel
theorem dX0_requireDevice_15 : decode cX0_requireDevice 15 = .ok (.dup, 1) := by decide +kernel
theorem dX0_requireDevice_16 : decode cX0_requireDevice 16 = .ok (.ldc 168, 2) := by decide +kernel
theorem dX0_requireDevice_18 : decode cX0_requireDevice 18 = .ok (.invokespecial 170, 3) := by decide +kernel
theorem dX0_requireDevice_21 : decode cX0_requireDevice 21 = .ok (.athrow, 1) := by decide +kernel
theorem dX0_requireDevice_22 : decode cX0_requireDevice 22 = .ok (.return_, 1) := by decide +kernel
theorem dX0_requireNotice_0 : decode cX0_requireNotice 0 = .ok (.iload_n 1, 1) := by decide +kernel
theorem dX0_requireNotice_1 : decode cX0_requireNotice 1 = .ok (.ifCond .lt 11, 3) := by decide +kernel
theorem dX0_requireNotice_4 : decode cX0_requireNotice 4 = .ok (.iload_n 1, 1) := by decide +kernel
theorem dX0_requireNotice_5 : decode cX0_requireNotice 5 = .ok (.aload_n 0, 1) := by decide +kernel
theorem dX0_requireNotice_6 : decode cX0_requireNotice 6 = .ok (.getfield 60, 3) := by decide +kernel
theorem dX0_requireNotice_9 : decode cX0_requireNotice 9 = .ok (.if_icmp .lt 13, 3) := by decide +kernel
theorem dX0_requireNotice_12 : decode cX0_requireNotice 12 = .ok (.new 166, 3) := by decide +kernel
theorem dX0_requireNotice_15 : decode cX0_requireNotice 15 = .ok (.dup, 1) := by decide +kernel
theorem dX0_requireNotice_16 : decode cX0_requireNotice 16 = .ok (.ldc 171, 2) := by decide +kernel
theorem dX0_requireNotice_18 : decode cX0_requireNotice 18 = .ok (.invokespecial 170, 3) := by decide +kernel
theorem dX0_requireNotice_21 : decode cX0_requireNotice 21 = .ok (.athrow, 1) := by decide +kernel
theorem dX0_requireNotice_22 : decode cX0_requireNotice 22 = .ok (.return_, 1) := by decide +kernel
theorem dX0_requireRoomForNotice_0 : decode cX0_requireRoomForNotice 0 = .ok (.aload_n 0, 1) := by decide +kernel
theorem dX0_requireRoomForNotice_1 : decode cX0_requireRoomForNotice 1 = .ok (.getfield 60, 3) := by decide +kernel
theorem dX0_requireRoomForNotice_4 : decode cX0_requireRoomForNotice 4 = .ok (.bipush 120, 2) := by decide +kernel
theorem dX0_requireRoomForNotice_6 : decode cX0_requireRoomForNotice 6 = .ok (.if_icmp .lt 13, 3) := by decide +kernel
theorem dX0_requireRoomForNotice_9 : decode cX0_requireRoomForNotice 9 = .ok (.new 73, 3) := by decide +kernel
theorem dX0_requireRoomForNotice_12 : decode cX0_requireRoomForNotice 12 = .ok (.dup, 1) := by decide +kernel
theorem dX0_requireRoomForNotice_13 : decode cX0_requireRoomForNotice 13 = .ok (.ldc 173, 2) := by decide +kernel
theorem dX0_requireRoomForNotice_15 : decode cX0_requireRoomForNotice 15 = .ok (.invokespecial 77, 3) := by decide +kernel
theorem dX0_requireRoomForNotice_18 : decode cX0_requireRoomForNotice 18 = .ok (.athrow, 1) := by decide +kernel
theorem dX0_requireRoomForNotice_19 : decode cX0_requireRoomForNotice 19 = .ok (.return_, 1) := by decide +kernel
theorem dX0_bitOf_0 : decode cX0_bitOf 0 = .ok (.iconst 1, 1) := by decide +kernel
theorem dX0_bitOf_1 : decode cX0_bitOf 1 = .ok (.iload_n 0, 1) := by decide +kernel
theorem dX0_bitOf_2 : decode cX0_bitOf 2 = .ok (.ishl, 1) := by decide +kernel
theorem dX0_bitOf_3 : decode cX0_bitOf 3 = .ok (.ireturn, 1) := by decide +kernel
set_option maxRecDepth 20000 in
theorem ggX0_has_X0_bitOf : GoodIn wsX0_has wsX0_bitOf := goodIn_r _ [4] (by decide +kernel) (by decide +kernel)
set_option maxRecDepth 20000 in
theorem gX0_has_X0_bitOf : GoodIn wsX0_has (va_wsS RX0 80 yX0_bitOf wsX0_bitOf) := goodIn_app (goodIn_of _ (by decide +kernel)) ggX0_has_X0_bitOf
theorem dX0_has_0 : decode cX0_has 0 = .ok (.iload_n 0, 1) := by decide +kernel
theorem dX0_has_1 : decode cX0_has 1 = .ok (.iload_n 1, 1) := by decide +kernel
theorem dX0_has_2 : decode cX0_has 2 = .ok (.invokestatic 80, 3) := by decide +kernel
theorem dX0_has_5 : decode cX0_has 5 = .ok (.iand, 1) := by decide +kernel
theorem dX0_has_6 : decode cX0_has 6 = .ok (.ifCond .eq 7, 3) := by decide +kernel
theorem dX0_has_9 : decode cX0_has 9 = .ok (.iconst 1, 1) := by decide +kernel
theorem dX0_has_10 : decode cX0_has 10 = .ok (.goto 4, 3) := by decide +kernel
theorem dX0_has_13 : decode cX0_has 13 = .ok (.iconst 0, 1) := by decide +kernel
theorem dX0_has_14 : decode cX0_has 14 = .ok (.ireturn, 1) := by decide +kernel
set_option maxRecDepth 20000 in
theorem ggX0_changed_X0_bitOf : GoodIn wsX0_changed wsX0_bitOf := goodIn_r _ [4] (by decide +kernel) (by decide +kernel)
set_option maxRecDepth 20000 in
theorem gX0_changed_X0_bitOf : GoodIn wsX0_changed (va_wsS RX0 80 yX0_bitOf wsX0_bitOf) := goodIn_app (goodIn_of _ (by decide +kernel)) ggX0_changed_X0_bitOf
theorem dX0_changed_0 : decode cX0_changed 0 = .ok (.iload_n 2, 1) := by decide +kernel
theorem dX0_changed_1 : decode cX0_changed 1 = .ok (.ifCond .eq 12, 3) := by decide +kernel
theorem dX0_changed_4 : decode cX0_changed 4 = .ok (.iload_n 0, 1) := by decide +kernel
theorem dX0_changed_5 : decode cX0_changed 5 = .ok (.iload_n 1, 1) := by decide +kernel
theorem dX0_changed_6 : decode cX0_changed 6 = .ok (.invokestatic 80, 3) := by decide +kernel
theorem dX0_changed_9 : decode cX0_changed 9 = .ok (.ior, 1) := by decide +kernel
theorem dX0_changed_10 : decode cX0_changed 10 = .ok (.goto 11, 3) := by decide +kernel
theorem dX0_changed_13 : decode cX0_changed 13 = .ok (.iload_n 0, 1) := by decide +kernel
theorem dX0_changed_14 : decode cX0_changed 14 = .ok (.iload_n 1, 1) := by decide +kernel
theorem dX0_changed_15 : decode cX0_changed 15 = .ok (.invokestatic 80, 3) := by decide +kernel
theorem dX0_changed_18 : decode cX0_changed 18 = .ok (.iconst (-1), 1) := by decide +kernel
theorem dX0_changed_19 : decode cX0_changed 19 = .ok (.ixor, 1) := by decide +kernel
theorem dX0_changed_20 : decode cX0_changed 20 = .ok (.iand, 1) := by decide +kernel
theorem dX0_changed_21 : decode cX0_changed 21 = .ok (.ireturn, 1) := by decide +kernel
theorem dX0_devicesThatFulfil_0 : decode cX0_devicesThatFulfil 0 = .ok (.iload_n 1, 1) := by decide +kernel
theorem dX0_devicesThatFulfil_1 : decode cX0_devicesThatFulfil 1 = .ok (.lookupswitch 55 #[(0, 27), (1, 41)], 27) := by decide +kernel
theorem dX0_devicesThatFulfil_28 : decode cX0_devicesThatFulfil 28 = .ok (.aload_n 0, 1) := by decide +kernel
theorem dX0_devicesThatFulfil_29 : decode cX0_devicesThatFulfil 29 = .ok (.getfield 13, 3) := by decide +kernel
theorem dX0_devicesThatFulfil_32 : decode cX0_devicesThatFulfil 32 = .ok (.iload_n 2, 1) := by decide +kernel
theorem dX0_devicesThatFulfil_33 : decode cX0_devicesThatFulfil 33 = .ok (.iaload, 1) := by decide +kernel
theorem dX0_devicesThatFulfil_34 : decode cX0_devicesThatFulfil 34 = .ok (.aload_n 0, 1) := by decide +kernel
theorem dX0_devicesThatFulfil_35 : decode cX0_devicesThatFulfil 35 = .ok (.getfield 13, 3) := by decide +kernel
theorem dX0_devicesThatFulfil_38 : decode cX0_devicesThatFulfil 38 = .ok (.iload_n 3, 1) := by decide +kernel
theorem dX0_devicesThatFulfil_39 : decode cX0_devicesThatFulfil 39 = .ok (.iaload, 1) := by decide +kernel
theorem dX0_devicesThatFulfil_40 : decode cX0_devicesThatFulfil 40 = .ok (.iand, 1) := by decide +kernel
theorem dX0_devicesThatFulfil_41 : decode cX0_devicesThatFulfil 41 = .ok (.ireturn, 1) := by decide +kernel
theorem dX0_devicesThatFulfil_42 : decode cX0_devicesThatFulfil 42 = .ok (.aload_n 0, 1) := by decide +kernel
theorem dX0_devicesThatFulfil_43 : decode cX0_devicesThatFulfil 43 = .ok (.getfield 13, 3) := by decide +kernel
theorem dX0_devicesThatFulfil_46 : decode cX0_devicesThatFulfil 46 = .ok (.iload_n 2, 1) := by decide +kernel
theorem dX0_devicesThatFulfil_47 : decode cX0_devicesThatFulfil 47 = .ok (.iaload, 1) := by decide +kernel
theorem dX0_devicesThatFulfil_48 : decode cX0_devicesThatFulfil 48 = .ok (.aload_n 0, 1) := by decide +kernel
theorem dX0_devicesThatFulfil_49 : decode cX0_devicesThatFulfil 49 = .ok (.getfield 13, 3) := by decide +kernel
theorem dX0_devicesThatFulfil_52 : decode cX0_devicesThatFulfil 52 = .ok (.iload_n 3, 1) := by decide +kernel
theorem dX0_devicesThatFulfil_53 : decode cX0_devicesThatFulfil 53 = .ok (.iaload, 1) := by decide +kernel
theorem dX0_devicesThatFulfil_54 : decode cX0_devicesThatFulfil 54 = .ok (.ior, 1) := by decide +kernel
theorem dX0_devicesThatFulfil_55 : decode cX0_devicesThatFulfil 55 = .ok (.ireturn, 1) := by decide +kernel
theorem dX0_devicesThatFulfil_56 : decode cX0_devicesThatFulfil 56 = .ok (.aload_n 0, 1) := by decide +kernel
theorem dX0_devicesThatFulfil_57 : decode cX0_devicesThatFulfil 57 = .ok (.getfield 13, 3) := by decide +kernel
theorem dX0_devicesThatFulfil_60 : decode cX0_devicesThatFulfil 60 = .ok (.iload_n 2, 1) := by decide +kernel
theorem dX0_devicesThatFulfil_61 : decode cX0_devicesThatFulfil 61 = .ok (.iaload, 1) := by decide +kernel
theorem dX0_devicesThatFulfil_62 : decode cX0_devicesThatFulfil 62 = .ok (.aload_n 0, 1) := by decide +kernel
theorem dX0_devicesThatFulfil_63 : decode cX0_devicesThatFulfil 63 = .ok (.getfield 13, 3) := by decide +kernel
theorem dX0_devicesThatFulfil_66 : decode cX0_devicesThatFulfil 66 = .ok (.iload_n 3, 1) := by decide +kernel
theorem dX0_devicesThatFulfil_67 : decode cX0_devicesThatFulfil 67 = .ok (.iaload, 1) := by decide +kernel
theorem dX0_devicesThatFulfil_68 : decode cX0_devicesThatFulfil 68 = .ok (.iconst (-1), 1) := by decide +kernel
theorem dX0_devicesThatFulfil_69 : decode cX0_devicesThatFulfil 69 = .ok (.ixor, 1) := by decide +kernel
theorem dX0_devicesThatFulfil_70 : decode cX0_devicesThatFulfil 70 = .ok (.iand, 1) := by decide +kernel
theorem dX0_devicesThatFulfil_71 : decode cX0_devicesThatFulfil 71 = .ok (.ireturn, 1) := by decide +kernel
theorem dX0_placeOf_0 : decode cX0_placeOf 0 = .ok (.iload_n 0, 1) := by decide +kernel
theorem dX0_placeOf_1 : decode cX0_placeOf 1 = .ok (.bipush 10, 2) := by decide +kernel
theorem dX0_placeOf_3 : decode cX0_placeOf 3 = .ok (.imul, 1) := by decide +kernel
theorem dX0_placeOf_4 : decode cX0_placeOf 4 = .ok (.iload_n 1, 1) := by decide +kernel
theorem dX0_placeOf_5 : decode cX0_placeOf 5 = .ok (.iadd, 1) := by decide +kernel
theorem dX0_placeOf_6 : decode cX0_placeOf 6 = .ok (.ireturn, 1) := by decide +kernel
set_option maxRecDepth 20000 in
theorem ggX0_replaceKey_X0_placeOf : GoodIn wsX0_replaceKey wsX0_placeOf := goodIn_r _ [6] (by decide +kernel) (by decide +kernel)
set_option maxRecDepth 20000 in
theorem gX0_replaceKey_X0_placeOf : GoodIn wsX0_replaceKey (va_wsS RX0 143 yX0_placeOf wsX0_placeOf) := goodIn_app (goodIn_of _ (by decide +kernel)) ggX0_replaceKey_X0_placeOf
set_option maxRecDepth 20000 in
theorem ggX0_replaceKey_X0_isStanding : GoodIn wsX0_replaceKey wsX0_isStanding := goodIn_r _ [10, 11, 12, 17, 18, 19, 20, 21, 22, 23, 24, 25, 26, 27, 28, 29, 30, 31, 32, 33, 34, 35] (by decide +kernel) (by decide +kernel)
set_option maxRecDepth 20000 in
theorem gX0_replaceKey_X0_isStanding : GoodIn wsX0_replaceKey (wsV RX0 127 RX0 yX0_isStanding wsX0_isStanding) := goodIn_app (goodIn_of _ (by decide +kernel)) ggX0_replaceKey_X0_isStanding
set_option maxRecDepth 20000 in
theorem ggX0_replaceKey_X0_withdraw : GoodIn wsX0_replaceKey wsX0_withdraw := goodIn_r _ [16, 12, 11, 17, 18, 19, 20, 21, 22, 23, 24, 25, 26, 27, 28, 29, 30, 31, 32, 33, 34, 35] (by decide +kernel) (by decide +kernel)
set_option maxRecDepth 20000 in
theorem gX0_replaceKey_X0_withdraw : GoodIn wsX0_replaceKey (wsV RX0 140 RX0 yX0_withdraw wsX0_withdraw) := goodIn_app (goodIn_of _ (by decide +kernel)) ggX0_replaceKey_X0_withdraw
theorem dX0_replaceKey_0 : decode cX0_replaceKey 0 = .ok (.iload_n 1, 1) := by decide +kernel
theorem dX0_replaceKey_1 : decode cX0_replaceKey 1 = .ok (.iload_n 2, 1) := by decide +kernel
theorem dX0_replaceKey_2 : decode cX0_replaceKey 2 = .ok (.invokestatic 143, 3) := by decide +kernel
theorem dX0_replaceKey_5 : decode cX0_replaceKey 5 = .ok (.istore_n 3, 1) := by decide +kernel
theorem dX0_replaceKey_6 : decode cX0_replaceKey 6 = .ok (.aload_n 0, 1) := by decide +kernel
theorem dX0_replaceKey_7 : decode cX0_replaceKey 7 = .ok (.getfield 57, 3) := by decide +kernel
theorem dX0_replaceKey_10 : decode cX0_replaceKey 10 = .ok (.iload_n 3, 1) := by decide +kernel
theorem dX0_replaceKey_11 : decode cX0_replaceKey 11 = .ok (.iaload, 1) := by decide +kernel
theorem dX0_replaceKey_12 : decode cX0_replaceKey 12 = .ok (.istore 4, 2) := by decide +kernel
theorem dX0_replaceKey_14 : decode cX0_replaceKey 14 = .ok (.iload 4, 2) := by decide +kernel
theorem dX0_replaceKey_16 : decode cX0_replaceKey 16 = .ok (.iconst (-1), 1) := by decide +kernel
theorem dX0_replaceKey_17 : decode cX0_replaceKey 17 = .ok (.if_icmp .eq 18, 3) := by decide +kernel
theorem dX0_replaceKey_20 : decode cX0_replaceKey 20 = .ok (.aload_n 0, 1) := by decide +kernel
theorem dX0_replaceKey_21 : decode cX0_replaceKey 21 = .ok (.iload 4, 2) := by decide +kernel
theorem dX0_replaceKey_23 : decode cX0_replaceKey 23 = .ok (.invokevirtual 127, 3) := by decide +kernel
theorem dX0_replaceKey_26 : decode cX0_replaceKey 26 = .ok (.ifCond .eq 9, 3) := by decide +kernel
theorem dX0_replaceKey_29 : decode cX0_replaceKey 29 = .ok (.aload_n 0, 1) := by decide +kernel
theorem dX0_replaceKey_30 : decode cX0_replaceKey 30 = .ok (.iload 4, 2) := by decide +kernel
theorem dX0_replaceKey_32 : decode cX0_replaceKey 32 = .ok (.invokevirtual 140, 3) := by decide +kernel
theorem dX0_replaceKey_35 : decode cX0_replaceKey 35 = .ok (.aload_n 0, 1) := by decide +kernel
theorem dX0_replaceKey_36 : decode cX0_replaceKey 36 = .ok (.getfield 57, 3) := by decide +kernel
theorem dX0_replaceKey_39 : decode cX0_replaceKey 39 = .ok (.iload_n 3, 1) := by decide +kernel
theorem dX0_replaceKey_40 : decode cX0_replaceKey 40 = .ok (.aload_n 0, 1) := by decide +kernel
theorem dX0_replaceKey_41 : decode cX0_replaceKey 41 = .ok (.getfield 60, 3) := by decide +kernel
theorem dX0_replaceKey_44 : decode cX0_replaceKey 44 = .ok (.iastore, 1) := by decide +kernel
theorem dX0_replaceKey_45 : decode cX0_replaceKey 45 = .ok (.return_, 1) := by decide +kernel
set_option maxRecDepth 20000 in
theorem ggX0_sendTo_X0_deliverNow : GoodIn wsX0_sendTo wsX0_deliverNow := goodIn_r _ [11, 12, 1, 2, 13, 14, 15, 10, 16, 4, 17, 18, 19, 20, 21, 22, 23, 24, 25, 26, 27, 28, 29, 30, 31, 32, 33, 34, 35, 36, 37, 38, 39, 40, 41, 42, 43, 44, 5, 45, 46, 47, 48, 3, 49, 50, 51, 52, 53, 54, 55, 56, 57, 58, 59, 60, 61, 62, 63, 64, 65, 66, 67, 68, 69, 70, 71, 72, 73, 74, 75, 76, 77, 78, 79, 80, 81, 82, 83, 84, 85, 86, 87, 88, 89, 90, 91, 92, 93, 94, 95, 96] (by decide +kernel) (by decide +kernel)
set_option maxRecDepth 20000 in
theorem gX0_sendTo_X0_deliverNow : GoodIn wsX0_sendTo (wsV RX0 92 RX0 yX0_deliverNow wsX0_deliverNow) := goodIn_app (goodIn_of _ (by decide +kernel)) ggX0_sendTo_X0_deliverNow
theorem dX0_sendTo_0 : decode cX0_sendTo 0 = .ok (.aload_n 0, 1) := by decide +kernel
theorem dX0_sendTo_1 : decode cX0_sendTo 1 = .ok (.getfield 60, 3) := by decide +kernel
theorem dX0_sendTo_4 : decode cX0_sendTo 4 = .ok (.istore 4, 2) := by decide +kernel
theorem dX0_sendTo_6 : decode cX0_sendTo 6 = .ok (.aload_n 0, 1) := by decide +kernel
theorem dX0_sendTo_7 : decode cX0_sendTo 7 = .ok (.dup, 1) := by decide +kernel
theorem dX0_sendTo_8 : decode cX0_sendTo 8 = .ok (.getfield 60, 3) := by decide +kernel
theorem dX0_sendTo_11 : decode cX0_sendTo 11 = .ok (.iconst 1, 1) := by decide +kernel
theorem dX0_sendTo_12 : decode cX0_sendTo 12 = .ok (.iadd, 1) := by decide +kernel
theorem dX0_sendTo_13 : decode cX0_sendTo 13 = .ok (.putfield 60, 3) := by decide +kernel
theorem dX0_sendTo_16 : decode cX0_sendTo 16 = .ok (.aload_n 0, 1) := by decide +kernel
theorem dX0_sendTo_17 : decode cX0_sendTo 17 = .ok (.getfield 44, 3) := by decide +kernel
theorem dX0_sendTo_20 : decode cX0_sendTo 20 = .ok (.iload 4, 2) := by decide +kernel
theorem dX0_sendTo_22 : decode cX0_sendTo 22 = .ok (.iload_n 2, 1) := by decide +kernel
theorem dX0_sendTo_23 : decode cX0_sendTo 23 = .ok (.bastore, 1) := by decide +kernel
theorem dX0_sendTo_24 : decode cX0_sendTo 24 = .ok (.aload_n 0, 1) := by decide +kernel
theorem dX0_sendTo_25 : decode cX0_sendTo 25 = .ok (.getfield 48, 3) := by decide +kernel
theorem dX0_sendTo_28 : decode cX0_sendTo 28 = .ok (.iload 4, 2) := by decide +kernel
theorem dX0_sendTo_30 : decode cX0_sendTo 30 = .ok (.aload_n 0, 1) := by decide +kernel
theorem dX0_sendTo_31 : decode cX0_sendTo 31 = .ok (.getfield 63, 3) := by decide +kernel
theorem dX0_sendTo_34 : decode cX0_sendTo 34 = .ok (.iload_n 3, 1) := by decide +kernel
theorem dX0_sendTo_35 : decode cX0_sendTo 35 = .ok (.iadd, 1) := by decide +kernel
theorem dX0_sendTo_36 : decode cX0_sendTo 36 = .ok (.iastore, 1) := by decide +kernel
theorem dX0_sendTo_37 : decode cX0_sendTo 37 = .ok (.aload_n 0, 1) := by decide +kernel
theorem dX0_sendTo_38 : decode cX0_sendTo 38 = .ok (.getfield 51, 3) := by decide +kernel
theorem dX0_sendTo_41 : decode cX0_sendTo 41 = .ok (.iload 4, 2) := by decide +kernel
theorem dX0_sendTo_43 : decode cX0_sendTo 43 = .ok (.iload_n 1, 1) := by decide +kernel
theorem dX0_sendTo_44 : decode cX0_sendTo 44 = .ok (.aload_n 0, 1) := by decide +kernel
theorem dX0_sendTo_45 : decode cX0_sendTo 45 = .ok (.getfield 16, 3) := by decide +kernel
theorem dX0_sendTo_48 : decode cX0_sendTo 48 = .ok (.iand, 1) := by decide +kernel
theorem dX0_sendTo_49 : decode cX0_sendTo 49 = .ok (.iastore, 1) := by decide +kernel
theorem dX0_sendTo_50 : decode cX0_sendTo 50 = .ok (.aload_n 0, 1) := by decide +kernel
theorem dX0_sendTo_51 : decode cX0_sendTo 51 = .ok (.invokevirtual 92, 3) := by decide +kernel
theorem dX0_sendTo_54 : decode cX0_sendTo 54 = .ok (.pop, 1) := by decide +kernel
theorem dX0_sendTo_55 : decode cX0_sendTo 55 = .ok (.iload 4, 2) := by decide +kernel
theorem dX0_sendTo_57 : decode cX0_sendTo 57 = .ok (.ireturn, 1) := by decide +kernel
theorem dX0_withdraw_0 : decode cX0_withdraw 0 = .ok (.aload_n 0, 1) := by decide +kernel
theorem dX0_withdraw_1 : decode cX0_withdraw 1 = .ok (.getfield 48, 3) := by decide +kernel
theorem dX0_withdraw_4 : decode cX0_withdraw 4 = .ok (.iload_n 1, 1) := by decide +kernel
theorem dX0_withdraw_5 : decode cX0_withdraw 5 = .ok (.aload_n 0, 1) := by decide +kernel
theorem dX0_withdraw_6 : decode cX0_withdraw 6 = .ok (.getfield 63, 3) := by decide +kernel
theorem dX0_withdraw_9 : decode cX0_withdraw 9 = .ok (.iastore, 1) := by decide +kernel
theorem dX0_withdraw_10 : decode cX0_withdraw 10 = .ok (.return_, 1) := by decide +kernel
theorem dX0_isStanding_0 : decode cX0_isStanding 0 = .ok (.aload_n 0, 1) := by decide +kernel
theorem dX0_isStanding_1 : decode cX0_isStanding 1 = .ok (.getfield 63, 3) := by decide +kernel
theorem dX0_isStanding_4 : decode cX0_isStanding 4 = .ok (.aload_n 0, 1) := by decide +kernel
theorem dX0_isStanding_5 : decode cX0_isStanding 5 = .ok (.getfield 48, 3) := by decide +kernel
theorem dX0_isStanding_8 : decode cX0_isStanding 8 = .ok (.iload_n 1, 1) := by decide +kernel
theorem dX0_isStanding_9 : decode cX0_isStanding 9 = .ok (.iaload, 1) := by decide +kernel
theorem dX0_isStanding_10 : decode cX0_isStanding 10 = .ok (.if_icmp .ge 7, 3) := by decide +kernel
theorem dX0_isStanding_13 : decode cX0_isStanding 13 = .ok (.iconst 1, 1) := by decide +kernel
theorem dX0_isStanding_14 : decode cX0_isStanding 14 = .ok (.goto 4, 3) := by decide +kernel
theorem dX0_isStanding_17 : decode cX0_isStanding 17 = .ok (.iconst 0, 1) := by decide +kernel
theorem dX0_isStanding_18 : decode cX0_isStanding 18 = .ok (.ireturn, 1) := by decide +kernel
set_option maxRecDepth 20000 in
theorem ggX0_waitsNow_X0_isStanding : GoodIn wsX0_waitsNow wsX0_isStanding := goodIn_r _ [6, 7, 8, 9, 10, 11, 12, 13, 14, 15, 16, 17, 18, 19, 20, 21, 22, 23, 24, 25, 26, 27] (by decide +kernel) (by decide +kernel)
set_option maxRecDepth 20000 in
theorem gX0_waitsNow_X0_isStanding : GoodIn wsX0_waitsNow (wsV RX0 127 RX0 yX0_isStanding wsX0_isStanding) := goodIn_app (goodIn_of _ (by decide +kernel)) ggX0_waitsNow_X0_isStanding
theorem dX0_waitsNow_0 : decode cX0_waitsNow 0 = .ok (.aload_n 0, 1) := by decide +kernel
theorem dX0_waitsNow_1 : decode cX0_waitsNow 1 = .ok (.iload_n 1, 1) := by decide +kernel
theorem dX0_waitsNow_2 : decode cX0_waitsNow 2 = .ok (.invokevirtual 127, 3) := by decide +kernel
theorem dX0_waitsNow_5 : decode cX0_waitsNow 5 = .ok (.ifCond .eq 12, 3) := by decide +kernel
theorem dX0_waitsNow_8 : decode cX0_waitsNow 8 = .ok (.aload_n 0, 1) := by decide +kernel
theorem dX0_waitsNow_9 : decode cX0_waitsNow 9 = .ok (.getfield 51, 3) := by decide +kernel
theorem dX0_waitsNow_12 : decode cX0_waitsNow 12 = .ok (.iload_n 1, 1) := by decide +kernel
theorem dX0_waitsNow_13 : decode cX0_waitsNow 13 = .ok (.iaload, 1) := by decide +kernel
theorem dX0_waitsNow_14 : decode cX0_waitsNow 14 = .ok (.goto 4, 3) := by decide +kernel
theorem dX0_waitsNow_17 : decode cX0_waitsNow 17 = .ok (.iconst 0, 1) := by decide +kernel
theorem dX0_waitsNow_18 : decode cX0_waitsNow 18 = .ok (.ireturn, 1) := by decide +kernel
set_option maxRecDepth 20000 in
theorem ggX0_countWaiting_X0_waitsNow : GoodIn wsX0_countWaiting wsX0_waitsNow := goodIn_r _ [6, 7, 8, 9, 10, 5, 11, 12, 13, 20, 21, 22, 23, 24, 25, 26, 27, 28, 29, 30, 31, 32, 33, 34, 35, 36, 37, 38] (by decide +kernel) (by decide +kernel)
set_option maxRecDepth 20000 in
theorem gX0_countWaiting_X0_waitsNow : GoodIn wsX0_countWaiting (wsV RX0 132 RX0 yX0_waitsNow wsX0_waitsNow) := goodIn_app (goodIn_of _ (by decide +kernel)) ggX0_countWaiting_X0_waitsNow
set_option maxRecDepth 20000 in
theorem ggX0_countWaiting_X0_has : GoodIn wsX0_countWaiting wsX0_has := goodIn_r _ [16, 17, 18, 5, 19] (by decide +kernel) (by decide +kernel)
set_option maxRecDepth 20000 in
theorem gX0_countWaiting_X0_has : GoodIn wsX0_countWaiting (va_wsS RX0 96 yX0_has wsX0_has) := goodIn_app (goodIn_of _ (by decide +kernel)) ggX0_countWaiting_X0_has
theorem dX0_countWaiting_0 : decode cX0_countWaiting 0 = .ok (.iconst 0, 1) := by decide +kernel
theorem dX0_countWaiting_1 : decode cX0_countWaiting 1 = .ok (.istore_n 2, 1) := by decide +kernel
theorem dX0_countWaiting_2 : decode cX0_countWaiting 2 = .ok (.iconst 0, 1) := by decide +kernel
theorem dX0_countWaiting_3 : decode cX0_countWaiting 3 = .ok (.istore_n 3, 1) := by decide +kernel
theorem dX0_countWaiting_4 : decode cX0_countWaiting 4 = .ok (.iload_n 3, 1) := by decide +kernel
theorem dX0_countWaiting_5 : decode cX0_countWaiting 5 = .ok (.aload_n 0, 1) := by decide +kernel
theorem dX0_countWaiting_6 : decode cX0_countWaiting 6 = .ok (.getfield 60, 3) := by decide +kernel
theorem dX0_countWaiting_9 : decode cX0_countWaiting 9 = .ok (.if_icmp .ge 24, 3) := by decide +kernel
theorem dX0_countWaiting_12 : decode cX0_countWaiting 12 = .ok (.aload_n 0, 1) := by decide +kernel
theorem dX0_countWaiting_13 : decode cX0_countWaiting 13 = .ok (.iload_n 3, 1) := by decide +kernel
theorem dX0_countWaiting_14 : decode cX0_countWaiting 14 = .ok (.invokevirtual 132, 3) := by decide +kernel
theorem dX0_countWaiting_17 : decode cX0_countWaiting 17 = .ok (.iload_n 1, 1) := by decide +kernel
theorem dX0_countWaiting_18 : decode cX0_countWaiting 18 = .ok (.invokestatic 96, 3) := by decide +kernel
theorem dX0_countWaiting_21 : decode cX0_countWaiting 21 = .ok (.ifCond .eq 6, 3) := by decide +kernel
theorem dX0_countWaiting_24 : decode cX0_countWaiting 24 = .ok (.iinc 2 1, 3) := by decide +kernel
theorem dX0_countWaiting_27 : decode cX0_countWaiting 27 = .ok (.iinc 3 1, 3) := by decide +kernel
theorem dX0_countWaiting_30 : decode cX0_countWaiting 30 = .ok (.goto (-26), 3) := by decide +kernel
theorem dX0_countWaiting_33 : decode cX0_countWaiting 33 = .ok (.iload_n 2, 1) := by decide +kernel
theorem dX0_countWaiting_34 : decode cX0_countWaiting 34 = .ok (.ireturn, 1) := by decide +kernel
set_option maxRecDepth 20000 in
theorem ggX0_localTime_J9_floorMod_7cf53 : GoodIn wsX0_localTime wsJ9_floorMod_7cf53 := goodIn_r _ [6] (by decide +kernel) (by decide +kernel)
set_option maxRecDepth 20000 in
theorem gX0_localTime_J9_floorMod_7cf53 : GoodIn wsX0_localTime (va_wsS RX0 175 yJ9_floorMod_7cf53 wsJ9_floorMod_7cf53) := goodIn_app (goodIn_of _ (by decide +kernel)) ggX0_localTime_J9_floorMod_7cf53
theorem dX0_localTime_0 : decode cX0_localTime 0 = .ok (.aload_n 0, 1) := by decide +kernel
theorem dX0_localTime_1 : decode cX0_localTime 1 = .ok (.getfield 63, 3) := by decide +kernel
theorem dX0_localTime_4 : decode cX0_localTime 4 = .ok (.aload_n 0, 1) := by decide +kernel
theorem dX0_localTime_5 : decode cX0_localTime 5 = .ok (.getfield 26, 3) := by decide +kernel
theorem dX0_localTime_8 : decode cX0_localTime 8 = .ok (.iload_n 1, 1) := by decide +kernel
theorem dX0_localTime_9 : decode cX0_localTime 9 = .ok (.iaload, 1) := by decide +kernel
theorem dX0_localTime_10 : decode cX0_localTime 10 = .ok (.iadd, 1) := by decide +kernel
theorem dX0_localTime_11 : decode cX0_localTime 11 = .ok (.sipush 1440, 3) := by decide +kernel
theorem dX0_localTime_14 : decode cX0_localTime 14 = .ok (.invokestatic 175, 3) := by decide +kernel
theorem dX0_localTime_17 : decode cX0_localTime 17 = .ok (.ireturn, 1) := by decide +kernel
set_option maxRecDepth 20000 in
theorem ggX0_isInQuietHours_X0_localTime : GoodIn wsX0_isInQuietHours wsX0_localTime := goodIn_r _ [7, 8, 9, 10, 11, 12, 13, 14, 15, 16, 17, 18, 19, 20, 21, 22, 23, 24, 25, 26, 27, 28, 29, 30, 31, 32] (by decide +kernel) (by decide +kernel)
set_option maxRecDepth 20000 in
theorem gX0_isInQuietHours_X0_localTime : GoodIn wsX0_isInQuietHours (wsV RX0 178 RX0 yX0_localTime wsX0_localTime) := goodIn_app (goodIn_of _ (by decide +kernel)) ggX0_isInQuietHours_X0_localTime
set_option maxRecDepth 20000 in
theorem ggX0_isInQuietHours_J9_floorMod_7cf53 : GoodIn wsX0_isInQuietHours wsJ9_floorMod_7cf53 := goodIn_r _ [13] (by decide +kernel) (by decide +kernel)
