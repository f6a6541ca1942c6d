theorem dL_quiet_2 : decode cL_quiet 2 = .ok (.invokevirtual 41, 3) := by decide +kernel
theorem dL_quiet_5 : decode cL_quiet 5 = .ok (.ifCond .eq 7, 3) := by decide +kernel
theorem dL_quiet_8 : decode cL_quiet 8 = .ok (.iconst 1, 1) := by decide +kernel
theorem dL_quiet_9 : decode cL_quiet 9 = .ok (.goto 4, 3) := by decide +kernel
theorem dL_quiet_12 : decode cL_quiet 12 = .ok (.iconst 0, 1) := by decide +kernel
theorem dL_quiet_13 : decode cL_quiet 13 = .ok (.ireturn, 1) := by decide +kernel
theorem dL_quiet_14 : decode cL_quiet 14 = .ok (.astore_n 2, 1) := by decide +kernel
theorem dL_quiet_15 : decode cL_quiet 15 = .ok (.ldc 25, 2) := by decide +kernel
theorem dL_quiet_17 : decode cL_quiet 17 = .ok (.ireturn, 1) := by decide +kernel
set_option maxRecDepth 20000 in
theorem ggL_sends_X0_send : GoodIn wsL_sends wsX0_send := goodIn_ca (goodIn_ca (goodIn_r _ [9, 10, 11, 12, 8, 13, 14, 15, 16, 17, 18, 19, 20, 21, 22, 23, 24, 25, 26, 27, 28, 29, 30, 31, 32, 33, 34, 35, 36, 37, 38, 39, 40, 41, 42, 43, 44, 45, 46, 47, 48, 49, 50, 51, 52, 53, 54, 55, 56, 57, 58, 59, 60, 61, 62, 63, 64, 65, 66, 67, 68, 69, 70, 71, 72, 73, 74, 75, 76, 77, 78, 79, 80, 81, 82, 83, 84, 85, 86, 87, 88, 89, 90, 91, 92, 93, 94, 95, 96, 97, 98, 99, 100, 101, 102, 103, 104, 105, 106, 107, 108, 109, 110, 111, 112, 113, 114, 115, 116, 117, 118, 119, 120, 121, 122, 123, 124, 125, 126, 127, 128, 129, 130, 131, 132] (by decide +kernel) (by decide +kernel)) (goodIn_sub (fun _ h => List.mem_cons_of_mem _ (List.mem_append_left _ (List.mem_append_right _ h))) (by decide +kernel))) (goodIn_sub (fun _ h => List.mem_cons_of_mem _ (List.mem_append_right _ h)) (by decide +kernel))
set_option maxRecDepth 20000 in
theorem gL_sends_X0_send : GoodIn wsL_sends (wsV RL 45 RX0 yX0_send wsX0_send) := goodIn_app (goodIn_of _ (by decide +kernel)) ggL_sends_X0_send
theorem dL_sends_0 : decode cL_sends 0 = .ok (.aload_n 0, 1) := by decide +kernel
theorem dL_sends_1 : decode cL_sends 1 = .ok (.iload_n 1, 1) := by decide +kernel
theorem dL_sends_2 : decode cL_sends 2 = .ok (.iload_n 2, 1) := by decide +kernel
theorem dL_sends_3 : decode cL_sends 3 = .ok (.iload_n 3, 1) := by decide +kernel
theorem dL_sends_4 : decode cL_sends 4 = .ok (.iload 4, 2) := by decide +kernel
theorem dL_sends_6 : decode cL_sends 6 = .ok (.invokevirtual 45, 3) := by decide +kernel
theorem dL_sends_9 : decode cL_sends 9 = .ok (.ireturn, 1) := by decide +kernel
theorem dL_sends_10 : decode cL_sends 10 = .ok (.astore 5, 2) := by decide +kernel
theorem dL_sends_12 : decode cL_sends 12 = .ok (.ldc 15, 2) := by decide +kernel
theorem dL_sends_14 : decode cL_sends 14 = .ok (.ireturn, 1) := by decide +kernel
theorem dL_sends_15 : decode cL_sends 15 = .ok (.astore 5, 2) := by decide +kernel
theorem dL_sends_17 : decode cL_sends 17 = .ok (.ldc 18, 2) := by decide +kernel
theorem dL_sends_19 : decode cL_sends 19 = .ok (.ireturn, 1) := by decide +kernel
set_option maxRecDepth 20000 in
theorem ggL_sendsBy_X0_sendBy : GoodIn wsL_sendsBy wsX0_sendBy := goodIn_ca (goodIn_ca (goodIn_r _ [9, 10, 11, 8, 12, 13, 14, 15, 16, 17, 18, 19, 20, 21, 22, 23, 24, 25, 26, 27, 28, 29, 30, 31, 32, 33, 34, 35, 36, 37, 38, 39, 40, 41, 42, 43, 44, 45, 46, 47, 48, 49, 50, 51, 52, 53, 54, 55, 56, 57, 58, 59, 60, 61, 62, 63, 64, 65, 66, 67, 68, 69, 70, 71, 72, 73, 74, 75, 76, 77, 78, 79, 80, 81, 82, 83, 84, 85, 86, 87, 88, 89, 90, 91, 92, 93, 94, 95, 96, 97, 98, 99, 100, 101, 102, 103, 104, 105, 106, 107, 108, 109, 110, 111, 112, 113, 114, 115, 116, 117, 118, 119, 120, 121, 122, 123, 124] (by decide +kernel) (by decide +kernel)) (goodIn_sub (fun _ h => List.mem_cons_of_mem _ (List.mem_append_left _ (List.mem_append_right _ h))) (by decide +kernel))) (goodIn_sub (fun _ h => List.mem_cons_of_mem _ (List.mem_append_right _ h)) (by decide +kernel))
set_option maxRecDepth 20000 in
theorem gL_sendsBy_X0_sendBy : GoodIn wsL_sendsBy (wsV RL 49 RX0 yX0_sendBy wsX0_sendBy) := goodIn_app (goodIn_of _ (by decide +kernel)) ggL_sendsBy_X0_sendBy
theorem dL_sendsBy_0 : decode cL_sendsBy 0 = .ok (.aload_n 0, 1) := by decide +kernel
theorem dL_sendsBy_1 : decode cL_sendsBy 1 = .ok (.iload_n 1, 1) := by decide +kernel
theorem dL_sendsBy_2 : decode cL_sendsBy 2 = .ok (.iload_n 2, 1) := by decide +kernel
theorem dL_sendsBy_3 : decode cL_sendsBy 3 = .ok (.iload_n 3, 1) := by decide +kernel
theorem dL_sendsBy_4 : decode cL_sendsBy 4 = .ok (.iload 4, 2) := by decide +kernel
theorem dL_sendsBy_6 : decode cL_sendsBy 6 = .ok (.iload 5, 2) := by decide +kernel
theorem dL_sendsBy_8 : decode cL_sendsBy 8 = .ok (.invokevirtual 49, 3) := by decide +kernel
theorem dL_sendsBy_11 : decode cL_sendsBy 11 = .ok (.ireturn, 1) := by decide +kernel
theorem dL_sendsBy_12 : decode cL_sendsBy 12 = .ok (.astore 6, 2) := by decide +kernel
theorem dL_sendsBy_14 : decode cL_sendsBy 14 = .ok (.ldc 15, 2) := by decide +kernel
theorem dL_sendsBy_16 : decode cL_sendsBy 16 = .ok (.ireturn, 1) := by decide +kernel
theorem dL_sendsBy_17 : decode cL_sendsBy 17 = .ok (.astore 6, 2) := by decide +kernel
theorem dL_sendsBy_19 : decode cL_sendsBy 19 = .ok (.ldc 18, 2) := by decide +kernel
theorem dL_sendsBy_21 : decode cL_sendsBy 21 = .ok (.ireturn, 1) := by decide +kernel
set_option maxRecDepth 20000 in
theorem ggL_reads_X0_read : GoodIn wsL_reads wsX0_read := goodIn_ca (goodIn_ca (goodIn_r _ [9, 10, 11, 12, 13, 14, 15, 8, 16, 17, 18, 19, 20, 21, 22, 23, 24, 25, 26, 27, 28, 29, 30, 31, 32, 33, 34, 35, 36, 37, 38, 39, 40, 41, 42, 43, 44, 45, 46, 47, 48, 49, 50, 51, 52, 53, 54, 55, 56, 57, 58, 59, 60, 61, 62, 63, 64, 65, 66, 67, 68, 69, 70, 71] (by decide +kernel) (by decide +kernel)) (goodIn_sub (fun _ h => List.mem_cons_of_mem _ (List.mem_append_left _ (List.mem_append_right _ h))) (by decide +kernel))) (goodIn_sub (fun _ h => List.mem_cons_of_mem _ (List.mem_append_right _ h)) (by decide +kernel))
set_option maxRecDepth 20000 in
theorem gL_reads_X0_read : GoodIn wsL_reads (wsV RL 53 RX0 yX0_read wsX0_read) := goodIn_app (goodIn_of _ (by decide +kernel)) ggL_reads_X0_read
theorem dL_reads_0 : decode cL_reads 0 = .ok (.aload_n 0, 1) := by decide +kernel
theorem dL_reads_1 : decode cL_reads 1 = .ok (.iload_n 1, 1) := by decide +kernel
theorem dL_reads_2 : decode cL_reads 2 = .ok (.iload_n 2, 1) := by decide +kernel
theorem dL_reads_3 : decode cL_reads 3 = .ok (.invokevirtual 53, 3) := by decide +kernel
theorem dL_reads_6 : decode cL_reads 6 = .ok (.ireturn, 1) := by decide +kernel
theorem dL_reads_7 : decode cL_reads 7 = .ok (.astore_n 3, 1) := by decide +kernel
theorem dL_reads_8 : decode cL_reads 8 = .ok (.ldc 25, 2) := by decide +kernel
theorem dL_reads_10 : decode cL_reads 10 = .ok (.ireturn, 1) := by decide +kernel
theorem dL_reads_11 : decode cL_reads 11 = .ok (.astore_n 3, 1) := by decide +kernel
theorem dL_reads_12 : decode cL_reads 12 = .ok (.ldc 18, 2) := by decide +kernel
theorem dL_reads_14 : decode cL_reads 14 = .ok (.ireturn, 1) := by decide +kernel
set_option maxRecDepth 20000 in
theorem ggL_stands_X0_stands : GoodIn wsL_stands wsX0_stands := goodIn_ca (goodIn_r _ [7, 8, 9, 10, 6, 11, 12, 13, 14, 15, 16, 17, 18, 19, 20, 21, 22, 23, 24, 25, 26, 27, 28, 29, 30, 31, 32, 33, 34, 35, 36, 37, 38, 39] (by decide +kernel) (by decide +kernel)) (goodIn_sub (fun _ h => List.mem_cons_of_mem _ (List.mem_append_right _ h)) (by decide +kernel))
set_option maxRecDepth 20000 in
theorem gL_stands_X0_stands : GoodIn wsL_stands (wsV RL 56 RX0 yX0_stands wsX0_stands) := goodIn_app (goodIn_of _ (by decide +kernel)) ggL_stands_X0_stands
theorem dL_stands_0 : decode cL_stands 0 = .ok (.aload_n 0, 1) := by decide +kernel
theorem dL_stands_1 : decode cL_stands 1 = .ok (.iload_n 1, 1) := by decide +kernel
theorem dL_stands_2 : decode cL_stands 2 = .ok (.invokevirtual 56, 3) := by decide +kernel
theorem dL_stands_5 : decode cL_stands 5 = .ok (.ifCond .eq 7, 3) := by decide +kernel
theorem dL_stands_8 : decode cL_stands 8 = .ok (.iconst 1, 1) := by decide +kernel
theorem dL_stands_9 : decode cL_stands 9 = .ok (.goto 4, 3) := by decide +kernel
theorem dL_stands_12 : decode cL_stands 12 = .ok (.iconst 0, 1) := by decide +kernel
theorem dL_stands_13 : decode cL_stands 13 = .ok (.ireturn, 1) := by decide +kernel
theorem dL_stands_14 : decode cL_stands 14 = .ok (.astore_n 2, 1) := by decide +kernel
theorem dL_stands_15 : decode cL_stands 15 = .ok (.ldc 25, 2) := by decide +kernel
theorem dL_stands_17 : decode cL_stands 17 = .ok (.ireturn, 1) := by decide +kernel
set_option maxRecDepth 20000 in
theorem ggL_waits_X0_waitsFor : GoodIn wsL_waits wsX0_waitsFor := goodIn_ca (goodIn_r _ [7, 8, 9, 10, 6, 11, 12, 13, 14, 15, 16, 17, 18, 19, 20, 21, 22, 23, 24, 25, 26, 27, 28, 29, 30, 31, 32, 33, 34, 35, 36, 37, 38, 39, 40, 41, 42, 43, 44] (by decide +kernel) (by decide +kernel)) (goodIn_sub (fun _ h => List.mem_cons_of_mem _ (List.mem_append_right _ h)) (by decide +kernel))
set_option maxRecDepth 20000 in
theorem gL_waits_X0_waitsFor : GoodIn wsL_waits (wsV RL 59 RX0 yX0_waitsFor wsX0_waitsFor) := goodIn_app (goodIn_of _ (by decide +kernel)) ggL_waits_X0_waitsFor
theorem dL_waits_0 : decode cL_waits 0 = .ok (.aload_n 0, 1) := by decide +kernel
theorem dL_waits_1 : decode cL_waits 1 = .ok (.iload_n 1, 1) := by decide +kernel
theorem dL_waits_2 : decode cL_waits 2 = .ok (.invokevirtual 59, 3) := by decide +kernel
theorem dL_waits_5 : decode cL_waits 5 = .ok (.ireturn, 1) := by decide +kernel
theorem dL_waits_6 : decode cL_waits 6 = .ok (.astore_n 2, 1) := by decide +kernel
theorem dL_waits_7 : decode cL_waits 7 = .ok (.ldc 25, 2) := by decide +kernel
theorem dL_waits_9 : decode cL_waits 9 = .ok (.ireturn, 1) := by decide +kernel
set_option maxRecDepth 20000 in
theorem ggL_delivered_X0_deliveredTo : GoodIn wsL_delivered wsX0_deliveredTo := goodIn_ca (goodIn_r _ [7, 8, 9, 10, 11, 6, 12, 13, 14, 15, 16, 17, 18, 19, 20, 21, 22, 23, 24, 25, 26, 27, 28, 29, 30, 31, 32, 33, 34] (by decide +kernel) (by decide +kernel)) (goodIn_sub (fun _ h => List.mem_cons_of_mem _ (List.mem_append_right _ h)) (by decide +kernel))
set_option maxRecDepth 20000 in
theorem gL_delivered_X0_deliveredTo : GoodIn wsL_delivered (wsV RL 62 RX0 yX0_deliveredTo wsX0_deliveredTo) := goodIn_app (goodIn_of _ (by decide +kernel)) ggL_delivered_X0_deliveredTo
theorem dL_delivered_0 : decode cL_delivered 0 = .ok (.aload_n 0, 1) := by decide +kernel
theorem dL_delivered_1 : decode cL_delivered 1 = .ok (.iload_n 1, 1) := by decide +kernel
theorem dL_delivered_2 : decode cL_delivered 2 = .ok (.invokevirtual 62, 3) := by decide +kernel
theorem dL_delivered_5 : decode cL_delivered 5 = .ok (.ireturn, 1) := by decide +kernel
theorem dL_delivered_6 : decode cL_delivered 6 = .ok (.astore_n 2, 1) := by decide +kernel
theorem dL_delivered_7 : decode cL_delivered 7 = .ok (.ldc 25, 2) := by decide +kernel
theorem dL_delivered_9 : decode cL_delivered 9 = .ok (.ireturn, 1) := by decide +kernel
set_option maxRecDepth 20000 in
theorem ggL_standing_X0_standing : GoodIn wsL_standing wsX0_standing := goodIn_ca (goodIn_r _ [7, 8, 9, 10, 6, 11, 12, 13, 14, 15, 16, 17, 18, 19, 20, 21, 22, 23, 24, 25, 26, 27, 28, 29, 30, 31, 32, 33, 34, 35, 36, 37, 38, 39, 40, 41] (by decide +kernel) (by decide +kernel)) (goodIn_sub (fun _ h => List.mem_cons_of_mem _ (List.mem_append_right _ h)) (by decide +kernel))
set_option maxRecDepth 20000 in
theorem gL_standing_X0_standing : GoodIn wsL_standing (wsV RL 65 RX0 yX0_standing wsX0_standing) := goodIn_app (goodIn_of _ (by decide +kernel)) ggL_standing_X0_standing
theorem dL_standing_0 : decode cL_standing 0 = .ok (.aload_n 0, 1) := by decide +kernel
theorem dL_standing_1 : decode cL_standing 1 = .ok (.iload_n 1, 1) := by decide +kernel
theorem dL_standing_2 : decode cL_standing 2 = .ok (.iload_n 2, 1) := by decide +kernel
theorem dL_standing_3 : decode cL_standing 3 = .ok (.invokevirtual 65, 3) := by decide +kernel
theorem dL_standing_6 : decode cL_standing 6 = .ok (.ireturn, 1) := by decide +kernel
theorem dL_standing_7 : decode cL_standing 7 = .ok (.astore_n 3, 1) := by decide +kernel
theorem dL_standing_8 : decode cL_standing 8 = .ok (.ldc 15, 2) := by decide +kernel
theorem dL_standing_10 : decode cL_standing 10 = .ok (.ireturn, 1) := by decide +kernel
set_option maxRecDepth 20000 in
theorem ggL_badge_X0_badge : GoodIn wsL_badge wsX0_badge := goodIn_ca (goodIn_r _ [7, 8, 9, 10, 11, 12, 6, 13, 14, 15, 16, 17, 18, 19, 20, 21, 22, 23, 24, 25, 26, 27, 28, 29, 30, 31, 32, 33, 34, 35, 36, 37, 38, 39, 40, 41, 42, 43, 44, 45, 46, 47] (by decide +kernel) (by decide +kernel)) (goodIn_sub (fun _ h => List.mem_cons_of_mem _ (List.mem_append_right _ h)) (by decide +kernel))
set_option maxRecDepth 20000 in
theorem gL_badge_X0_badge : GoodIn wsL_badge (wsV RL 68 RX0 yX0_badge wsX0_badge) := goodIn_app (goodIn_of _ (by decide +kernel)) ggL_badge_X0_badge
theorem dL_badge_0 : decode cL_badge 0 = .ok (.aload_n 0, 1) := by decide +kernel
theorem dL_badge_1 : decode cL_badge 1 = .ok (.iload_n 1, 1) := by decide +kernel
theorem dL_badge_2 : decode cL_badge 2 = .ok (.invokevirtual 68, 3) := by decide +kernel
theorem dL_badge_5 : decode cL_badge 5 = .ok (.ireturn, 1) := by decide +kernel
theorem dL_badge_6 : decode cL_badge 6 = .ok (.astore_n 2, 1) := by decide +kernel
theorem dL_badge_7 : decode cL_badge 7 = .ok (.ldc 25, 2) := by decide +kernel
theorem dL_badge_9 : decode cL_badge 9 = .ok (.ireturn, 1) := by decide +kernel
set_option maxRecDepth 20000 in
theorem ggL_waiting_X0_waiting : GoodIn wsL_waiting wsX0_waiting := goodIn_ca (goodIn_r _ [7, 8, 9, 10, 6, 11, 12, 13, 14, 15, 16, 17, 18, 19, 20, 21, 22, 23, 24, 25, 26, 27, 28, 29, 30, 31, 32, 33, 34, 35, 36, 37, 38, 39, 40, 41, 42, 43, 44, 45, 46, 47, 48, 49, 50, 51, 52, 53, 54, 55] (by decide +kernel) (by decide +kernel)) (goodIn_sub (fun _ h => List.mem_cons_of_mem _ (List.mem_append_right _ h)) (by decide +kernel))
set_option maxRecDepth 20000 in
theorem gL_waiting_X0_waiting : GoodIn wsL_waiting (wsV RL 71 RX0 yX0_waiting wsX0_waiting) := goodIn_app (goodIn_of _ (by decide +kernel)) ggL_waiting_X0_waiting
theorem dL_waiting_0 : decode cL_waiting 0 = .ok (.aload_n 0, 1) := by decide +kernel
theorem dL_waiting_1 : decode cL_waiting 1 = .ok (.iload_n 1, 1) := by decide +kernel
theorem dL_waiting_2 : decode cL_waiting 2 = .ok (.invokevirtual 71, 3) := by decide +kernel
theorem dL_waiting_5 : decode cL_waiting 5 = .ok (.ireturn, 1) := by decide +kernel
theorem dL_waiting_6 : decode cL_waiting 6 = .ok (.astore_n 2, 1) := by decide +kernel
theorem dL_waiting_7 : decode cL_waiting 7 = .ok (.ldc 25, 2) := by decide +kernel
theorem dL_waiting_9 : decode cL_waiting 9 = .ok (.ireturn, 1) := by decide +kernel
set_option maxRecDepth 20000 in
theorem ggL_quota_X0_quota : GoodIn wsL_quota wsX0_quota := goodIn_ca (goodIn_r _ [7, 8, 9, 10, 6, 11, 12, 13, 14, 15, 16, 17, 18, 19, 20, 21, 22, 23, 24, 25, 26, 27, 28, 29, 30, 31, 32, 33, 34, 35, 36, 37, 38, 39, 40] (by decide +kernel) (by decide +kernel)) (goodIn_sub (fun _ h => List.mem_cons_of_mem _ (List.mem_append_right _ h)) (by decide +kernel))
set_option maxRecDepth 20000 in
theorem gL_quota_X0_quota : GoodIn wsL_quota (wsV RL 74 RX0 yX0_quota wsX0_quota) := goodIn_app (goodIn_of _ (by decide +kernel)) ggL_quota_X0_quota
theorem dL_quota_0 : decode cL_quota 0 = .ok (.aload_n 0, 1) := by decide +kernel
theorem dL_quota_1 : decode cL_quota 1 = .ok (.iload_n 1, 1) := by decide +kernel
theorem dL_quota_2 : decode cL_quota 2 = .ok (.invokevirtual 74, 3) := by decide +kernel
theorem dL_quota_5 : decode cL_quota 5 = .ok (.ireturn, 1) := by decide +kernel
theorem dL_quota_6 : decode cL_quota 6 = .ok (.astore_n 2, 1) := by decide +kernel
theorem dL_quota_7 : decode cL_quota 7 = .ok (.ldc 25, 2) := by decide +kernel
theorem dL_quota_9 : decode cL_quota 9 = .ok (.ireturn, 1) := by decide +kernel
set_option maxRecDepth 20000 in
theorem ggL_passes_X0_pass : GoodIn wsL_passes wsX0_pass := goodIn_ca (goodIn_ca (goodIn_r _ [9, 10, 11, 12, 13, 14, 15, 16, 17, 18, 19, 8, 20, 21, 22, 23, 24, 25, 26, 27, 28, 29, 30, 31, 32, 33, 34, 35, 36, 37, 38, 39, 40, 41, 42, 43, 44, 45, 46, 47, 48, 49, 50, 51, 52, 53, 54, 55, 56, 57, 58, 59, 60, 61, 62, 63, 64, 65, 66, 67, 68, 69, 70, 71, 72, 73, 74, 75, 76, 77, 78, 79, 80, 81, 82, 83, 84, 85, 86, 87, 88, 89, 90, 91, 92, 93, 94, 95, 96, 97, 98, 99, 100, 101, 102, 103, 104, 105, 106, 107, 108, 109, 110, 111, 112, 113, 114, 115, 116, 117, 118, 119] (by decide +kernel) (by decide +kernel)) (goodIn_sub (fun _ h => List.mem_cons_of_mem _ (List.mem_append_left _ (List.mem_append_right _ h))) (by decide +kernel))) (goodIn_sub (fun _ h => List.mem_cons_of_mem _ (List.mem_append_right _ h)) (by decide +kernel))
set_option maxRecDepth 20000 in
theorem gL_passes_X0_pass : GoodIn wsL_passes (wsV RL 77 RX0 yX0_pass wsX0_pass) := goodIn_app (goodIn_of _ (by decide +kernel)) ggL_passes_X0_pass
theorem dL_passes_0 : decode cL_passes 0 = .ok (.aload_n 0, 1) := by decide +kernel
theorem dL_passes_1 : decode cL_passes 1 = .ok (.iload_n 1, 1) := by decide +kernel
theorem dL_passes_2 : decode cL_passes 2 = .ok (.invokevirtual 77, 3) := by decide +kernel
theorem dL_passes_5 : decode cL_passes 5 = .ok (.ireturn, 1) := by decide +kernel
theorem dL_passes_6 : decode cL_passes 6 = .ok (.astore_n 2, 1) := by decide +kernel
theorem dL_passes_7 : decode cL_passes 7 = .ok (.ldc 15, 2) := by decide +kernel
theorem dL_passes_9 : decode cL_passes 9 = .ok (.ireturn, 1) := by decide +kernel
theorem dL_passes_10 : decode cL_passes 10 = .ok (.astore_n 2, 1) := by decide +kernel
theorem dL_passes_11 : decode cL_passes 11 = .ok (.ldc 18, 2) := by decide +kernel
theorem dL_passes_13 : decode cL_passes 13 = .ok (.ireturn, 1) := by decide +kernel
theorem dL_drawn_0 : decode cL_drawn 0 = .ok (.iload_n 1, 1) := by decide +kernel
theorem dL_drawn_1 : decode cL_drawn 1 = .ok (.aload_n 0, 1) := by decide +kernel
theorem dL_drawn_2 : decode cL_drawn 2 = .ok (.arraylength, 1) := by decide +kernel
theorem dL_drawn_3 : decode cL_drawn 3 = .ok (.if_icmp .ge 9, 3) := by decide +kernel
theorem dL_drawn_6 : decode cL_drawn 6 = .ok (.aload_n 0, 1) := by decide +kernel
theorem dL_drawn_7 : decode cL_drawn 7 = .ok (.iload_n 1, 1) := by decide +kernel
theorem dL_drawn_8 : decode cL_drawn 8 = .ok (.iaload, 1) := by decide +kernel
theorem dL_drawn_9 : decode cL_drawn 9 = .ok (.goto 13, 3) := by decide +kernel
theorem dL_drawn_12 : decode cL_drawn 12 = .ok (.ldc 80, 2) := by decide +kernel
theorem dL_drawn_14 : decode cL_drawn 14 = .ok (.iload_n 1, 1) := by decide +kernel
theorem dL_drawn_15 : decode cL_drawn 15 = .ok (.iconst 3, 1) := by decide +kernel
theorem dL_drawn_16 : decode cL_drawn 16 = .ok (.iadd, 1) := by decide +kernel
theorem dL_drawn_17 : decode cL_drawn 17 = .ok (.imul, 1) := by decide +kernel
theorem dL_drawn_18 : decode cL_drawn 18 = .ok (.sipush 13697, 3) := by decide +kernel
theorem dL_drawn_21 : decode cL_drawn 21 = .ok (.iadd, 1) := by decide +kernel
theorem dL_drawn_22 : decode cL_drawn 22 = .ok (.ldc 81, 2) := by decide +kernel
theorem dL_drawn_24 : decode cL_drawn 24 = .ok (.iand, 1) := by decide +kernel
theorem dL_drawn_25 : decode cL_drawn 25 = .ok (.ireturn, 1) := by decide +kernel
set_option maxRecDepth 20000 in
theorem ggL_refuses_X0_devices : GoodIn wsL_refuses wsX0_devices := goodIn_r _ [8, 9, 275, 276, 277, 278, 279, 280, 281, 282, 283, 284, 285, 286, 287, 288, 289, 290, 291, 292, 293] (by decide +kernel) (by decide +kernel)
set_option maxRecDepth 20000 in
theorem gL_refuses_X0_devices : GoodIn wsL_refuses (wsV RL 82 RX0 yX0_devices wsX0_devices) := goodIn_app (goodIn_of _ (by decide +kernel)) ggL_refuses_X0_devices
set_option maxRecDepth 20000 in
theorem ggL_refuses_X0_sent : GoodIn wsL_refuses wsX0_sent := goodIn_r _ [13, 14, 275, 276, 277, 278, 279, 280, 281, 282, 283, 284, 285, 286, 287, 288, 289, 290, 291, 292, 293] (by decide +kernel) (by decide +kernel)
set_option maxRecDepth 20000 in
theorem gL_refuses_X0_sent : GoodIn wsL_refuses (wsV RL 86 RX0 yX0_sent wsX0_sent) := goodIn_app (goodIn_of _ (by decide +kernel)) ggL_refuses_X0_sent
set_option maxRecDepth 20000 in
theorem ggL_refuses_L_adds : GoodIn wsL_refuses wsL_adds := goodIn_ca (goodIn_ca (goodIn_r _ [18, 19, 20, 1, 3, 21, 22, 23, 7, 24, 25, 26, 9, 27, 28, 29, 30, 31, 32, 33, 34, 35, 36, 37, 38, 275, 276, 277, 278, 279, 280, 281, 282, 283, 284, 285, 286, 287, 288, 289, 290, 291, 292, 293] (by decide +kernel) (by decide +kernel)) (goodIn_sub (fun _ h => List.mem_cons_of_mem _ (List.mem_append_left _ (List.mem_append_left _ (List.mem_append_right _ h)))) (by decide +kernel))) (goodIn_sub (fun _ h => List.mem_cons_of_mem _ (List.mem_append_left _ (List.mem_append_right _ h))) (by decide +kernel))
set_option maxRecDepth 20000 in
theorem gL_refuses_L_adds : GoodIn wsL_refuses (va_wsS RL 89 yL_adds wsL_adds) := goodIn_app (goodIn_of _ (by decide +kernel)) ggL_refuses_L_adds
set_option maxRecDepth 20000 in
theorem ggL_refuses_L_online : GoodIn wsL_refuses wsL_online := goodIn_ca (goodIn_r _ [41, 42, 2, 43, 44, 45, 7, 46, 30, 47, 48, 49, 50, 51, 52, 9, 53, 54, 55, 36, 37, 38, 56, 57, 58, 59, 60, 14, 61, 62, 63, 64, 65, 66, 67, 68, 69, 70, 71, 72, 73, 74, 75, 76, 77, 27, 78, 79, 80, 81, 82, 83, 84, 85, 86, 87, 88, 89, 90, 91, 92, 93, 94, 95, 96, 97, 98, 99, 100, 101, 102, 103, 104, 105, 106, 107, 108, 109, 110, 111, 112, 113, 114, 115, 116, 117, 118, 119, 120, 275, 276, 277, 278, 279, 280, 281, 282, 283, 284, 285, 286, 287, 288, 289, 290, 291, 292, 293] (by decide +kernel) (by decide +kernel)) (goodIn_sub (fun _ h => List.mem_cons_of_mem _ (List.mem_append_right _ h)) (by decide +kernel))
set_option maxRecDepth 20000 in
theorem gL_refuses_L_online : GoodIn wsL_refuses (va_wsS RL 95 yL_online wsL_online) := goodIn_app (goodIn_of _ (by decide +kernel)) ggL_refuses_L_online
set_option maxRecDepth 20000 in
theorem ggL_refuses_L_dozes : GoodIn wsL_refuses wsL_dozes := goodIn_ca (goodIn_r _ [123, 42, 2, 124, 125, 126, 7, 127, 67, 47, 48, 49, 50, 51, 52, 9, 53, 54, 55, 36, 37, 38, 56, 57, 58, 59, 60, 14, 61, 62, 63, 64, 65, 66, 30, 68, 69, 70, 71, 72, 73, 74, 75, 76, 77, 27, 78, 79, 80, 81, 82, 83, 84, 85, 86, 87, 88, 89, 90, 91, 92, 93, 94, 95, 96, 97, 98, 99, 100, 101, 102, 103, 104, 105, 106, 107, 108, 109, 110, 111, 112, 113, 114, 115, 116, 117, 118, 119, 120, 275, 276, 277, 278, 279, 280, 281, 282, 283, 284, 285, 286, 287, 288, 289, 290, 291, 292, 293] (by decide +kernel) (by decide +kernel)) (goodIn_sub (fun _ h => List.mem_cons_of_mem _ (List.mem_append_right _ h)) (by decide +kernel))
set_option maxRecDepth 20000 in
theorem gL_refuses_L_dozes : GoodIn wsL_refuses (va_wsS RL 99 yL_dozes wsL_dozes) := goodIn_app (goodIn_of _ (by decide +kernel)) ggL_refuses_L_dozes
set_option maxRecDepth 20000 in
theorem ggL_refuses_L_quiets : GoodIn wsL_refuses wsL_quiets := goodIn_ca (goodIn_ca (goodIn_r _ [130, 42, 19, 2, 1, 131, 132, 133, 7, 134, 72, 73, 47, 48, 49, 50, 51, 52, 9, 31, 32, 33, 34, 35, 56, 57, 58, 59, 60, 14, 61, 62, 63, 64, 65, 66, 30, 67, 68, 69, 70, 71, 74, 75, 76, 77, 27, 78, 79, 80, 81, 53, 54, 55, 36, 37, 38, 82, 83, 84, 85, 86, 87, 88, 89, 90, 91, 92, 93, 94, 95, 96, 97, 98, 99, 100, 101, 102, 103, 104, 105, 106, 107, 108, 109, 110, 111, 112, 113, 114, 115, 116, 117, 118, 119, 120, 275, 276, 277, 278, 279, 280, 281, 282, 283, 284, 285, 286, 287, 288, 289, 290, 291, 292, 293] (by decide +kernel) (by decide +kernel)) (goodIn_sub (fun _ h => List.mem_cons_of_mem _ (List.mem_append_right _ h)) (by decide +kernel))) (goodIn_sub (fun _ h => List.mem_cons_of_mem _ (List.mem_append_left _ (List.mem_append_right _ h))) (by decide +kernel))
set_option maxRecDepth 20000 in
theorem gL_refuses_L_quiets : GoodIn wsL_refuses (va_wsS RL 102 yL_quiets wsL_quiets) := goodIn_app (goodIn_of _ (by decide +kernel)) ggL_refuses_L_quiets
set_option maxRecDepth 20000 in
theorem ggL_refuses_L_joins : GoodIn wsL_refuses wsL_joins := goodIn_ca (goodIn_ca (goodIn_r _ [137, 42, 19, 2, 1, 138, 139, 140, 7, 141, 142, 47, 48, 49, 50, 51, 52, 9, 31, 32, 33, 34, 35, 96, 97, 98, 36, 37, 38, 53, 54, 55, 275, 276, 277, 278, 279, 280, 281, 282, 283, 284, 285, 286, 287, 288, 289, 290, 291, 292, 293] (by decide +kernel) (by decide +kernel)) (goodIn_sub (fun _ h => List.mem_cons_of_mem _ (List.mem_append_right _ h)) (by decide +kernel))) (goodIn_sub (fun _ h => List.mem_cons_of_mem _ (List.mem_append_left _ (List.mem_append_right _ h))) (by decide +kernel))
set_option maxRecDepth 20000 in
theorem gL_refuses_L_joins : GoodIn wsL_refuses (va_wsS RL 106 yL_joins wsL_joins) := goodIn_app (goodIn_of _ (by decide +kernel)) ggL_refuses_L_joins
set_option maxRecDepth 20000 in
theorem ggL_refuses_L_kills : GoodIn wsL_refuses wsL_kills := goodIn_ca (goodIn_ca (goodIn_r _ [145, 42, 20, 2, 3, 146, 147, 148, 7, 149, 25, 26, 29, 14, 86, 47, 48, 49, 50, 51, 52, 9, 96, 97, 98, 36, 37, 38, 150, 151, 152, 153, 82, 83, 84, 85, 87, 88, 89, 90, 66, 91, 53, 54, 55, 275, 276, 277, 278, 279, 280, 281, 282, 283, 284, 285, 286, 287, 288, 289, 290, 291, 292, 293] (by decide +kernel) (by decide +kernel)) (goodIn_sub (fun _ h => List.mem_cons_of_mem _ (List.mem_append_left _ (List.mem_append_left _ (List.mem_append_right _ h)))) (by decide +kernel))) (goodIn_sub (fun _ h => List.mem_cons_of_mem _ (List.mem_append_right _ h)) (by decide +kernel))
set_option maxRecDepth 20000 in
theorem gL_refuses_L_kills : GoodIn wsL_refuses (va_wsS RL 110 yL_kills wsL_kills) := goodIn_app (goodIn_of _ (by decide +kernel)) ggL_refuses_L_kills
set_option maxRecDepth 20000 in
theorem ggL_refuses_L_quiet : GoodIn wsL_refuses wsL_quiet := goodIn_ca (goodIn_r _ [156, 42, 2, 157, 158, 159, 7, 160, 47, 48, 49, 50, 51, 52, 9, 68, 69, 70, 71, 72, 73, 74, 75, 76, 77, 66, 27, 78, 79, 80, 81, 275, 276, 277, 278, 279, 280, 281, 282, 283, 284, 285, 286, 287, 288, 289, 290, 291, 292, 293] (by decide +kernel) (by decide +kernel)) (goodIn_sub (fun _ h => List.mem_cons_of_mem _ (List.mem_append_right _ h)) (by decide +kernel))
set_option maxRecDepth 20000 in
theorem gL_refuses_L_quiet : GoodIn wsL_refuses (va_wsS RL 114 yL_quiet wsL_quiet) := goodIn_app (goodIn_of _ (by decide +kernel)) ggL_refuses_L_quiet
set_option maxRecDepth 20000 in
theorem ggL_refuses_L_sends : GoodIn wsL_refuses wsL_sends := goodIn_ca (goodIn_ca (goodIn_r _ [163, 19, 20, 1, 3, 164, 165, 166, 7, 167, 28, 31, 32, 33, 34, 35, 168, 169, 170, 171, 25, 26, 14, 172, 173, 174, 175, 176, 177, 178, 179, 87, 88, 89, 90, 66, 91, 180, 181, 182, 183, 184, 185, 186, 187, 61, 86, 29, 56, 57, 58, 59, 60, 62, 63, 64, 65, 30, 67, 9, 68, 69, 70, 71, 72, 73, 74, 75, 76, 77, 27, 78, 79, 80, 81, 53, 54, 55, 36, 37, 38, 82, 83, 84, 85, 92, 93, 94, 95, 96, 97, 98, 99, 100, 101, 102, 103, 104, 105, 106, 107, 108, 109, 110, 111, 112, 113, 114, 115, 116, 117, 118, 119, 120, 275, 276, 277, 278, 279, 280, 281, 282, 283, 284, 285, 286, 287, 288, 289, 290, 291, 292, 293] (by decide +kernel) (by decide +kernel)) (goodIn_sub (fun _ h => List.mem_cons_of_mem _ (List.mem_append_left _ (List.mem_append_right _ h))) (by decide +kernel))) (goodIn_sub (fun _ h => List.mem_cons_of_mem _ (List.mem_append_left _ (List.mem_append_left _ (List.mem_append_right _ h)))) (by decide +kernel))
set_option maxRecDepth 20000 in
theorem gL_refuses_L_sends : GoodIn wsL_refuses (va_wsS RL 117 yL_sends wsL_sends) := goodIn_app (goodIn_of _ (by decide +kernel)) ggL_refuses_L_sends
set_option maxRecDepth 20000 in
theorem ggL_refuses_L_sendsBy : GoodIn wsL_refuses wsL_sendsBy := goodIn_ca (goodIn_ca (goodIn_r _ [190, 19, 20, 1, 3, 191, 192, 193, 7, 194, 31, 32, 33, 34, 35, 168, 169, 170, 171, 25, 26, 14, 195, 196, 197, 198, 142, 184, 185, 186, 187, 61, 91, 66, 86, 29, 56, 57, 58, 59, 60, 62, 63, 64, 65, 30, 67, 9, 68, 69, 70, 71, 72, 73, 74, 75, 76, 77, 27, 78, 79, 80, 81, 53, 54, 55, 36, 37, 38, 82, 83, 84, 85, 87, 88, 89, 90, 92, 93, 94, 95, 96, 97, 98, 99, 100, 101, 102, 103, 104, 105, 106, 107, 108, 109, 110, 111, 112, 113, 114, 115, 116, 117, 118, 119, 120, 275, 276, 277, 278, 279, 280, 281, 282, 283, 284, 285, 286, 287, 288, 289, 290, 291, 292, 293] (by decide +kernel) (by decide +kernel)) (goodIn_sub (fun _ h => List.mem_cons_of_mem _ (List.mem_append_left _ (List.mem_append_right _ h))) (by decide +kernel))) (goodIn_sub (fun _ h => List.mem_cons_of_mem _ (List.mem_append_left _ (List.mem_append_left _ (List.mem_append_right _ h)))) (by decide +kernel))
set_option maxRecDepth 20000 in
theorem gL_refuses_L_sendsBy : GoodIn wsL_refuses (va_wsS RL 121 yL_sendsBy wsL_sendsBy) := goodIn_app (goodIn_of _ (by decide +kernel)) ggL_refuses_L_sendsBy
set_option maxRecDepth 20000 in
theorem ggL_refuses_L_reads : GoodIn wsL_refuses wsL_reads := goodIn_ca (goodIn_ca (goodIn_r _ [201, 42, 20, 2, 3, 202, 203, 204, 7, 205, 25, 26, 109, 47, 48, 49, 50, 51, 52, 9, 206, 207, 208, 209, 14, 96, 97, 98, 36, 37, 38, 87, 88, 89, 90, 66, 91, 82, 83, 84, 85, 86, 110, 111, 112, 113, 114, 115, 116, 180, 181, 182, 183, 275, 276, 277, 278, 279, 280, 281, 282, 283, 284, 285, 286, 287, 288, 289, 290, 291, 292, 293] (by decide +kernel) (by decide +kernel)) (goodIn_sub (fun _ h => List.mem_cons_of_mem _ (List.mem_append_left _ (List.mem_append_left _ (List.mem_append_right _ h)))) (by decide +kernel))) (goodIn_sub (fun _ h => List.mem_cons_of_mem _ (List.mem_append_right _ h)) (by decide +kernel))
set_option maxRecDepth 20000 in
theorem gL_refuses_L_reads : GoodIn wsL_refuses (va_wsS RL 125 yL_reads wsL_reads) := goodIn_app (goodIn_of _ (by decide +kernel)) ggL_refuses_L_reads
set_option maxRecDepth 20000 in
theorem ggL_refuses_L_stands : GoodIn wsL_refuses wsL_stands := goodIn_ca (goodIn_r _ [212, 42, 2, 213, 214, 215, 7, 216, 206, 207, 208, 209, 51, 52, 14, 87, 88, 89, 90, 66, 91, 275, 276, 277, 278, 279, 280, 281, 282, 283, 284, 285, 286, 287, 288, 289, 290, 291, 292, 293] (by decide +kernel) (by decide +kernel)) (goodIn_sub (fun _ h => List.mem_cons_of_mem _ (List.mem_append_right _ h)) (by decide +kernel))
set_option maxRecDepth 20000 in
theorem gL_refuses_L_stands : GoodIn wsL_refuses (va_wsS RL 128 yL_stands wsL_stands) := goodIn_app (goodIn_of _ (by decide +kernel)) ggL_refuses_L_stands
set_option maxRecDepth 20000 in
theorem ggL_refuses_L_waits : GoodIn wsL_refuses wsL_waits := goodIn_ca (goodIn_r _ [219, 42, 2, 220, 221, 222, 7, 223, 206, 207, 208, 209, 51, 52, 14, 82, 83, 84, 85, 86, 87, 88, 89, 90, 66, 91, 275, 276, 277, 278, 279, 280, 281, 282, 283, 284, 285, 286, 287, 288, 289, 290, 291, 292, 293] (by decide +kernel) (by decide +kernel)) (goodIn_sub (fun _ h => List.mem_cons_of_mem _ (List.mem_append_right _ h)) (by decide +kernel))
set_option maxRecDepth 20000 in
theorem gL_refuses_L_waits : GoodIn wsL_refuses (va_wsS RL 130 yL_waits wsL_waits) := goodIn_app (goodIn_of _ (by decide +kernel)) ggL_refuses_L_waits
set_option maxRecDepth 20000 in
theorem ggL_refuses_L_delivered : GoodIn wsL_refuses wsL_delivered := goodIn_ca (goodIn_r _ [226, 42, 2, 227, 228, 229, 7, 230, 109, 206, 207, 208, 209, 51, 52, 14, 275, 276, 277, 278, 279, 280, 281, 282, 283, 284, 285, 286, 287, 288, 289, 290, 291, 292, 293] (by decide +kernel) (by decide +kernel)) (goodIn_sub (fun _ h => List.mem_cons_of_mem _ (List.mem_append_right _ h)) (by decide +kernel))
set_option maxRecDepth 20000 in
theorem gL_refuses_L_delivered : GoodIn wsL_refuses (va_wsS RL 133 yL_delivered wsL_delivered) := goodIn_app (goodIn_of _ (by decide +kernel)) ggL_refuses_L_delivered
set_option maxRecDepth 20000 in
theorem ggL_refuses_L_standing : GoodIn wsL_refuses wsL_standing := goodIn_ca (goodIn_r _ [233, 19, 1, 234, 235, 236, 7, 237, 176, 31, 32, 33, 34, 35, 177, 178, 179, 87, 88, 89, 90, 66, 91, 275, 276, 277, 278, 279, 280, 281, 282, 283, 284, 285, 286, 287, 288, 289, 290, 291, 292, 293] (by decide +kernel) (by decide +kernel)) (goodIn_sub (fun _ h => List.mem_cons_of_mem _ (List.mem_append_left _ (List.mem_append_right _ h))) (by decide +kernel))
set_option maxRecDepth 20000 in
theorem gL_refuses_L_standing : GoodIn wsL_refuses (va_wsS RL 136 yL_standing wsL_standing) := goodIn_app (goodIn_of _ (by decide +kernel)) ggL_refuses_L_standing
set_option maxRecDepth 20000 in
theorem ggL_refuses_L_badge : GoodIn wsL_refuses wsL_badge := goodIn_ca (goodIn_r _ [240, 42, 2, 241, 242, 243, 7, 244, 14, 109, 47, 48, 49, 50, 51, 52, 9, 96, 97, 98, 36, 37, 38, 87, 88, 89, 90, 66, 91, 275, 276, 277, 278, 279, 280, 281, 282, 283, 284, 285, 286, 287, 288, 289, 290, 291, 292, 293] (by decide +kernel) (by decide +kernel)) (goodIn_sub (fun _ h => List.mem_cons_of_mem _ (List.mem_append_right _ h)) (by decide +kernel))
set_option maxRecDepth 20000 in
theorem gL_refuses_L_badge : GoodIn wsL_refuses (va_wsS RL 138 yL_badge wsL_badge) := goodIn_app (goodIn_of _ (by decide +kernel)) ggL_refuses_L_badge
set_option maxRecDepth 20000 in
theorem ggL_refuses_L_waiting : GoodIn wsL_refuses wsL_waiting := goodIn_ca (goodIn_r _ [247, 42, 2, 248, 249, 250, 7, 251, 47, 48, 49, 50, 51, 52, 9, 150, 151, 152, 153, 14, 82, 83, 84, 85, 86, 87, 88, 89, 90, 66, 91, 96, 97, 98, 36, 37, 38, 275, 276, 277, 278, 279, 280, 281, 282, 283, 284, 285, 286, 287, 288, 289, 290, 291, 292, 293] (by decide +kernel) (by decide +kernel)) (goodIn_sub (fun _ h => List.mem_cons_of_mem _ (List.mem_append_right _ h)) (by decide +kernel))
set_option maxRecDepth 20000 in
theorem gL_refuses_L_waiting : GoodIn wsL_refuses (va_wsS RL 140 yL_waiting wsL_waiting) := goodIn_app (goodIn_of _ (by decide +kernel)) ggL_refuses_L_waiting
set_option maxRecDepth 20000 in
theorem ggL_refuses_L_quota : GoodIn wsL_refuses wsL_quota := goodIn_ca (goodIn_r _ [254, 42, 2, 255, 256, 257, 7, 258, 47, 48, 49, 50, 51, 52, 9, 99, 100, 101, 102, 103, 66, 104, 275, 276, 277, 278, 279, 280, 281, 282, 283, 284, 285, 286, 287, 288, 289, 290, 291, 292, 293] (by decide +kernel) (by decide +kernel)) (goodIn_sub (fun _ h => List.mem_cons_of_mem _ (List.mem_append_right _ h)) (by decide +kernel))
set_option maxRecDepth 20000 in
theorem gL_refuses_L_quota : GoodIn wsL_refuses (va_wsS RL 142 yL_quota wsL_quota) := goodIn_app (goodIn_of _ (by decide +kernel)) ggL_refuses_L_quota
set_option maxRecDepth 20000 in
theorem ggL_refuses_L_passes : GoodIn wsL_refuses wsL_passes := goodIn_ca (goodIn_ca (goodIn_r _ [261, 19, 20, 1, 3, 262, 263, 264, 7, 265, 25, 26, 66, 266, 267, 268, 269, 270, 31, 32, 33, 34, 35, 271, 272, 273, 274, 9, 73, 68, 69, 70, 71, 72, 74, 75, 76, 77, 27, 78, 79, 80, 81, 56, 57, 58, 59, 60, 14, 61, 62, 63, 64, 65, 30, 67, 53, 54, 55, 36, 37, 38, 82, 83, 84, 85, 86, 87, 88, 89, 90, 91, 92, 93, 94, 95, 96, 97, 98, 99, 100, 101, 102, 103, 104, 105, 106, 107, 108, 109, 110, 111, 112, 113, 114, 115, 116, 117, 118, 119, 120, 275, 276, 277, 278, 279, 280, 281, 282, 283, 284, 285, 286, 287, 288, 289, 290, 291, 292, 293] (by decide +kernel) (by decide +kernel)) (goodIn_sub (fun _ h => List.mem_cons_of_mem _ (List.mem_append_left _ (List.mem_append_left _ (List.mem_append_right _ h)))) (by decide +kernel))) (goodIn_sub (fun _ h => List.mem_cons_of_mem _ (List.mem_append_left _ (List.mem_append_right _ h))) (by decide +kernel))
set_option maxRecDepth 20000 in
theorem gL_refuses_L_passes : GoodIn wsL_refuses (va_wsS RL 144 yL_passes wsL_passes) := goodIn_app (goodIn_of _ (by decide +kernel)) ggL_refuses_L_passes
theorem dL_refuses_0 : decode cL_refuses 0 = .ok (.iload_n 1, 1) := by decide +kernel
theorem dL_refuses_1 : decode cL_refuses 1 = .ok (.iconst 2, 1) := by decide +kernel
theorem dL_refuses_2 : decode cL_refuses 2 = .ok (.irem, 1) := by decide +kernel
theorem dL_refuses_3 : decode cL_refuses 3 = .ok (.ifCond .ne 12, 3) := by decide +kernel
theorem dL_refuses_6 : decode cL_refuses 6 = .ok (.iconst (-1), 1) := by decide +kernel
theorem dL_refuses_7 : decode cL_refuses 7 = .ok (.iload_n 1, 1) := by decide +kernel
theorem dL_refuses_8 : decode cL_refuses 8 = .ok (.bipush 50, 2) := by decide +kernel
theorem dL_refuses_10 : decode cL_refuses 10 = .ok (.irem, 1) := by decide +kernel
theorem dL_refuses_11 : decode cL_refuses 11 = .ok (.isub, 1) := by decide +kernel
theorem dL_refuses_12 : decode cL_refuses 12 = .ok (.goto 12, 3) := by decide +kernel
theorem dL_refuses_15 : decode cL_refuses 15 = .ok (.aload_n 0, 1) := by decide +kernel
theorem dL_refuses_16 : decode cL_refuses 16 = .ok (.invokevirtual 82, 3) := by decide +kernel
theorem dL_refuses_19 : decode cL_refuses 19 = .ok (.iload_n 1, 1) := by decide +kernel
theorem dL_refuses_20 : decode cL_refuses 20 = .ok (.bipush 50, 2) := by decide +kernel
theorem dL_refuses_22 : decode cL_refuses 22 = .ok (.irem, 1) := by decide +kernel
theorem dL_refuses_23 : decode cL_refuses 23 = .ok (.iadd, 1) := by decide +kernel
theorem dL_refuses_24 : decode cL_refuses 24 = .ok (.istore_n 2, 1) := by decide +kernel
theorem dL_refuses_25 : decode cL_refuses 25 = .ok (.iload_n 1, 1) := by decide +kernel
theorem dL_refuses_26 : decode cL_refuses 26 = .ok (.iconst 2, 1) := by decide +kernel
theorem dL_refuses_27 : decode cL_refuses 27 = .ok (.irem, 1) := by decide +kernel
theorem dL_refuses_28 : decode cL_refuses 28 = .ok (.ifCond .ne 12, 3) := by decide +kernel
theorem dL_refuses_31 : decode cL_refuses 31 = .ok (.iconst (-1), 1) := by decide +kernel
theorem dL_refuses_32 : decode cL_refuses 32 = .ok (.iload_n 1, 1) := by decide +kernel
theorem dL_refuses_33 : decode cL_refuses 33 = .ok (.bipush 50, 2) := by decide +kernel
theorem dL_refuses_35 : decode cL_refuses 35 = .ok (.irem, 1) := by decide +kernel
theorem dL_refuses_36 : decode cL_refuses 36 = .ok (.isub, 1) := by decide +kernel
theorem dL_refuses_37 : decode cL_refuses 37 = .ok (.goto 12, 3) := by decide +kernel
theorem dL_refuses_40 : decode cL_refuses 40 = .ok (.aload_n 0, 1) := by decide +kernel
theorem dL_refuses_41 : decode cL_refuses 41 = .ok (.invokevirtual 86, 3) := by decide +kernel
theorem dL_refuses_44 : decode cL_refuses 44 = .ok (.iload_n 1, 1) := by decide +kernel
theorem dL_refuses_45 : decode cL_refuses 45 = .ok (.bipush 50, 2) := by decide +kernel
theorem dL_refuses_47 : decode cL_refuses 47 = .ok (.irem, 1) := by decide +kernel
theorem dL_refuses_48 : decode cL_refuses 48 = .ok (.iadd, 1) := by decide +kernel
theorem dL_refuses_49 : decode cL_refuses 49 = .ok (.istore_n 3, 1) := by decide +kernel
theorem dL_refuses_50 : decode cL_refuses 50 = .ok (.iload_n 1, 1) := by decide +kernel
theorem dL_refuses_51 : decode cL_refuses 51 = .ok (.iconst 2, 1) := by decide +kernel
theorem dL_refuses_52 : decode cL_refuses 52 = .ok (.irem, 1) := by decide +kernel
theorem dL_refuses_53 : decode cL_refuses 53 = .ok (.ifCond .ne 12, 3) := by decide +kernel
theorem dL_refuses_56 : decode cL_refuses 56 = .ok (.iconst (-1), 1) := by decide +kernel
theorem dL_refuses_57 : decode cL_refuses 57 = .ok (.iload_n 1, 1) := by decide +kernel
theorem dL_refuses_58 : decode cL_refuses 58 = .ok (.bipush 50, 2) := by decide +kernel
theorem dL_refuses_60 : decode cL_refuses 60 = .ok (.irem, 1) := by decide +kernel
theorem dL_refuses_61 : decode cL_refuses 61 = .ok (.isub, 1) := by decide +kernel
theorem dL_refuses_62 : decode cL_refuses 62 = .ok (.goto 10, 3) := by decide +kernel
theorem dL_refuses_65 : decode cL_refuses 65 = .ok (.bipush 8, 2) := by decide +kernel
theorem dL_refuses_67 : decode cL_refuses 67 = .ok (.iload_n 1, 1) := by decide +kernel
theorem dL_refuses_68 : decode cL_refuses 68 = .ok (.bipush 50, 2) := by decide +kernel
theorem dL_refuses_70 : decode cL_refuses 70 = .ok (.irem, 1) := by decide +kernel
theorem dL_refuses_71 : decode cL_refuses 71 = .ok (.iadd, 1) := by decide +kernel
theorem dL_refuses_72 : decode cL_refuses 72 = .ok (.istore 4, 2) := by decide +kernel
theorem dL_refuses_74 : decode cL_refuses 74 = .ok (.aload_n 0, 1) := by decide +kernel
theorem dL_refuses_75 : decode cL_refuses 75 = .ok (.iload 4, 2) := by decide +kernel
theorem dL_refuses_77 : decode cL_refuses 77 = .ok (.iconst 0, 1) := by decide +kernel
theorem dL_refuses_78 : decode cL_refuses 78 = .ok (.invokestatic 89, 3) := by decide +kernel
theorem dL_refuses_81 : decode cL_refuses 81 = .ok (.ldc 15, 2) := by decide +kernel
theorem dL_refuses_83 : decode cL_refuses 83 = .ok (.if_icmp .ne 470, 3) := by decide +kernel
theorem dL_refuses_86 : decode cL_refuses 86 = .ok (.aload_n 0, 1) := by decide +kernel
theorem dL_refuses_87 : decode cL_refuses 87 = .ok (.iload_n 1, 1) := by decide +kernel
theorem dL_refuses_88 : decode cL_refuses 88 = .ok (.bipush 8, 2) := by decide +kernel
theorem dL_refuses_90 : decode cL_refuses 90 = .ok (.irem, 1) := by decide +kernel
theorem dL_refuses_91 : decode cL_refuses 91 = .ok (.sipush (-721), 3) := by decide +kernel
theorem dL_refuses_94 : decode cL_refuses 94 = .ok (.iload_n 1, 1) := by decide +kernel
theorem dL_refuses_95 : decode cL_refuses 95 = .ok (.isub, 1) := by decide +kernel
theorem dL_refuses_96 : decode cL_refuses 96 = .ok (.invokestatic 89, 3) := by decide +kernel
theorem dL_refuses_99 : decode cL_refuses 99 = .ok (.ldc 15, 2) := by decide +kernel
theorem dL_refuses_101 : decode cL_refuses 101 = .ok (.if_icmp .ne 452, 3) := by decide +kernel
theorem dL_refuses_104 : decode cL_refuses 104 = .ok (.aload_n 0, 1) := by decide +kernel
theorem dL_refuses_105 : decode cL_refuses 105 = .ok (.iload_n 1, 1) := by decide +kernel
theorem dL_refuses_106 : decode cL_refuses 106 = .ok (.bipush 8, 2) := by decide +kernel
theorem dL_refuses_108 : decode cL_refuses 108 = .ok (.irem, 1) := by decide +kernel
theorem dL_refuses_109 : decode cL_refuses 109 = .ok (.sipush 841, 3) := by decide +kernel
theorem dL_refuses_112 : decode cL_refuses 112 = .ok (.iload_n 1, 1) := by decide +kernel
theorem dL_refuses_113 : decode cL_refuses 113 = .ok (.iadd, 1) := by decide +kernel
theorem dL_refuses_114 : decode cL_refuses 114 = .ok (.invokestatic 89, 3) := by decide +kernel
theorem dL_refuses_117 : decode cL_refuses 117 = .ok (.ldc 15, 2) := by decide +kernel
theorem dL_refuses_119 : decode cL_refuses 119 = .ok (.if_icmp .ne 434, 3) := by decide +kernel
theorem dL_refuses_122 : decode cL_refuses 122 = .ok (.aload_n 0, 1) := by decide +kernel
theorem dL_refuses_123 : decode cL_refuses 123 = .ok (.iload_n 2, 1) := by decide +kernel
theorem dL_refuses_124 : decode cL_refuses 124 = .ok (.iconst 1, 1) := by decide +kernel
theorem dL_refuses_125 : decode cL_refuses 125 = .ok (.invokestatic 95, 3) := by decide +kernel
theorem dL_refuses_128 : decode cL_refuses 128 = .ok (.ldc 25, 2) := by decide +kernel
theorem dL_refuses_130 : decode cL_refuses 130 = .ok (.if_icmp .ne 423, 3) := by decide +kernel
theorem dL_refuses_133 : decode cL_refuses 133 = .ok (.aload_n 0, 1) := by decide +kernel
theorem dL_refuses_134 : decode cL_refuses 134 = .ok (.iload_n 2, 1) := by decide +kernel
theorem dL_refuses_135 : decode cL_refuses 135 = .ok (.iconst 0, 1) := by decide +kernel
theorem dL_refuses_136 : decode cL_refuses 136 = .ok (.invokestatic 99, 3) := by decide +kernel
theorem dL_refuses_139 : decode cL_refuses 139 = .ok (.ldc 25, 2) := by decide +kernel
theorem dL_refuses_141 : decode cL_refuses 141 = .ok (.if_icmp .ne 412, 3) := by decide +kernel
theorem dL_refuses_144 : decode cL_refuses 144 = .ok (.aload_n 0, 1) := by decide +kernel
theorem dL_refuses_145 : decode cL_refuses 145 = .ok (.iload_n 2, 1) := by decide +kernel
theorem dL_refuses_146 : decode cL_refuses 146 = .ok (.iconst (-1), 1) := by decide +kernel
theorem dL_refuses_147 : decode cL_refuses 147 = .ok (.iconst (-1), 1) := by decide +kernel
theorem dL_refuses_148 : decode cL_refuses 148 = .ok (.invokestatic 102, 3) := by decide +kernel
theorem dL_refuses_151 : decode cL_refuses 151 = .ok (.ldc 25, 2) := by decide +kernel
theorem dL_refuses_153 : decode cL_refuses 153 = .ok (.if_icmp .ne 400, 3) := by decide +kernel
theorem dL_refuses_156 : decode cL_refuses 156 = .ok (.aload_n 0, 1) := by decide +kernel
theorem dL_refuses_157 : decode cL_refuses 157 = .ok (.iload_n 2, 1) := by decide +kernel
theorem dL_refuses_158 : decode cL_refuses 158 = .ok (.bipush 9, 2) := by decide +kernel
theorem dL_refuses_160 : decode cL_refuses 160 = .ok (.iconst 1, 1) := by decide +kernel
theorem dL_refuses_161 : decode cL_refuses 161 = .ok (.invokestatic 106, 3) := by decide +kernel
theorem dL_refuses_164 : decode cL_refuses 164 = .ok (.ldc 25, 2) := by decide +kernel
theorem dL_refuses_166 : decode cL_refuses 166 = .ok (.if_icmp .ne 387, 3) := by decide +kernel
theorem dL_refuses_169 : decode cL_refuses 169 = .ok (.aload_n 0, 1) := by decide +kernel
theorem dL_refuses_170 : decode cL_refuses 170 = .ok (.iload_n 2, 1) := by decide +kernel
theorem dL_refuses_171 : decode cL_refuses 171 = .ok (.invokestatic 110, 3) := by decide +kernel
theorem dL_refuses_174 : decode cL_refuses 174 = .ok (.ldc 25, 2) := by decide +kernel
theorem dL_refuses_176 : decode cL_refuses 176 = .ok (.if_icmp .ne 377, 3) := by decide +kernel
theorem dL_refuses_179 : decode cL_refuses 179 = .ok (.aload_n 0, 1) := by decide +kernel
theorem dL_refuses_180 : decode cL_refuses 180 = .ok (.iload_n 2, 1) := by decide +kernel
theorem dL_refuses_181 : decode cL_refuses 181 = .ok (.invokestatic 114, 3) := by decide +kernel
theorem dL_refuses_184 : decode cL_refuses 184 = .ok (.ldc 25, 2) := by decide +kernel
theorem dL_refuses_186 : decode cL_refuses 186 = .ok (.if_icmp .ne 367, 3) := by decide +kernel
theorem dL_refuses_189 : decode cL_refuses 189 = .ok (.aload_n 0, 1) := by decide +kernel
theorem dL_refuses_190 : decode cL_refuses 190 = .ok (.iload 4, 2) := by decide +kernel
theorem dL_refuses_192 : decode cL_refuses 192 = .ok (.iconst 0, 1) := by decide +kernel
theorem dL_refuses_193 : decode cL_refuses 193 = .ok (.iconst 1, 1) := by decide +kernel
theorem dL_refuses_194 : decode cL_refuses 194 = .ok (.iconst 5, 1) := by decide +kernel
theorem dL_refuses_195 : decode cL_refuses 195 = .ok (.invokestatic 117, 3) := by decide +kernel
theorem dL_refuses_198 : decode cL_refuses 198 = .ok (.ldc 15, 2) := by decide +kernel
theorem dL_refuses_200 : decode cL_refuses 200 = .ok (.if_icmp .ne 353, 3) := by decide +kernel
theorem dL_refuses_203 : decode cL_refuses 203 = .ok (.aload_n 0, 1) := by decide +kernel
theorem dL_refuses_204 : decode cL_refuses 204 = .ok (.iload_n 1, 1) := by decide +kernel
theorem dL_refuses_205 : decode cL_refuses 205 = .ok (.bipush 8, 2) := by decide +kernel
theorem dL_refuses_207 : decode cL_refuses 207 = .ok (.irem, 1) := by decide +kernel
theorem dL_refuses_208 : decode cL_refuses 208 = .ok (.bipush (-2), 2) := by decide +kernel
theorem dL_refuses_210 : decode cL_refuses 210 = .ok (.iload_n 1, 1) := by decide +kernel
theorem dL_refuses_211 : decode cL_refuses 211 = .ok (.isub, 1) := by decide +kernel
theorem dL_refuses_212 : decode cL_refuses 212 = .ok (.iconst 1, 1) := by decide +kernel
theorem dL_refuses_213 : decode cL_refuses 213 = .ok (.iconst 5, 1) := by decide +kernel
theorem dL_refuses_214 : decode cL_refuses 214 = .ok (.invokestatic 117, 3) := by decide +kernel
theorem dL_refuses_217 : decode cL_refuses 217 = .ok (.ldc 15, 2) := by decide +kernel
theorem dL_refuses_219 : decode cL_refuses 219 = .ok (.if_icmp .ne 334, 3) := by decide +kernel
theorem dL_refuses_222 : decode cL_refuses 222 = .ok (.aload_n 0, 1) := by decide +kernel
theorem dL_refuses_223 : decode cL_refuses 223 = .ok (.iload_n 1, 1) := by decide +kernel
theorem dL_refuses_224 : decode cL_refuses 224 = .ok (.bipush 8, 2) := by decide +kernel
theorem dL_refuses_226 : decode cL_refuses 226 = .ok (.irem, 1) := by decide +kernel
theorem dL_refuses_227 : decode cL_refuses 227 = .ok (.bipush 10, 2) := by decide +kernel
theorem dL_refuses_229 : decode cL_refuses 229 = .ok (.iload_n 1, 1) := by decide +kernel
theorem dL_refuses_230 : decode cL_refuses 230 = .ok (.iadd, 1) := by decide +kernel
theorem dL_refuses_231 : decode cL_refuses 231 = .ok (.iconst 1, 1) := by decide +kernel
theorem dL_refuses_232 : decode cL_refuses 232 = .ok (.iconst 5, 1) := by decide +kernel
theorem dL_refuses_233 : decode cL_refuses 233 = .ok (.invokestatic 117, 3) := by decide +kernel
theorem dL_refuses_236 : decode cL_refuses 236 = .ok (.ldc 15, 2) := by decide +kernel
theorem dL_refuses_238 : decode cL_refuses 238 = .ok (.if_icmp .ne 315, 3) := by decide +kernel
theorem dL_refuses_241 : decode cL_refuses 241 = .ok (.aload_n 0, 1) := by decide +kernel
theorem dL_refuses_242 : decode cL_refuses 242 = .ok (.iload_n 1, 1) := by decide +kernel
theorem dL_refuses_243 : decode cL_refuses 243 = .ok (.bipush 8, 2) := by decide +kernel
theorem dL_refuses_245 : decode cL_refuses 245 = .ok (.irem, 1) := by decide +kernel
theorem dL_refuses_246 : decode cL_refuses 246 = .ok (.iconst 0, 1) := by decide +kernel
theorem dL_refuses_247 : decode cL_refuses 247 = .ok (.iconst 1, 1) := by decide +kernel
theorem dL_refuses_248 : decode cL_refuses 248 = .ok (.iconst 0, 1) := by decide +kernel
theorem dL_refuses_249 : decode cL_refuses 249 = .ok (.invokestatic 117, 3) := by decide +kernel
theorem dL_refuses_252 : decode cL_refuses 252 = .ok (.ldc 15, 2) := by decide +kernel
theorem dL_refuses_254 : decode cL_refuses 254 = .ok (.if_icmp .ne 299, 3) := by decide +kernel
theorem dL_refuses_257 : decode cL_refuses 257 = .ok (.aload_n 0, 1) := by decide +kernel
theorem dL_refuses_258 : decode cL_refuses 258 = .ok (.iload_n 1, 1) := by decide +kernel
theorem dL_refuses_259 : decode cL_refuses 259 = .ok (.bipush 8, 2) := by decide +kernel
theorem dL_refuses_261 : decode cL_refuses 261 = .ok (.irem, 1) := by decide +kernel
theorem dL_refuses_262 : decode cL_refuses 262 = .ok (.iconst 0, 1) := by decide +kernel
theorem dL_refuses_263 : decode cL_refuses 263 = .ok (.iconst 0, 1) := by decide +kernel
theorem dL_refuses_264 : decode cL_refuses 264 = .ok (.sipush 10001, 3) := by decide +kernel
theorem dL_refuses_267 : decode cL_refuses 267 = .ok (.iload_n 1, 1) := by decide +kernel
theorem dL_refuses_268 : decode cL_refuses 268 = .ok (.iadd, 1) := by decide +kernel
theorem dL_refuses_269 : decode cL_refuses 269 = .ok (.invokestatic 117, 3) := by decide +kernel
theorem dL_refuses_272 : decode cL_refuses 272 = .ok (.ldc 15, 2) := by decide +kernel
theorem dL_refuses_274 : decode cL_refuses 274 = .ok (.if_icmp .ne 279, 3) := by decide +kernel
theorem dL_refuses_277 : decode cL_refuses 277 = .ok (.aload_n 0, 1) := by decide +kernel
theorem dL_refuses_278 : decode cL_refuses 278 = .ok (.iconst 3, 1) := by decide +kernel
theorem dL_refuses_279 : decode cL_refuses 279 = .ok (.iload_n 1, 1) := by decide +kernel
theorem dL_refuses_280 : decode cL_refuses 280 = .ok (.iadd, 1) := by decide +kernel
theorem dL_refuses_281 : decode cL_refuses 281 = .ok (.iconst 0, 1) := by decide +kernel
