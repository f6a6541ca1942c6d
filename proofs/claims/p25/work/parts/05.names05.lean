set_option maxRecDepth 20000 in
theorem ggL_alike_L_badge : GoodIn wsL_alike wsL_badge := goodIn_ca (goodIn_r _ [25, 26, 27, 28, 29, 30, 4, 31, 16, 32, 33, 34, 35, 36, 37, 38, 11, 39, 40, 41, 42, 43, 44, 45, 46, 47, 48, 6, 49, 126, 127, 128, 129, 130, 131, 132, 133, 134, 135, 136, 137, 138, 139, 140, 141, 142, 143, 144] (by decide +kernel) (by decide +kernel)) (goodIn_sub (fun _ h => List.mem_cons_of_mem _ (List.mem_append_right _ h)) (by decide +kernel))
set_option maxRecDepth 20000 in
theorem gL_alike_L_badge : GoodIn wsL_alike (va_wsS RL 138 yL_badge wsL_badge) := goodIn_app (goodIn_of _ (by decide +kernel)) ggL_alike_L_badge
set_option maxRecDepth 20000 in
theorem ggL_alike_L_waiting : GoodIn wsL_alike wsL_waiting := goodIn_ca (goodIn_r _ [52, 26, 27, 53, 54, 55, 4, 56, 33, 34, 35, 36, 37, 38, 11, 57, 58, 59, 60, 16, 61, 62, 63, 64, 65, 45, 46, 47, 48, 6, 49, 39, 40, 41, 42, 43, 44, 126, 127, 128, 129, 130, 131, 132, 133, 134, 135, 136, 137, 138, 139, 140, 141, 142, 143, 144] (by decide +kernel) (by decide +kernel)) (goodIn_sub (fun _ h => List.mem_cons_of_mem _ (List.mem_append_right _ h)) (by decide +kernel))
set_option maxRecDepth 20000 in
theorem gL_alike_L_waiting : GoodIn wsL_alike (va_wsS RL 140 yL_waiting wsL_waiting) := goodIn_app (goodIn_of _ (by decide +kernel)) ggL_alike_L_waiting
set_option maxRecDepth 20000 in
theorem ggL_alike_L_quota : GoodIn wsL_alike wsL_quota := goodIn_ca (goodIn_r _ [68, 26, 27, 69, 70, 71, 4, 72, 33, 34, 35, 36, 37, 38, 11, 73, 74, 75, 76, 77, 6, 78, 126, 127, 128, 129, 130, 131, 132, 133, 134, 135, 136, 137, 138, 139, 140, 141, 142, 143, 144] (by decide +kernel) (by decide +kernel)) (goodIn_sub (fun _ h => List.mem_cons_of_mem _ (List.mem_append_right _ h)) (by decide +kernel))
set_option maxRecDepth 20000 in
theorem gL_alike_L_quota : GoodIn wsL_alike (va_wsS RL 142 yL_quota wsL_quota) := goodIn_app (goodIn_of _ (by decide +kernel)) ggL_alike_L_quota
set_option maxRecDepth 20000 in
theorem ggL_alike_L_quiet : GoodIn wsL_alike wsL_quiet := goodIn_ca (goodIn_r _ [81, 26, 27, 82, 83, 84, 4, 85, 33, 34, 35, 36, 37, 38, 11, 86, 87, 88, 89, 90, 91, 92, 93, 94, 95, 6, 96, 97, 98, 99, 100, 126, 127, 128, 129, 130, 131, 132, 133, 134, 135, 136, 137, 138, 139, 140, 141, 142, 143, 144] (by decide +kernel) (by decide +kernel)) (goodIn_sub (fun _ h => List.mem_cons_of_mem _ (List.mem_append_right _ h)) (by decide +kernel))
set_option maxRecDepth 20000 in
theorem gL_alike_L_quiet : GoodIn wsL_alike (va_wsS RL 114 yL_quiet wsL_quiet) := goodIn_app (goodIn_of _ (by decide +kernel)) ggL_alike_L_quiet
set_option maxRecDepth 20000 in
theorem ggL_alike_L_stands : GoodIn wsL_alike wsL_stands := goodIn_ca (goodIn_r _ [103, 26, 27, 104, 105, 106, 4, 107, 108, 109, 110, 111, 37, 38, 16, 45, 46, 47, 48, 6, 49, 126, 127, 128, 129, 130, 131, 132, 133, 134, 135, 136, 137, 138, 139, 140, 141, 142, 143, 144] (by decide +kernel) (by decide +kernel)) (goodIn_sub (fun _ h => List.mem_cons_of_mem _ (List.mem_append_right _ h)) (by decide +kernel))
set_option maxRecDepth 20000 in
theorem gL_alike_L_stands : GoodIn wsL_alike (va_wsS RL 128 yL_stands wsL_stands) := goodIn_app (goodIn_of _ (by decide +kernel)) ggL_alike_L_stands
set_option maxRecDepth 20000 in
theorem ggL_alike_L_waits : GoodIn wsL_alike wsL_waits := goodIn_ca (goodIn_r _ [114, 26, 27, 115, 116, 117, 4, 118, 108, 109, 110, 111, 37, 38, 16, 61, 62, 63, 64, 65, 45, 46, 47, 48, 6, 49, 126, 127, 128, 129, 130, 131, 132, 133, 134, 135, 136, 137, 138, 139, 140, 141, 142, 143, 144] (by decide +kernel) (by decide +kernel)) (goodIn_sub (fun _ h => List.mem_cons_of_mem _ (List.mem_append_right _ h)) (by decide +kernel))
set_option maxRecDepth 20000 in
theorem gL_alike_L_waits : GoodIn wsL_alike (va_wsS RL 130 yL_waits wsL_waits) := goodIn_app (goodIn_of _ (by decide +kernel)) ggL_alike_L_waits
set_option maxRecDepth 20000 in
theorem ggL_alike_L_delivered : GoodIn wsL_alike wsL_delivered := goodIn_ca (goodIn_r _ [121, 26, 27, 122, 123, 124, 4, 125, 32, 108, 109, 110, 111, 37, 38, 16, 126, 127, 128, 129, 130, 131, 132, 133, 134, 135, 136, 137, 138, 139, 140, 141, 142, 143, 144] (by decide +kernel) (by decide +kernel)) (goodIn_sub (fun _ h => List.mem_cons_of_mem _ (List.mem_append_right _ h)) (by decide +kernel))
set_option maxRecDepth 20000 in
theorem gL_alike_L_delivered : GoodIn wsL_alike (va_wsS RL 133 yL_delivered wsL_delivered) := goodIn_app (goodIn_of _ (by decide +kernel)) ggL_alike_L_delivered
theorem dL_alike_0 : decode cL_alike 0 = .ok (.aload_n 0, 1) := by decide +kernel
theorem dL_alike_1 : decode cL_alike 1 = .ok (.invokevirtual 147, 3) := by decide +kernel
theorem dL_alike_4 : decode cL_alike 4 = .ok (.aload_n 1, 1) := by decide +kernel
theorem dL_alike_5 : decode cL_alike 5 = .ok (.invokevirtual 147, 3) := by decide +kernel
theorem dL_alike_8 : decode cL_alike 8 = .ok (.if_icmp .ne 40, 3) := by decide +kernel
theorem dL_alike_11 : decode cL_alike 11 = .ok (.aload_n 0, 1) := by decide +kernel
theorem dL_alike_12 : decode cL_alike 12 = .ok (.invokevirtual 82, 3) := by decide +kernel
theorem dL_alike_15 : decode cL_alike 15 = .ok (.aload_n 1, 1) := by decide +kernel
theorem dL_alike_16 : decode cL_alike 16 = .ok (.invokevirtual 82, 3) := by decide +kernel
theorem dL_alike_19 : decode cL_alike 19 = .ok (.if_icmp .ne 29, 3) := by decide +kernel
theorem dL_alike_22 : decode cL_alike 22 = .ok (.aload_n 0, 1) := by decide +kernel
theorem dL_alike_23 : decode cL_alike 23 = .ok (.invokevirtual 86, 3) := by decide +kernel
theorem dL_alike_26 : decode cL_alike 26 = .ok (.aload_n 1, 1) := by decide +kernel
theorem dL_alike_27 : decode cL_alike 27 = .ok (.invokevirtual 86, 3) := by decide +kernel
theorem dL_alike_30 : decode cL_alike 30 = .ok (.if_icmp .ne 18, 3) := by decide +kernel
theorem dL_alike_33 : decode cL_alike 33 = .ok (.aload_n 0, 1) := by decide +kernel
theorem dL_alike_34 : decode cL_alike 34 = .ok (.invokevirtual 150, 3) := by decide +kernel
theorem dL_alike_37 : decode cL_alike 37 = .ok (.aload_n 1, 1) := by decide +kernel
theorem dL_alike_38 : decode cL_alike 38 = .ok (.invokevirtual 150, 3) := by decide +kernel
theorem dL_alike_41 : decode cL_alike 41 = .ok (.if_icmp .ne 7, 3) := by decide +kernel
theorem dL_alike_44 : decode cL_alike 44 = .ok (.iconst 1, 1) := by decide +kernel
theorem dL_alike_45 : decode cL_alike 45 = .ok (.goto 4, 3) := by decide +kernel
theorem dL_alike_48 : decode cL_alike 48 = .ok (.iconst 0, 1) := by decide +kernel
theorem dL_alike_49 : decode cL_alike 49 = .ok (.istore_n 2, 1) := by decide +kernel
theorem dL_alike_50 : decode cL_alike 50 = .ok (.iconst 0, 1) := by decide +kernel
theorem dL_alike_51 : decode cL_alike 51 = .ok (.istore_n 3, 1) := by decide +kernel
theorem dL_alike_52 : decode cL_alike 52 = .ok (.iload_n 3, 1) := by decide +kernel
theorem dL_alike_53 : decode cL_alike 53 = .ok (.aload_n 0, 1) := by decide +kernel
theorem dL_alike_54 : decode cL_alike 54 = .ok (.invokevirtual 82, 3) := by decide +kernel
theorem dL_alike_57 : decode cL_alike 57 = .ok (.if_icmp .ge 71, 3) := by decide +kernel
theorem dL_alike_60 : decode cL_alike 60 = .ok (.iload_n 2, 1) := by decide +kernel
theorem dL_alike_61 : decode cL_alike 61 = .ok (.ifCond .eq 67, 3) := by decide +kernel
theorem dL_alike_64 : decode cL_alike 64 = .ok (.aload_n 0, 1) := by decide +kernel
theorem dL_alike_65 : decode cL_alike 65 = .ok (.iload_n 3, 1) := by decide +kernel
theorem dL_alike_66 : decode cL_alike 66 = .ok (.invokestatic 138, 3) := by decide +kernel
theorem dL_alike_69 : decode cL_alike 69 = .ok (.aload_n 1, 1) := by decide +kernel
theorem dL_alike_70 : decode cL_alike 70 = .ok (.iload_n 3, 1) := by decide +kernel
theorem dL_alike_71 : decode cL_alike 71 = .ok (.invokestatic 138, 3) := by decide +kernel
theorem dL_alike_74 : decode cL_alike 74 = .ok (.if_icmp .ne 46, 3) := by decide +kernel
theorem dL_alike_77 : decode cL_alike 77 = .ok (.aload_n 0, 1) := by decide +kernel
theorem dL_alike_78 : decode cL_alike 78 = .ok (.iload_n 3, 1) := by decide +kernel
theorem dL_alike_79 : decode cL_alike 79 = .ok (.invokestatic 140, 3) := by decide +kernel
theorem dL_alike_82 : decode cL_alike 82 = .ok (.aload_n 1, 1) := by decide +kernel
theorem dL_alike_83 : decode cL_alike 83 = .ok (.iload_n 3, 1) := by decide +kernel
theorem dL_alike_84 : decode cL_alike 84 = .ok (.invokestatic 140, 3) := by decide +kernel
theorem dL_alike_87 : decode cL_alike 87 = .ok (.if_icmp .ne 33, 3) := by decide +kernel
theorem dL_alike_90 : decode cL_alike 90 = .ok (.aload_n 0, 1) := by decide +kernel
theorem dL_alike_91 : decode cL_alike 91 = .ok (.iload_n 3, 1) := by decide +kernel
theorem dL_alike_92 : decode cL_alike 92 = .ok (.invokestatic 142, 3) := by decide +kernel
theorem dL_alike_95 : decode cL_alike 95 = .ok (.aload_n 1, 1) := by decide +kernel
theorem dL_alike_96 : decode cL_alike 96 = .ok (.iload_n 3, 1) := by decide +kernel
theorem dL_alike_97 : decode cL_alike 97 = .ok (.invokestatic 142, 3) := by decide +kernel
theorem dL_alike_100 : decode cL_alike 100 = .ok (.if_icmp .ne 20, 3) := by decide +kernel
theorem dL_alike_103 : decode cL_alike 103 = .ok (.aload_n 0, 1) := by decide +kernel
theorem dL_alike_104 : decode cL_alike 104 = .ok (.iload_n 3, 1) := by decide +kernel
theorem dL_alike_105 : decode cL_alike 105 = .ok (.invokestatic 114, 3) := by decide +kernel
theorem dL_alike_108 : decode cL_alike 108 = .ok (.aload_n 1, 1) := by decide +kernel
theorem dL_alike_109 : decode cL_alike 109 = .ok (.iload_n 3, 1) := by decide +kernel
theorem dL_alike_110 : decode cL_alike 110 = .ok (.invokestatic 114, 3) := by decide +kernel
theorem dL_alike_113 : decode cL_alike 113 = .ok (.if_icmp .ne 7, 3) := by decide +kernel
theorem dL_alike_116 : decode cL_alike 116 = .ok (.iconst 1, 1) := by decide +kernel
theorem dL_alike_117 : decode cL_alike 117 = .ok (.goto 4, 3) := by decide +kernel
theorem dL_alike_120 : decode cL_alike 120 = .ok (.iconst 0, 1) := by decide +kernel
theorem dL_alike_121 : decode cL_alike 121 = .ok (.istore_n 2, 1) := by decide +kernel
theorem dL_alike_122 : decode cL_alike 122 = .ok (.iinc 3 1, 3) := by decide +kernel
theorem dL_alike_125 : decode cL_alike 125 = .ok (.goto (-73), 3) := by decide +kernel
theorem dL_alike_128 : decode cL_alike 128 = .ok (.iconst 0, 1) := by decide +kernel
theorem dL_alike_129 : decode cL_alike 129 = .ok (.istore_n 3, 1) := by decide +kernel
theorem dL_alike_130 : decode cL_alike 130 = .ok (.iload_n 3, 1) := by decide +kernel
theorem dL_alike_131 : decode cL_alike 131 = .ok (.aload_n 0, 1) := by decide +kernel
theorem dL_alike_132 : decode cL_alike 132 = .ok (.invokevirtual 86, 3) := by decide +kernel
theorem dL_alike_135 : decode cL_alike 135 = .ok (.if_icmp .ge 58, 3) := by decide +kernel
theorem dL_alike_138 : decode cL_alike 138 = .ok (.iload_n 2, 1) := by decide +kernel
theorem dL_alike_139 : decode cL_alike 139 = .ok (.ifCond .eq 54, 3) := by decide +kernel
theorem dL_alike_142 : decode cL_alike 142 = .ok (.aload_n 0, 1) := by decide +kernel
theorem dL_alike_143 : decode cL_alike 143 = .ok (.iload_n 3, 1) := by decide +kernel
theorem dL_alike_144 : decode cL_alike 144 = .ok (.invokestatic 128, 3) := by decide +kernel
theorem dL_alike_147 : decode cL_alike 147 = .ok (.aload_n 1, 1) := by decide +kernel
theorem dL_alike_148 : decode cL_alike 148 = .ok (.iload_n 3, 1) := by decide +kernel
theorem dL_alike_149 : decode cL_alike 149 = .ok (.invokestatic 128, 3) := by decide +kernel
theorem dL_alike_152 : decode cL_alike 152 = .ok (.if_icmp .ne 33, 3) := by decide +kernel
theorem dL_alike_155 : decode cL_alike 155 = .ok (.aload_n 0, 1) := by decide +kernel
theorem dL_alike_156 : decode cL_alike 156 = .ok (.iload_n 3, 1) := by decide +kernel
theorem dL_alike_157 : decode cL_alike 157 = .ok (.invokestatic 130, 3) := by decide +kernel
theorem dL_alike_160 : decode cL_alike 160 = .ok (.aload_n 1, 1) := by decide +kernel
theorem dL_alike_161 : decode cL_alike 161 = .ok (.iload_n 3, 1) := by decide +kernel
theorem dL_alike_162 : decode cL_alike 162 = .ok (.invokestatic 130, 3) := by decide +kernel
theorem dL_alike_165 : decode cL_alike 165 = .ok (.if_icmp .ne 20, 3) := by decide +kernel
theorem dL_alike_168 : decode cL_alike 168 = .ok (.aload_n 0, 1) := by decide +kernel
theorem dL_alike_169 : decode cL_alike 169 = .ok (.iload_n 3, 1) := by decide +kernel
theorem dL_alike_170 : decode cL_alike 170 = .ok (.invokestatic 133, 3) := by decide +kernel
theorem dL_alike_173 : decode cL_alike 173 = .ok (.aload_n 1, 1) := by decide +kernel
theorem dL_alike_174 : decode cL_alike 174 = .ok (.iload_n 3, 1) := by decide +kernel
theorem dL_alike_175 : decode cL_alike 175 = .ok (.invokestatic 133, 3) := by decide +kernel
theorem dL_alike_178 : decode cL_alike 178 = .ok (.if_icmp .ne 7, 3) := by decide +kernel
theorem dL_alike_181 : decode cL_alike 181 = .ok (.iconst 1, 1) := by decide +kernel
theorem dL_alike_182 : decode cL_alike 182 = .ok (.goto 4, 3) := by decide +kernel
theorem dL_alike_185 : decode cL_alike 185 = .ok (.iconst 0, 1) := by decide +kernel
theorem dL_alike_186 : decode cL_alike 186 = .ok (.istore_n 2, 1) := by decide +kernel
theorem dL_alike_187 : decode cL_alike 187 = .ok (.iinc 3 1, 3) := by decide +kernel
theorem dL_alike_190 : decode cL_alike 190 = .ok (.goto (-60), 3) := by decide +kernel
theorem dL_alike_193 : decode cL_alike 193 = .ok (.iload_n 2, 1) := by decide +kernel
theorem dL_alike_194 : decode cL_alike 194 = .ok (.ireturn, 1) := by decide +kernel
theorem dL_bits_0 : decode cL_bits 0 = .ok (.iconst 0, 1) := by decide +kernel
theorem dL_bits_1 : decode cL_bits 1 = .ok (.istore_n 1, 1) := by decide +kernel
theorem dL_bits_2 : decode cL_bits 2 = .ok (.iload_n 0, 1) := by decide +kernel
theorem dL_bits_3 : decode cL_bits 3 = .ok (.istore_n 2, 1) := by decide +kernel
theorem dL_bits_4 : decode cL_bits 4 = .ok (.iload_n 2, 1) := by decide +kernel
theorem dL_bits_5 : decode cL_bits 5 = .ok (.ifCond .eq 15, 3) := by decide +kernel
theorem dL_bits_8 : decode cL_bits 8 = .ok (.iinc 1 1, 3) := by decide +kernel
theorem dL_bits_11 : decode cL_bits 11 = .ok (.iload_n 2, 1) := by decide +kernel
theorem dL_bits_12 : decode cL_bits 12 = .ok (.iload_n 2, 1) := by decide +kernel
theorem dL_bits_13 : decode cL_bits 13 = .ok (.iconst 1, 1) := by decide +kernel
theorem dL_bits_14 : decode cL_bits 14 = .ok (.isub, 1) := by decide +kernel
theorem dL_bits_15 : decode cL_bits 15 = .ok (.iand, 1) := by decide +kernel
theorem dL_bits_16 : decode cL_bits 16 = .ok (.istore_n 2, 1) := by decide +kernel
theorem dL_bits_17 : decode cL_bits 17 = .ok (.goto (-13), 3) := by decide +kernel
theorem dL_bits_20 : decode cL_bits 20 = .ok (.iload_n 1, 1) := by decide +kernel
theorem dL_bits_21 : decode cL_bits 21 = .ok (.ireturn, 1) := by decide +kernel
set_option maxRecDepth 20000 in
theorem ggL_holds_X0_sent : GoodIn wsL_holds wsX0_sent := goodIn_r _ [5, 6, 121, 122, 123, 124, 125, 126, 127, 128, 129, 130, 131, 132, 133, 134, 135, 136, 137, 138, 139] (by decide +kernel) (by decide +kernel)
set_option maxRecDepth 20000 in
theorem gL_holds_X0_sent : GoodIn wsL_holds (wsV RL 86 RX0 yX0_sent wsX0_sent) := goodIn_app (goodIn_of _ (by decide +kernel)) ggL_holds_X0_sent
set_option maxRecDepth 20000 in
theorem ggL_holds_L_stands : GoodIn wsL_holds wsL_stands := goodIn_ca (goodIn_r _ [10, 11, 12, 13, 14, 15, 4, 16, 17, 18, 19, 20, 21, 22, 6, 23, 24, 25, 26, 27, 28, 121, 122, 123, 124, 125, 126, 127, 128, 129, 130, 131, 132, 133, 134, 135, 136, 137, 138, 139] (by decide +kernel) (by decide +kernel)) (goodIn_sub (fun _ h => List.mem_cons_of_mem _ (List.mem_append_left _ (List.mem_append_right _ h))) (by decide +kernel))
set_option maxRecDepth 20000 in
theorem gL_holds_L_stands : GoodIn wsL_holds (va_wsS RL 128 yL_stands wsL_stands) := goodIn_app (goodIn_of _ (by decide +kernel)) ggL_holds_L_stands
set_option maxRecDepth 20000 in
theorem ggL_holds_L_waits : GoodIn wsL_holds wsL_waits := goodIn_ca (goodIn_r _ [31, 11, 12, 32, 33, 34, 4, 35, 17, 18, 19, 20, 21, 22, 6, 36, 37, 38, 39, 40, 23, 24, 25, 26, 27, 28, 121, 122, 123, 124, 125, 126, 127, 128, 129, 130, 131, 132, 133, 134, 135, 136, 137, 138, 139] (by decide +kernel) (by decide +kernel)) (goodIn_sub (fun _ h => List.mem_cons_of_mem _ (List.mem_append_left _ (List.mem_append_right _ h))) (by decide +kernel))
set_option maxRecDepth 20000 in
theorem gL_holds_L_waits : GoodIn wsL_holds (va_wsS RL 130 yL_waits wsL_waits) := goodIn_app (goodIn_of _ (by decide +kernel)) ggL_holds_L_waits
set_option maxRecDepth 20000 in
theorem ggL_holds_L_bits : GoodIn wsL_holds wsL_bits := goodIn_r _ [43] (by decide +kernel) (by decide +kernel)
set_option maxRecDepth 20000 in
theorem gL_holds_L_bits : GoodIn wsL_holds (va_wsS RL 153 yL_bits wsL_bits) := goodIn_app (goodIn_of _ (by decide +kernel)) ggL_holds_L_bits
set_option maxRecDepth 20000 in
theorem ggL_holds_L_delivered : GoodIn wsL_holds wsL_delivered := goodIn_ca (goodIn_r _ [46, 11, 12, 47, 48, 49, 4, 50, 51, 17, 18, 19, 20, 21, 22, 6, 121, 122, 123, 124, 125, 126, 127, 128, 129, 130, 131, 132, 133, 134, 135, 136, 137, 138, 139] (by decide +kernel) (by decide +kernel)) (goodIn_sub (fun _ h => List.mem_cons_of_mem _ (List.mem_append_left _ (List.mem_append_right _ h))) (by decide +kernel))
set_option maxRecDepth 20000 in
theorem gL_holds_L_delivered : GoodIn wsL_holds (va_wsS RL 133 yL_delivered wsL_delivered) := goodIn_app (goodIn_of _ (by decide +kernel)) ggL_holds_L_delivered
set_option maxRecDepth 20000 in
theorem ggL_holds_X0_devices : GoodIn wsL_holds wsX0_devices := goodIn_r _ [55, 56, 121, 122, 123, 124, 125, 126, 127, 128, 129, 130, 131, 132, 133, 134, 135, 136, 137, 138, 139] (by decide +kernel) (by decide +kernel)
set_option maxRecDepth 20000 in
theorem gL_holds_X0_devices : GoodIn wsL_holds (wsV RL 82 RX0 yX0_devices wsX0_devices) := goodIn_app (goodIn_of _ (by decide +kernel)) ggL_holds_X0_devices
set_option maxRecDepth 20000 in
theorem ggL_holds_L_waiting : GoodIn wsL_holds wsL_waiting := goodIn_ca (goodIn_r _ [59, 11, 12, 60, 61, 62, 4, 63, 64, 65, 66, 67, 21, 22, 56, 68, 69, 70, 71, 6, 36, 37, 38, 39, 40, 23, 24, 25, 26, 27, 28, 72, 73, 74, 75, 76, 77, 121, 122, 123, 124, 125, 126, 127, 128, 129, 130, 131, 132, 133, 134, 135, 136, 137, 138, 139] (by decide +kernel) (by decide +kernel)) (goodIn_sub (fun _ h => List.mem_cons_of_mem _ (List.mem_append_left _ (List.mem_append_right _ h))) (by decide +kernel))
set_option maxRecDepth 20000 in
theorem gL_holds_L_waiting : GoodIn wsL_holds (va_wsS RL 140 yL_waiting wsL_waiting) := goodIn_app (goodIn_of _ (by decide +kernel)) ggL_holds_L_waiting
set_option maxRecDepth 20000 in
theorem ggL_holds_L_badge : GoodIn wsL_holds wsL_badge := goodIn_ca (goodIn_r _ [80, 11, 12, 81, 82, 83, 4, 84, 6, 51, 64, 65, 66, 67, 21, 22, 56, 72, 73, 74, 75, 76, 77, 23, 24, 25, 26, 27, 28, 121, 122, 123, 124, 125, 126, 127, 128, 129, 130, 131, 132, 133, 134, 135, 136, 137, 138, 139] (by decide +kernel) (by decide +kernel)) (goodIn_sub (fun _ h => List.mem_cons_of_mem _ (List.mem_append_left _ (List.mem_append_right _ h))) (by decide +kernel))
set_option maxRecDepth 20000 in
theorem gL_holds_L_badge : GoodIn wsL_holds (va_wsS RL 138 yL_badge wsL_badge) := goodIn_app (goodIn_of _ (by decide +kernel)) ggL_holds_L_badge
set_option maxRecDepth 20000 in
theorem ggL_holds_L_quota : GoodIn wsL_holds wsL_quota := goodIn_ca (goodIn_r _ [87, 11, 12, 88, 89, 90, 4, 91, 64, 65, 66, 67, 21, 22, 56, 92, 93, 94, 95, 96, 27, 97, 121, 122, 123, 124, 125, 126, 127, 128, 129, 130, 131, 132, 133, 134, 135, 136, 137, 138, 139] (by decide +kernel) (by decide +kernel)) (goodIn_sub (fun _ h => List.mem_cons_of_mem _ (List.mem_append_left _ (List.mem_append_right _ h))) (by decide +kernel))
set_option maxRecDepth 20000 in
theorem gL_holds_L_quota : GoodIn wsL_holds (va_wsS RL 142 yL_quota wsL_quota) := goodIn_app (goodIn_of _ (by decide +kernel)) ggL_holds_L_quota
set_option maxRecDepth 20000 in
theorem ggL_holds_L_standing : GoodIn wsL_holds wsL_standing := goodIn_ca (goodIn_r _ [100, 101, 102, 103, 104, 105, 4, 106, 107, 108, 109, 110, 111, 112, 113, 114, 115, 23, 24, 25, 26, 27, 28, 121, 122, 123, 124, 125, 126, 127, 128, 129, 130, 131, 132, 133, 134, 135, 136, 137, 138, 139] (by decide +kernel) (by decide +kernel)) (goodIn_sub (fun _ h => List.mem_cons_of_mem _ (List.mem_append_right _ h)) (by decide +kernel))
set_option maxRecDepth 20000 in
theorem gL_holds_L_standing : GoodIn wsL_holds (va_wsS RL 136 yL_standing wsL_standing) := goodIn_app (goodIn_of _ (by decide +kernel)) ggL_holds_L_standing
set_option maxRecDepth 20000 in
theorem ggL_holds_X0_deliveries : GoodIn wsL_holds wsX0_deliveries := goodIn_r _ [119, 120, 121, 122, 123, 124, 125, 126, 127, 128, 129, 130, 131, 132, 133, 134, 135, 136, 137, 138, 139] (by decide +kernel) (by decide +kernel)
set_option maxRecDepth 20000 in
theorem gL_holds_X0_deliveries : GoodIn wsL_holds (wsV RL 150 RX0 yX0_deliveries wsX0_deliveries) := goodIn_app (goodIn_of _ (by decide +kernel)) ggL_holds_X0_deliveries
theorem dL_holds_0 : decode cL_holds 0 = .ok (.iconst 0, 1) := by decide +kernel
theorem dL_holds_1 : decode cL_holds 1 = .ok (.istore_n 1, 1) := by decide +kernel
theorem dL_holds_2 : decode cL_holds 2 = .ok (.iconst 0, 1) := by decide +kernel
theorem dL_holds_3 : decode cL_holds 3 = .ok (.istore_n 2, 1) := by decide +kernel
theorem dL_holds_4 : decode cL_holds 4 = .ok (.iconst 0, 1) := by decide +kernel
theorem dL_holds_5 : decode cL_holds 5 = .ok (.istore_n 3, 1) := by decide +kernel
theorem dL_holds_6 : decode cL_holds 6 = .ok (.iconst 0, 1) := by decide +kernel
theorem dL_holds_7 : decode cL_holds 7 = .ok (.istore 4, 2) := by decide +kernel
theorem dL_holds_9 : decode cL_holds 9 = .ok (.iconst 0, 1) := by decide +kernel
theorem dL_holds_10 : decode cL_holds 10 = .ok (.istore 5, 2) := by decide +kernel
theorem dL_holds_12 : decode cL_holds 12 = .ok (.iconst 1, 1) := by decide +kernel
theorem dL_holds_13 : decode cL_holds 13 = .ok (.istore 6, 2) := by decide +kernel
theorem dL_holds_15 : decode cL_holds 15 = .ok (.iconst 0, 1) := by decide +kernel
theorem dL_holds_16 : decode cL_holds 16 = .ok (.istore 7, 2) := by decide +kernel
theorem dL_holds_18 : decode cL_holds 18 = .ok (.iload 7, 2) := by decide +kernel
theorem dL_holds_20 : decode cL_holds 20 = .ok (.aload_n 0, 1) := by decide +kernel
theorem dL_holds_21 : decode cL_holds 21 = .ok (.invokevirtual 86, 3) := by decide +kernel
theorem dL_holds_24 : decode cL_holds 24 = .ok (.if_icmp .ge 139, 3) := by decide +kernel
theorem dL_holds_27 : decode cL_holds 27 = .ok (.iload 6, 2) := by decide +kernel
theorem dL_holds_29 : decode cL_holds 29 = .ok (.ifCond .eq 134, 3) := by decide +kernel
theorem dL_holds_32 : decode cL_holds 32 = .ok (.aload_n 0, 1) := by decide +kernel
theorem dL_holds_33 : decode cL_holds 33 = .ok (.iload 7, 2) := by decide +kernel
theorem dL_holds_35 : decode cL_holds 35 = .ok (.invokestatic 128, 3) := by decide +kernel
theorem dL_holds_38 : decode cL_holds 38 = .ok (.iconst 1, 1) := by decide +kernel
theorem dL_holds_39 : decode cL_holds 39 = .ok (.if_icmp .ne 7, 3) := by decide +kernel
theorem dL_holds_42 : decode cL_holds 42 = .ok (.iconst 1, 1) := by decide +kernel
theorem dL_holds_43 : decode cL_holds 43 = .ok (.goto 4, 3) := by decide +kernel
theorem dL_holds_46 : decode cL_holds 46 = .ok (.iconst 0, 1) := by decide +kernel
theorem dL_holds_47 : decode cL_holds 47 = .ok (.istore 8, 2) := by decide +kernel
theorem dL_holds_49 : decode cL_holds 49 = .ok (.iload_n 2, 1) := by decide +kernel
theorem dL_holds_50 : decode cL_holds 50 = .ok (.aload_n 0, 1) := by decide +kernel
theorem dL_holds_51 : decode cL_holds 51 = .ok (.iload 7, 2) := by decide +kernel
theorem dL_holds_53 : decode cL_holds 53 = .ok (.invokestatic 130, 3) := by decide +kernel
theorem dL_holds_56 : decode cL_holds 56 = .ok (.invokestatic 153, 3) := by decide +kernel
theorem dL_holds_59 : decode cL_holds 59 = .ok (.iadd, 1) := by decide +kernel
theorem dL_holds_60 : decode cL_holds 60 = .ok (.istore_n 2, 1) := by decide +kernel
theorem dL_holds_61 : decode cL_holds 61 = .ok (.iload 5, 2) := by decide +kernel
theorem dL_holds_63 : decode cL_holds 63 = .ok (.aload_n 0, 1) := by decide +kernel
theorem dL_holds_64 : decode cL_holds 64 = .ok (.iload 7, 2) := by decide +kernel
theorem dL_holds_66 : decode cL_holds 66 = .ok (.invokestatic 133, 3) := by decide +kernel
theorem dL_holds_69 : decode cL_holds 69 = .ok (.invokestatic 153, 3) := by decide +kernel
theorem dL_holds_72 : decode cL_holds 72 = .ok (.iadd, 1) := by decide +kernel
theorem dL_holds_73 : decode cL_holds 73 = .ok (.istore 5, 2) := by decide +kernel
theorem dL_holds_75 : decode cL_holds 75 = .ok (.iload 4, 2) := by decide +kernel
theorem dL_holds_77 : decode cL_holds 77 = .ok (.iload 8, 2) := by decide +kernel
theorem dL_holds_79 : decode cL_holds 79 = .ok (.ifCond .eq 15, 3) := by decide +kernel
theorem dL_holds_82 : decode cL_holds 82 = .ok (.aload_n 0, 1) := by decide +kernel
theorem dL_holds_83 : decode cL_holds 83 = .ok (.iload 7, 2) := by decide +kernel
theorem dL_holds_85 : decode cL_holds 85 = .ok (.invokestatic 133, 3) := by decide +kernel
theorem dL_holds_88 : decode cL_holds 88 = .ok (.invokestatic 153, 3) := by decide +kernel
theorem dL_holds_91 : decode cL_holds 91 = .ok (.goto 4, 3) := by decide +kernel
theorem dL_holds_94 : decode cL_holds 94 = .ok (.iconst 0, 1) := by decide +kernel
theorem dL_holds_95 : decode cL_holds 95 = .ok (.iadd, 1) := by decide +kernel
theorem dL_holds_96 : decode cL_holds 96 = .ok (.istore 4, 2) := by decide +kernel
theorem dL_holds_98 : decode cL_holds 98 = .ok (.aload_n 0, 1) := by decide +kernel
theorem dL_holds_99 : decode cL_holds 99 = .ok (.iload 7, 2) := by decide +kernel
theorem dL_holds_101 : decode cL_holds 101 = .ok (.invokestatic 130, 3) := by decide +kernel
theorem dL_holds_104 : decode cL_holds 104 = .ok (.aload_n 0, 1) := by decide +kernel
theorem dL_holds_105 : decode cL_holds 105 = .ok (.iload 7, 2) := by decide +kernel
theorem dL_holds_107 : decode cL_holds 107 = .ok (.invokestatic 133, 3) := by decide +kernel
theorem dL_holds_110 : decode cL_holds 110 = .ok (.iand, 1) := by decide +kernel
theorem dL_holds_111 : decode cL_holds 111 = .ok (.ifCond .ne 43, 3) := by decide +kernel
theorem dL_holds_114 : decode cL_holds 114 = .ok (.iload 8, 2) := by decide +kernel
theorem dL_holds_116 : decode cL_holds 116 = .ok (.ifCond .ne 12, 3) := by decide +kernel
theorem dL_holds_119 : decode cL_holds 119 = .ok (.aload_n 0, 1) := by decide +kernel
theorem dL_holds_120 : decode cL_holds 120 = .ok (.iload 7, 2) := by decide +kernel
theorem dL_holds_122 : decode cL_holds 122 = .ok (.invokestatic 130, 3) := by decide +kernel
theorem dL_holds_125 : decode cL_holds 125 = .ok (.ifCond .ne 29, 3) := by decide +kernel
theorem dL_holds_128 : decode cL_holds 128 = .ok (.aload_n 0, 1) := by decide +kernel
theorem dL_holds_129 : decode cL_holds 129 = .ok (.iload 7, 2) := by decide +kernel
theorem dL_holds_131 : decode cL_holds 131 = .ok (.invokestatic 130, 3) := by decide +kernel
theorem dL_holds_134 : decode cL_holds 134 = .ok (.aload_n 0, 1) := by decide +kernel
theorem dL_holds_135 : decode cL_holds 135 = .ok (.iload 7, 2) := by decide +kernel
theorem dL_holds_137 : decode cL_holds 137 = .ok (.invokestatic 133, 3) := by decide +kernel
theorem dL_holds_140 : decode cL_holds 140 = .ok (.ior, 1) := by decide +kernel
theorem dL_holds_141 : decode cL_holds 141 = .ok (.iconst 1, 1) := by decide +kernel
theorem dL_holds_142 : decode cL_holds 142 = .ok (.aload_n 0, 1) := by decide +kernel
theorem dL_holds_143 : decode cL_holds 143 = .ok (.invokevirtual 82, 3) := by decide +kernel
theorem dL_holds_146 : decode cL_holds 146 = .ok (.ishl, 1) := by decide +kernel
theorem dL_holds_147 : decode cL_holds 147 = .ok (.if_icmp .ge 7, 3) := by decide +kernel
theorem dL_holds_150 : decode cL_holds 150 = .ok (.iconst 1, 1) := by decide +kernel
theorem dL_holds_151 : decode cL_holds 151 = .ok (.goto 4, 3) := by decide +kernel
theorem dL_holds_154 : decode cL_holds 154 = .ok (.iconst 0, 1) := by decide +kernel
theorem dL_holds_155 : decode cL_holds 155 = .ok (.istore 6, 2) := by decide +kernel
theorem dL_holds_157 : decode cL_holds 157 = .ok (.iinc 7 1, 3) := by decide +kernel
theorem dL_holds_160 : decode cL_holds 160 = .ok (.goto (-142), 3) := by decide +kernel
theorem dL_holds_163 : decode cL_holds 163 = .ok (.iconst 0, 1) := by decide +kernel
theorem dL_holds_164 : decode cL_holds 164 = .ok (.istore 7, 2) := by decide +kernel
theorem dL_holds_166 : decode cL_holds 166 = .ok (.iload 7, 2) := by decide +kernel
theorem dL_holds_168 : decode cL_holds 168 = .ok (.aload_n 0, 1) := by decide +kernel
theorem dL_holds_169 : decode cL_holds 169 = .ok (.invokevirtual 82, 3) := by decide +kernel
theorem dL_holds_172 : decode cL_holds 172 = .ok (.if_icmp .ge 58, 3) := by decide +kernel
theorem dL_holds_175 : decode cL_holds 175 = .ok (.iload 6, 2) := by decide +kernel
theorem dL_holds_177 : decode cL_holds 177 = .ok (.ifCond .eq 53, 3) := by decide +kernel
theorem dL_holds_180 : decode cL_holds 180 = .ok (.iload_n 1, 1) := by decide +kernel
theorem dL_holds_181 : decode cL_holds 181 = .ok (.aload_n 0, 1) := by decide +kernel
theorem dL_holds_182 : decode cL_holds 182 = .ok (.iload 7, 2) := by decide +kernel
theorem dL_holds_184 : decode cL_holds 184 = .ok (.invokestatic 140, 3) := by decide +kernel
theorem dL_holds_187 : decode cL_holds 187 = .ok (.iadd, 1) := by decide +kernel
theorem dL_holds_188 : decode cL_holds 188 = .ok (.istore_n 1, 1) := by decide +kernel
theorem dL_holds_189 : decode cL_holds 189 = .ok (.iload_n 3, 1) := by decide +kernel
theorem dL_holds_190 : decode cL_holds 190 = .ok (.aload_n 0, 1) := by decide +kernel
theorem dL_holds_191 : decode cL_holds 191 = .ok (.iload 7, 2) := by decide +kernel
theorem dL_holds_193 : decode cL_holds 193 = .ok (.invokestatic 138, 3) := by decide +kernel
theorem dL_holds_196 : decode cL_holds 196 = .ok (.iadd, 1) := by decide +kernel
theorem dL_holds_197 : decode cL_holds 197 = .ok (.istore_n 3, 1) := by decide +kernel
theorem dL_holds_198 : decode cL_holds 198 = .ok (.aload_n 0, 1) := by decide +kernel
theorem dL_holds_199 : decode cL_holds 199 = .ok (.iload 7, 2) := by decide +kernel
theorem dL_holds_201 : decode cL_holds 201 = .ok (.invokestatic 142, 3) := by decide +kernel
theorem dL_holds_204 : decode cL_holds 204 = .ok (.ifCond .lt 17, 3) := by decide +kernel
theorem dL_holds_207 : decode cL_holds 207 = .ok (.aload_n 0, 1) := by decide +kernel
theorem dL_holds_208 : decode cL_holds 208 = .ok (.iload 7, 2) := by decide +kernel
theorem dL_holds_210 : decode cL_holds 210 = .ok (.invokestatic 142, 3) := by decide +kernel
theorem dL_holds_213 : decode cL_holds 213 = .ok (.iconst 3, 1) := by decide +kernel
theorem dL_holds_214 : decode cL_holds 214 = .ok (.if_icmp .gt 7, 3) := by decide +kernel
theorem dL_holds_217 : decode cL_holds 217 = .ok (.iconst 1, 1) := by decide +kernel
theorem dL_holds_218 : decode cL_holds 218 = .ok (.goto 4, 3) := by decide +kernel
theorem dL_holds_221 : decode cL_holds 221 = .ok (.iconst 0, 1) := by decide +kernel
theorem dL_holds_222 : decode cL_holds 222 = .ok (.istore 6, 2) := by decide +kernel
theorem dL_holds_224 : decode cL_holds 224 = .ok (.iinc 7 1, 3) := by decide +kernel
theorem dL_holds_227 : decode cL_holds 227 = .ok (.goto (-61), 3) := by decide +kernel
theorem dL_holds_230 : decode cL_holds 230 = .ok (.iconst 0, 1) := by decide +kernel
theorem dL_holds_231 : decode cL_holds 231 = .ok (.istore 7, 2) := by decide +kernel
theorem dL_holds_233 : decode cL_holds 233 = .ok (.iload 7, 2) := by decide +kernel
theorem dL_holds_235 : decode cL_holds 235 = .ok (.bipush 30, 2) := by decide +kernel
theorem dL_holds_237 : decode cL_holds 237 = .ok (.if_icmp .ge 53, 3) := by decide +kernel
theorem dL_holds_240 : decode cL_holds 240 = .ok (.iload 6, 2) := by decide +kernel
theorem dL_holds_242 : decode cL_holds 242 = .ok (.ifCond .eq 48, 3) := by decide +kernel
theorem dL_holds_245 : decode cL_holds 245 = .ok (.aload_n 0, 1) := by decide +kernel
theorem dL_holds_246 : decode cL_holds 246 = .ok (.iload 7, 2) := by decide +kernel
theorem dL_holds_248 : decode cL_holds 248 = .ok (.bipush 10, 2) := by decide +kernel
theorem dL_holds_250 : decode cL_holds 250 = .ok (.idiv, 1) := by decide +kernel
theorem dL_holds_251 : decode cL_holds 251 = .ok (.iload 7, 2) := by decide +kernel
theorem dL_holds_253 : decode cL_holds 253 = .ok (.bipush 10, 2) := by decide +kernel
theorem dL_holds_255 : decode cL_holds 255 = .ok (.irem, 1) := by decide +kernel
theorem dL_holds_256 : decode cL_holds 256 = .ok (.invokestatic 136, 3) := by decide +kernel
theorem dL_holds_259 : decode cL_holds 259 = .ok (.istore 8, 2) := by decide +kernel
theorem dL_holds_261 : decode cL_holds 261 = .ok (.iload 8, 2) := by decide +kernel
theorem dL_holds_263 : decode cL_holds 263 = .ok (.iconst (-1), 1) := by decide +kernel
theorem dL_holds_264 : decode cL_holds 264 = .ok (.if_icmp .eq 13, 3) := by decide +kernel
theorem dL_holds_267 : decode cL_holds 267 = .ok (.aload_n 0, 1) := by decide +kernel
theorem dL_holds_268 : decode cL_holds 268 = .ok (.iload 8, 2) := by decide +kernel
theorem dL_holds_270 : decode cL_holds 270 = .ok (.invokestatic 128, 3) := by decide +kernel
theorem dL_holds_273 : decode cL_holds 273 = .ok (.iconst 1, 1) := by decide +kernel
theorem dL_holds_274 : decode cL_holds 274 = .ok (.if_icmp .ne 7, 3) := by decide +kernel
theorem dL_holds_277 : decode cL_holds 277 = .ok (.iconst 1, 1) := by decide +kernel
theorem dL_holds_278 : decode cL_holds 278 = .ok (.goto 4, 3) := by decide +kernel
theorem dL_holds_281 : decode cL_holds 281 = .ok (.iconst 0, 1) := by decide +kernel
theorem dL_holds_282 : decode cL_holds 282 = .ok (.istore 6, 2) := by decide +kernel
theorem dL_holds_284 : decode cL_holds 284 = .ok (.iinc 7 1, 3) := by decide +kernel
theorem dL_holds_287 : decode cL_holds 287 = .ok (.goto (-54), 3) := by decide +kernel
theorem dL_holds_290 : decode cL_holds 290 = .ok (.iload 6, 2) := by decide +kernel
theorem dL_holds_292 : decode cL_holds 292 = .ok (.ifCond .eq 27, 3) := by decide +kernel
theorem dL_holds_295 : decode cL_holds 295 = .ok (.iload_n 1, 1) := by decide +kernel
theorem dL_holds_296 : decode cL_holds 296 = .ok (.iload_n 2, 1) := by decide +kernel
theorem dL_holds_297 : decode cL_holds 297 = .ok (.if_icmp .ne 22, 3) := by decide +kernel
theorem dL_holds_300 : decode cL_holds 300 = .ok (.iload_n 3, 1) := by decide +kernel
theorem dL_holds_301 : decode cL_holds 301 = .ok (.iload 4, 2) := by decide +kernel
theorem dL_holds_303 : decode cL_holds 303 = .ok (.if_icmp .ne 16, 3) := by decide +kernel
theorem dL_holds_306 : decode cL_holds 306 = .ok (.iload 5, 2) := by decide +kernel
theorem dL_holds_308 : decode cL_holds 308 = .ok (.aload_n 0, 1) := by decide +kernel
theorem dL_holds_309 : decode cL_holds 309 = .ok (.invokevirtual 150, 3) := by decide +kernel
theorem dL_holds_312 : decode cL_holds 312 = .ok (.if_icmp .ne 7, 3) := by decide +kernel
theorem dL_holds_315 : decode cL_holds 315 = .ok (.iconst 1, 1) := by decide +kernel
theorem dL_holds_316 : decode cL_holds 316 = .ok (.goto 4, 3) := by decide +kernel
theorem dL_holds_319 : decode cL_holds 319 = .ok (.iconst 0, 1) := by decide +kernel
theorem dL_holds_320 : decode cL_holds 320 = .ok (.ireturn, 1) := by decide +kernel
set_option maxRecDepth 20000 in
theorem ggL_wakes_X0_devices : GoodIn wsL_wakes wsX0_devices := goodIn_r _ [5, 6, 214, 215, 216, 217, 218, 219, 220, 221, 222, 223, 224, 225, 226, 227, 228, 229, 230, 231, 232] (by decide +kernel) (by decide +kernel)
set_option maxRecDepth 20000 in
theorem gL_wakes_X0_devices : GoodIn wsL_wakes (wsV RL 82 RX0 yX0_devices wsX0_devices) := goodIn_app (goodIn_of _ (by decide +kernel)) ggL_wakes_X0_devices
set_option maxRecDepth 20000 in
theorem ggL_wakes_L_waiting : GoodIn wsL_wakes wsL_waiting := goodIn_ca (goodIn_r _ [10, 11, 12, 13, 14, 15, 4, 16, 17, 18, 19, 20, 21, 22, 6, 23, 24, 25, 26, 27, 28, 29, 30, 31, 32, 33, 34, 35, 36, 37, 38, 39, 40, 41, 42, 43, 44, 214, 215, 216, 217, 218, 219, 220, 221, 222, 223, 224, 225, 226, 227, 228, 229, 230, 231, 232] (by decide +kernel) (by decide +kernel)) (goodIn_sub (fun _ h => List.mem_cons_of_mem _ (List.mem_append_left _ (List.mem_append_left _ (List.mem_append_right _ h)))) (by decide +kernel))
set_option maxRecDepth 20000 in
theorem gL_wakes_L_waiting : GoodIn wsL_wakes (va_wsS RL 140 yL_waiting wsL_waiting) := goodIn_app (goodIn_of _ (by decide +kernel)) ggL_wakes_L_waiting
set_option maxRecDepth 20000 in
theorem ggL_wakes_L_badge : GoodIn wsL_wakes wsL_badge := goodIn_ca (goodIn_r _ [47, 11, 12, 48, 49, 50, 4, 51, 27, 52, 17, 18, 19, 20, 21, 22, 6, 39, 40, 41, 42, 43, 44, 33, 34, 35, 36, 37, 38, 214, 215, 216, 217, 218, 219, 220, 221, 222, 223, 224, 225, 226, 227, 228, 229, 230, 231, 232] (by decide +kernel) (by decide +kernel)) (goodIn_sub (fun _ h => List.mem_cons_of_mem _ (List.mem_append_left _ (List.mem_append_left _ (List.mem_append_right _ h)))) (by decide +kernel))
set_option maxRecDepth 20000 in
theorem gL_wakes_L_badge : GoodIn wsL_wakes (va_wsS RL 138 yL_badge wsL_badge) := goodIn_app (goodIn_of _ (by decide +kernel)) ggL_wakes_L_badge
set_option maxRecDepth 20000 in
theorem ggL_wakes_L_dozes : GoodIn wsL_wakes wsL_dozes := goodIn_ca (goodIn_r _ [55, 11, 12, 56, 57, 58, 4, 59, 60, 17, 18, 19, 20, 21, 22, 6, 61, 62, 63, 42, 43, 44, 64, 65, 66, 67, 68, 27, 69, 70, 71, 72, 73, 37, 74, 75, 76, 77, 78, 79, 80, 81, 82, 83, 84, 85, 86, 87, 88, 89, 28, 29, 30, 31, 32, 33, 34, 35, 36, 38, 90, 91, 92, 93, 39, 40, 41, 94, 95, 96, 97, 98, 99, 100, 101, 102, 103, 52, 104, 105, 106, 107, 108, 109, 110, 111, 112, 113, 114, 214, 215, 216, 217, 218, 219, 220, 221, 222, 223, 224, 225, 226, 227, 228, 229, 230, 231, 232] (by decide +kernel) (by decide +kernel)) (goodIn_sub (fun _ h => List.mem_cons_of_mem _ (List.mem_append_left _ (List.mem_append_left _ (List.mem_append_right _ h)))) (by decide +kernel))
set_option maxRecDepth 20000 in
theorem gL_wakes_L_dozes : GoodIn wsL_wakes (va_wsS RL 99 yL_dozes wsL_dozes) := goodIn_app (goodIn_of _ (by decide +kernel)) ggL_wakes_L_dozes
set_option maxRecDepth 20000 in
theorem ggL_wakes_L_quiets : GoodIn wsL_wakes wsL_quiets := goodIn_ca (goodIn_ca (goodIn_r _ [117, 11, 118, 12, 119, 120, 121, 122, 4, 123, 79, 80, 17, 18, 19, 20, 21, 22, 6, 124, 125, 126, 127, 128, 64, 65, 66, 67, 68, 27, 69, 70, 71, 72, 73, 37, 74, 60, 75, 76, 77, 78, 81, 82, 83, 84, 85, 86, 87, 88, 89, 61, 62, 63, 42, 43, 44, 28, 29, 30, 31, 32, 33, 34, 35, 36, 38, 90, 91, 92, 93, 39, 40, 41, 94, 95, 96, 97, 98, 99, 100, 101, 102, 103, 52, 104, 105, 106, 107, 108, 109, 110, 111, 112, 113, 114, 214, 215, 216, 217, 218, 219, 220, 221, 222, 223, 224, 225, 226, 227, 228, 229, 230, 231, 232] (by decide +kernel) (by decide +kernel)) (goodIn_sub (fun _ h => List.mem_cons_of_mem _ (List.mem_append_left _ (List.mem_append_left _ (List.mem_append_right _ h)))) (by decide +kernel))) (goodIn_sub (fun _ h => List.mem_cons_of_mem _ (List.mem_append_left _ (List.mem_append_right _ h))) (by decide +kernel))
set_option maxRecDepth 20000 in
theorem gL_wakes_L_quiets : GoodIn wsL_wakes (va_wsS RL 102 yL_quiets wsL_quiets) := goodIn_app (goodIn_of _ (by decide +kernel)) ggL_wakes_L_quiets
set_option maxRecDepth 20000 in
theorem ggL_wakes_L_online : GoodIn wsL_wakes wsL_online := goodIn_ca (goodIn_r _ [131, 11, 12, 132, 133, 134, 4, 135, 74, 17, 18, 19, 20, 21, 22, 6, 61, 62, 63, 42, 43, 44, 64, 65, 66, 67, 68, 27, 69, 70, 71, 72, 73, 37, 60, 75, 76, 77, 78, 79, 80, 81, 82, 83, 84, 85, 86, 87, 88, 89, 28, 29, 30, 31, 32, 33, 34, 35, 36, 38, 90, 91, 92, 93, 39, 40, 41, 94, 95, 96, 97, 98, 99, 100, 101, 102, 103, 52, 104, 105, 106, 107, 108, 109, 110, 111, 112, 113, 114, 214, 215, 216, 217, 218, 219, 220, 221, 222, 223, 224, 225, 226, 227, 228, 229, 230, 231, 232] (by decide +kernel) (by decide +kernel)) (goodIn_sub (fun _ h => List.mem_cons_of_mem _ (List.mem_append_left _ (List.mem_append_left _ (List.mem_append_right _ h)))) (by decide +kernel))
set_option maxRecDepth 20000 in
theorem gL_wakes_L_online : GoodIn wsL_wakes (va_wsS RL 95 yL_online wsL_online) := goodIn_app (goodIn_of _ (by decide +kernel)) ggL_wakes_L_online
set_option maxRecDepth 20000 in
theorem ggL_wakes_X0_sent : GoodIn wsL_wakes wsX0_sent := goodIn_r _ [139, 27, 214, 215, 216, 217, 218, 219, 220, 221, 222, 223, 224, 225, 226, 227, 228, 229, 230, 231, 232] (by decide +kernel) (by decide +kernel)
set_option maxRecDepth 20000 in
theorem gL_wakes_X0_sent : GoodIn wsL_wakes (wsV RL 86 RX0 yX0_sent wsX0_sent) := goodIn_app (goodIn_of _ (by decide +kernel)) ggL_wakes_X0_sent
set_option maxRecDepth 20000 in
theorem ggL_wakes_X0_deliveries : GoodIn wsL_wakes wsX0_deliveries := goodIn_r _ [143, 68, 214, 215, 216, 217, 218, 219, 220, 221, 222, 223, 224, 225, 226, 227, 228, 229, 230, 231, 232] (by decide +kernel) (by decide +kernel)
set_option maxRecDepth 20000 in
theorem gL_wakes_X0_deliveries : GoodIn wsL_wakes (wsV RL 150 RX0 yX0_deliveries wsX0_deliveries) := goodIn_app (goodIn_of _ (by decide +kernel)) ggL_wakes_X0_deliveries
set_option maxRecDepth 20000 in
theorem ggL_wakes_L_sends : GoodIn wsL_wakes wsL_sends := goodIn_ca (goodIn_ca (goodIn_r _ [146, 118, 147, 119, 148, 149, 150, 151, 4, 152, 153, 124, 125, 126, 127, 128, 154, 155, 156, 157, 158, 159, 27, 160, 161, 162, 163, 164, 165, 166, 167, 33, 34, 35, 36, 37, 38, 168, 169, 170, 171, 172, 173, 174, 175, 69, 32, 176, 64, 65, 66, 67, 68, 70, 71, 72, 73, 74, 60, 6, 75, 76, 77, 78, 79, 80, 81, 82, 83, 84, 85, 86, 87, 88, 89, 61, 62, 63, 42, 43, 44, 28, 29, 30, 31, 90, 91, 92, 93, 39, 40, 41, 94, 95, 96, 97, 98, 99, 100, 101, 102, 103, 52, 104, 105, 106, 107, 108, 109, 110, 111, 112, 113, 114, 214, 215, 216, 217, 218, 219, 220, 221, 222, 223, 224, 225, 226, 227, 228, 229, 230, 231, 232] (by decide +kernel) (by decide +kernel)) (goodIn_sub (fun _ h => List.mem_cons_of_mem _ (List.mem_append_left _ (List.mem_append_right _ h))) (by decide +kernel))) (goodIn_sub (fun _ h => List.mem_cons_of_mem _ (List.mem_append_right _ h)) (by decide +kernel))
set_option maxRecDepth 20000 in
theorem gL_wakes_L_sends : GoodIn wsL_wakes (va_wsS RL 117 yL_sends wsL_sends) := goodIn_app (goodIn_of _ (by decide +kernel)) ggL_wakes_L_sends
set_option maxRecDepth 20000 in
theorem ggL_wakes_L_waits : GoodIn wsL_wakes wsL_waits := goodIn_ca (goodIn_r _ [179, 11, 12, 180, 181, 182, 4, 183, 184, 185, 186, 187, 21, 22, 27, 28, 29, 30, 31, 32, 33, 34, 35, 36, 37, 38, 214, 215, 216, 217, 218, 219, 220, 221, 222, 223, 224, 225, 226, 227, 228, 229, 230, 231, 232] (by decide +kernel) (by decide +kernel)) (goodIn_sub (fun _ h => List.mem_cons_of_mem _ (List.mem_append_left _ (List.mem_append_left _ (List.mem_append_right _ h)))) (by decide +kernel))
set_option maxRecDepth 20000 in
theorem gL_wakes_L_waits : GoodIn wsL_wakes (va_wsS RL 130 yL_waits wsL_waits) := goodIn_app (goodIn_of _ (by decide +kernel)) ggL_wakes_L_waits
set_option maxRecDepth 20000 in
theorem ggL_wakes_L_delivered : GoodIn wsL_wakes wsL_delivered := goodIn_ca (goodIn_r _ [190, 11, 12, 191, 192, 193, 4, 194, 52, 184, 185, 186, 187, 21, 22, 27, 214, 215, 216, 217, 218, 219, 220, 221, 222, 223, 224, 225, 226, 227, 228, 229, 230, 231, 232] (by decide +kernel) (by decide +kernel)) (goodIn_sub (fun _ h => List.mem_cons_of_mem _ (List.mem_append_left _ (List.mem_append_left _ (List.mem_append_right _ h)))) (by decide +kernel))
set_option maxRecDepth 20000 in
theorem gL_wakes_L_delivered : GoodIn wsL_wakes (va_wsS RL 133 yL_delivered wsL_delivered) := goodIn_app (goodIn_of _ (by decide +kernel)) ggL_wakes_L_delivered
set_option maxRecDepth 20000 in
theorem ggL_wakes_L_bits : GoodIn wsL_wakes wsL_bits := goodIn_r _ [197] (by decide +kernel) (by decide +kernel)
set_option maxRecDepth 20000 in
theorem gL_wakes_L_bits : GoodIn wsL_wakes (va_wsS RL 153 yL_bits wsL_bits) := goodIn_app (goodIn_of _ (by decide +kernel)) ggL_wakes_L_bits
set_option maxRecDepth 20000 in
theorem ggL_wakes_L_passes : GoodIn wsL_wakes wsL_passes := goodIn_ca (goodIn_ca (goodIn_r _ [200, 118, 147, 119, 148, 201, 202, 203, 4, 204, 158, 159, 37, 205, 206, 207, 208, 209, 124, 125, 126, 127, 128, 210, 211, 212, 213, 6, 80, 75, 76, 77, 78, 79, 81, 82, 83, 84, 85, 86, 87, 88, 89, 64, 65, 66, 67, 68, 27, 69, 70, 71, 72, 73, 74, 60, 61, 62, 63, 42, 43, 44, 28, 29, 30, 31, 32, 33, 34, 35, 36, 38, 90, 91, 92, 93, 39, 40, 41, 94, 95, 96, 97, 98, 99, 100, 101, 102, 103, 52, 104, 105, 106, 107, 108, 109, 110, 111, 112, 113, 114, 214, 215, 216, 217, 218, 219, 220, 221, 222, 223, 224, 225, 226, 227, 228, 229, 230, 231, 232] (by decide +kernel) (by decide +kernel)) (goodIn_sub (fun _ h => List.mem_cons_of_mem _ (List.mem_append_right _ h)) (by decide +kernel))) (goodIn_sub (fun _ h => List.mem_cons_of_mem _ (List.mem_append_left _ (List.mem_append_right _ h))) (by decide +kernel))
set_option maxRecDepth 20000 in
theorem gL_wakes_L_passes : GoodIn wsL_wakes (va_wsS RL 144 yL_passes wsL_passes) := goodIn_app (goodIn_of _ (by decide +kernel)) ggL_wakes_L_passes
theorem dL_wakes_0 : decode cL_wakes 0 = .ok (.iconst 1, 1) := by decide +kernel
theorem dL_wakes_1 : decode cL_wakes 1 = .ok (.istore_n 1, 1) := by decide +kernel
theorem dL_wakes_2 : decode cL_wakes 2 = .ok (.iconst 0, 1) := by decide +kernel
theorem dL_wakes_3 : decode cL_wakes 3 = .ok (.istore_n 2, 1) := by decide +kernel
theorem dL_wakes_4 : decode cL_wakes 4 = .ok (.iload_n 2, 1) := by decide +kernel
theorem dL_wakes_5 : decode cL_wakes 5 = .ok (.aload_n 0, 1) := by decide +kernel
theorem dL_wakes_6 : decode cL_wakes 6 = .ok (.invokevirtual 82, 3) := by decide +kernel
theorem dL_wakes_9 : decode cL_wakes 9 = .ok (.if_icmp .ge 104, 3) := by decide +kernel
theorem dL_wakes_12 : decode cL_wakes 12 = .ok (.iload_n 1, 1) := by decide +kernel
theorem dL_wakes_13 : decode cL_wakes 13 = .ok (.ifCond .eq 100, 3) := by decide +kernel
theorem dL_wakes_16 : decode cL_wakes 16 = .ok (.aload_n 0, 1) := by decide +kernel
theorem dL_wakes_17 : decode cL_wakes 17 = .ok (.iload_n 2, 1) := by decide +kernel
theorem dL_wakes_18 : decode cL_wakes 18 = .ok (.invokestatic 140, 3) := by decide +kernel
theorem dL_wakes_21 : decode cL_wakes 21 = .ok (.istore_n 3, 1) := by decide +kernel
theorem dL_wakes_22 : decode cL_wakes 22 = .ok (.aload_n 0, 1) := by decide +kernel
theorem dL_wakes_23 : decode cL_wakes 23 = .ok (.iload_n 2, 1) := by decide +kernel
theorem dL_wakes_24 : decode cL_wakes 24 = .ok (.invokestatic 138, 3) := by decide +kernel
theorem dL_wakes_27 : decode cL_wakes 27 = .ok (.istore 4, 2) := by decide +kernel
theorem dL_wakes_29 : decode cL_wakes 29 = .ok (.aload_n 0, 1) := by decide +kernel
theorem dL_wakes_30 : decode cL_wakes 30 = .ok (.iload_n 2, 1) := by decide +kernel
theorem dL_wakes_31 : decode cL_wakes 31 = .ok (.iconst 0, 1) := by decide +kernel
theorem dL_wakes_32 : decode cL_wakes 32 = .ok (.invokestatic 99, 3) := by decide +kernel
theorem dL_wakes_35 : decode cL_wakes 35 = .ok (.istore 5, 2) := by decide +kernel
theorem dL_wakes_37 : decode cL_wakes 37 = .ok (.aload_n 0, 1) := by decide +kernel
theorem dL_wakes_38 : decode cL_wakes 38 = .ok (.iload_n 2, 1) := by decide +kernel
theorem dL_wakes_39 : decode cL_wakes 39 = .ok (.iconst 0, 1) := by decide +kernel
theorem dL_wakes_40 : decode cL_wakes 40 = .ok (.iconst 0, 1) := by decide +kernel
theorem dL_wakes_41 : decode cL_wakes 41 = .ok (.invokestatic 102, 3) := by decide +kernel
theorem dL_wakes_44 : decode cL_wakes 44 = .ok (.istore 6, 2) := by decide +kernel
theorem dL_wakes_46 : decode cL_wakes 46 = .ok (.aload_n 0, 1) := by decide +kernel
theorem dL_wakes_47 : decode cL_wakes 47 = .ok (.iload_n 2, 1) := by decide +kernel
theorem dL_wakes_48 : decode cL_wakes 48 = .ok (.iconst 1, 1) := by decide +kernel
theorem dL_wakes_49 : decode cL_wakes 49 = .ok (.invokestatic 95, 3) := by decide +kernel
theorem dL_wakes_52 : decode cL_wakes 52 = .ok (.istore 7, 2) := by decide +kernel
theorem dL_wakes_54 : decode cL_wakes 54 = .ok (.iload 5, 2) := by decide +kernel
theorem dL_wakes_56 : decode cL_wakes 56 = .ok (.ifCond .lt 49, 3) := by decide +kernel
theorem dL_wakes_59 : decode cL_wakes 59 = .ok (.iload 6, 2) := by decide +kernel
theorem dL_wakes_61 : decode cL_wakes 61 = .ok (.ifCond .lt 44, 3) := by decide +kernel
theorem dL_wakes_64 : decode cL_wakes 64 = .ok (.iload 7, 2) := by decide +kernel
theorem dL_wakes_66 : decode cL_wakes 66 = .ok (.ifCond .lt 39, 3) := by decide +kernel
theorem dL_wakes_69 : decode cL_wakes 69 = .ok (.iload 5, 2) := by decide +kernel
theorem dL_wakes_71 : decode cL_wakes 71 = .ok (.iload 6, 2) := by decide +kernel
theorem dL_wakes_73 : decode cL_wakes 73 = .ok (.iadd, 1) := by decide +kernel
theorem dL_wakes_74 : decode cL_wakes 74 = .ok (.iload 7, 2) := by decide +kernel
theorem dL_wakes_76 : decode cL_wakes 76 = .ok (.iadd, 1) := by decide +kernel
theorem dL_wakes_77 : decode cL_wakes 77 = .ok (.iload_n 3, 1) := by decide +kernel
theorem dL_wakes_78 : decode cL_wakes 78 = .ok (.if_icmp .ne 27, 3) := by decide +kernel
theorem dL_wakes_81 : decode cL_wakes 81 = .ok (.aload_n 0, 1) := by decide +kernel
theorem dL_wakes_82 : decode cL_wakes 82 = .ok (.iload_n 2, 1) := by decide +kernel
theorem dL_wakes_83 : decode cL_wakes 83 = .ok (.invokestatic 140, 3) := by decide +kernel
theorem dL_wakes_86 : decode cL_wakes 86 = .ok (.ifCond .ne 19, 3) := by decide +kernel
theorem dL_wakes_89 : decode cL_wakes 89 = .ok (.aload_n 0, 1) := by decide +kernel
theorem dL_wakes_90 : decode cL_wakes 90 = .ok (.iload_n 2, 1) := by decide +kernel
theorem dL_wakes_91 : decode cL_wakes 91 = .ok (.invokestatic 138, 3) := by decide +kernel
theorem dL_wakes_94 : decode cL_wakes 94 = .ok (.iload 4, 2) := by decide +kernel
theorem dL_wakes_96 : decode cL_wakes 96 = .ok (.iload_n 3, 1) := by decide +kernel
theorem dL_wakes_97 : decode cL_wakes 97 = .ok (.iadd, 1) := by decide +kernel
theorem dL_wakes_98 : decode cL_wakes 98 = .ok (.if_icmp .ne 7, 3) := by decide +kernel
theorem dL_wakes_101 : decode cL_wakes 101 = .ok (.iconst 1, 1) := by decide +kernel
theorem dL_wakes_102 : decode cL_wakes 102 = .ok (.goto 4, 3) := by decide +kernel
theorem dL_wakes_105 : decode cL_wakes 105 = .ok (.iconst 0, 1) := by decide +kernel
theorem dL_wakes_106 : decode cL_wakes 106 = .ok (.istore_n 1, 1) := by decide +kernel
theorem dL_wakes_107 : decode cL_wakes 107 = .ok (.iinc 2 1, 3) := by decide +kernel
theorem dL_wakes_110 : decode cL_wakes 110 = .ok (.goto (-106), 3) := by decide +kernel
