theorem dL_wakes_113 : decode cL_wakes 113 = .ok (.aload_n 0, 1) := by decide +kernel
theorem dL_wakes_114 : decode cL_wakes 114 = .ok (.invokevirtual 86, 3) := by decide +kernel
theorem dL_wakes_117 : decode cL_wakes 117 = .ok (.istore_n 2, 1) := by decide +kernel
theorem dL_wakes_118 : decode cL_wakes 118 = .ok (.aload_n 0, 1) := by decide +kernel
theorem dL_wakes_119 : decode cL_wakes 119 = .ok (.invokevirtual 150, 3) := by decide +kernel
theorem dL_wakes_122 : decode cL_wakes 122 = .ok (.istore_n 3, 1) := by decide +kernel
theorem dL_wakes_123 : decode cL_wakes 123 = .ok (.iload_n 1, 1) := by decide +kernel
theorem dL_wakes_124 : decode cL_wakes 124 = .ok (.ifCond .eq 59, 3) := by decide +kernel
theorem dL_wakes_127 : decode cL_wakes 127 = .ok (.iload_n 2, 1) := by decide +kernel
theorem dL_wakes_128 : decode cL_wakes 128 = .ok (.bipush 120, 2) := by decide +kernel
theorem dL_wakes_130 : decode cL_wakes 130 = .ok (.if_icmp .eq 41, 3) := by decide +kernel
theorem dL_wakes_133 : decode cL_wakes 133 = .ok (.aload_n 0, 1) := by decide +kernel
theorem dL_wakes_134 : decode cL_wakes 134 = .ok (.iconst 0, 1) := by decide +kernel
theorem dL_wakes_135 : decode cL_wakes 135 = .ok (.iconst (-1), 1) := by decide +kernel
theorem dL_wakes_136 : decode cL_wakes 136 = .ok (.iconst 0, 1) := by decide +kernel
theorem dL_wakes_137 : decode cL_wakes 137 = .ok (.bipush 7, 2) := by decide +kernel
theorem dL_wakes_139 : decode cL_wakes 139 = .ok (.invokestatic 117, 3) := by decide +kernel
theorem dL_wakes_142 : decode cL_wakes 142 = .ok (.iload_n 2, 1) := by decide +kernel
theorem dL_wakes_143 : decode cL_wakes 143 = .ok (.if_icmp .ne 40, 3) := by decide +kernel
theorem dL_wakes_146 : decode cL_wakes 146 = .ok (.aload_n 0, 1) := by decide +kernel
theorem dL_wakes_147 : decode cL_wakes 147 = .ok (.iload_n 2, 1) := by decide +kernel
theorem dL_wakes_148 : decode cL_wakes 148 = .ok (.invokestatic 130, 3) := by decide +kernel
theorem dL_wakes_151 : decode cL_wakes 151 = .ok (.ifCond .ne 32, 3) := by decide +kernel
theorem dL_wakes_154 : decode cL_wakes 154 = .ok (.aload_n 0, 1) := by decide +kernel
theorem dL_wakes_155 : decode cL_wakes 155 = .ok (.invokevirtual 150, 3) := by decide +kernel
theorem dL_wakes_158 : decode cL_wakes 158 = .ok (.iload_n 3, 1) := by decide +kernel
theorem dL_wakes_159 : decode cL_wakes 159 = .ok (.aload_n 0, 1) := by decide +kernel
theorem dL_wakes_160 : decode cL_wakes 160 = .ok (.iload_n 2, 1) := by decide +kernel
theorem dL_wakes_161 : decode cL_wakes 161 = .ok (.invokestatic 133, 3) := by decide +kernel
theorem dL_wakes_164 : decode cL_wakes 164 = .ok (.invokestatic 153, 3) := by decide +kernel
theorem dL_wakes_167 : decode cL_wakes 167 = .ok (.iadd, 1) := by decide +kernel
theorem dL_wakes_168 : decode cL_wakes 168 = .ok (.if_icmp .ne 15, 3) := by decide +kernel
theorem dL_wakes_171 : decode cL_wakes 171 = .ok (.aload_n 0, 1) := by decide +kernel
theorem dL_wakes_172 : decode cL_wakes 172 = .ok (.iconst 1, 1) := by decide +kernel
theorem dL_wakes_173 : decode cL_wakes 173 = .ok (.invokestatic 144, 3) := by decide +kernel
theorem dL_wakes_176 : decode cL_wakes 176 = .ok (.ifCond .ne 7, 3) := by decide +kernel
theorem dL_wakes_179 : decode cL_wakes 179 = .ok (.iconst 1, 1) := by decide +kernel
theorem dL_wakes_180 : decode cL_wakes 180 = .ok (.goto 4, 3) := by decide +kernel
theorem dL_wakes_183 : decode cL_wakes 183 = .ok (.iconst 0, 1) := by decide +kernel
theorem dL_wakes_184 : decode cL_wakes 184 = .ok (.ireturn, 1) := by decide +kernel
set_option maxRecDepth 20000 in
theorem ggL_law_X0_init : GoodIn wsL_law wsX0_init := goodIn_r _ [5, 6, 7, 8, 9, 10, 11, 12, 13, 14, 15, 16, 17, 18, 19, 20, 21, 22, 23, 24, 25, 26, 27, 28, 29, 315, 316, 317, 318, 319, 320, 321, 322, 323, 324, 325, 326, 327, 328, 329, 330, 331, 332, 333] (by decide +kernel) (by decide +kernel)
set_option maxRecDepth 20000 in
theorem gL_law_X0_init : GoodIn wsL_law (wsX0_init) := ggL_law_X0_init
set_option maxRecDepth 20000 in
theorem ggL_law_L_drawn : GoodIn wsL_law wsL_drawn := goodIn_r _ [33, 34, 35] (by decide +kernel) (by decide +kernel)
set_option maxRecDepth 20000 in
theorem gL_law_L_drawn : GoodIn wsL_law (va_wsS RL 157 yL_drawn wsL_drawn) := goodIn_app (goodIn_of _ (by decide +kernel)) ggL_law_L_drawn
theorem goodIn_c {big a : List Cond} {c : Cond} (hc : GoodIn big [c]) (ha : GoodIn big a) : GoodIn big (c :: a) := fun w h => (List.mem_cons.mp h).elim (fun e => hc w (List.mem_singleton.mpr e)) (ha w)
set_option maxRecDepth 20000 in
theorem ggL_law_L_refuses_r1 : GoodIn wsL_law wsL_refuses_r1 := goodIn_r _ [39, 40, 41, 42, 43, 44, 2, 45, 20, 46, 47, 48, 49, 27, 50, 51, 32, 52, 53, 54, 55, 56, 57, 58] (by decide +kernel) (by decide +kernel)
set_option maxRecDepth 20000 in
theorem ggL_law_L_refuses_r2 : GoodIn wsL_law wsL_refuses_r2 := goodIn_r _ [59, 60, 15, 10, 12, 13, 61, 62, 63, 64, 65, 66, 67, 68, 69, 70, 71, 72, 73, 74, 75, 76, 77, 78] (by decide +kernel) (by decide +kernel)
set_option maxRecDepth 20000 in
theorem ggL_law_L_refuses_r3 : GoodIn wsL_law wsL_refuses_r3 := goodIn_r _ [79, 80, 81, 82, 83, 84, 85, 86, 87, 88, 89, 29, 22, 90, 91, 92, 93, 28, 14, 94, 95, 96, 97, 16] (by decide +kernel) (by decide +kernel)
set_option maxRecDepth 20000 in
theorem ggL_law_L_refuses_r4 : GoodIn wsL_law wsL_refuses_r4 := goodIn_r _ [17, 98, 99, 100, 101, 102, 103, 104, 105, 106, 107, 108, 109, 24, 110, 111, 112, 113, 23, 114, 115, 116, 117, 118] (by decide +kernel) (by decide +kernel)
set_option maxRecDepth 20000 in
theorem ggL_law_L_refuses_r5 : GoodIn wsL_law wsL_refuses_r5 := goodIn_r _ [119, 120, 121, 122, 123, 124, 18, 19, 125, 126, 127, 128, 25, 129, 130, 131, 132, 133, 134, 135, 136, 137, 138, 139] (by decide +kernel) (by decide +kernel)
set_option maxRecDepth 20000 in
theorem ggL_law_L_refuses_r6 : GoodIn wsL_law wsL_refuses_r6 := goodIn_r _ [140, 141, 142, 143, 144, 145, 146, 147, 148, 149, 150, 151, 152, 153, 154, 155, 156, 157, 158, 159, 160, 11, 161, 162] (by decide +kernel) (by decide +kernel)
set_option maxRecDepth 20000 in
theorem ggL_law_L_refuses_r7 : GoodIn wsL_law wsL_refuses_r7 := goodIn_r _ [163, 164, 165, 166, 167, 168, 169, 170, 171, 172, 173, 174, 175, 176, 177, 178, 179, 180, 181, 182, 183, 184, 185, 186] (by decide +kernel) (by decide +kernel)
set_option maxRecDepth 20000 in
theorem ggL_law_L_refuses_r8 : GoodIn wsL_law wsL_refuses_r8 := goodIn_r _ [187, 188, 189, 190, 191, 192, 193, 26, 194, 195, 196, 197, 198, 199, 200, 201, 202, 203, 204, 205, 206, 207, 208, 209] (by decide +kernel) (by decide +kernel)
set_option maxRecDepth 20000 in
theorem ggL_law_L_refuses_r9 : GoodIn wsL_law wsL_refuses_r9 := goodIn_r _ [210, 211, 212, 213, 214, 215, 216, 217, 218, 219, 220, 221, 222, 223, 224, 225, 226, 227, 228, 229, 230, 231, 232, 233] (by decide +kernel) (by decide +kernel)
set_option maxRecDepth 20000 in
theorem ggL_law_L_refuses_r10 : GoodIn wsL_law wsL_refuses_r10 := goodIn_r _ [234, 235, 236, 237, 238, 239, 240, 241, 242, 243, 244, 245, 246, 247, 248, 249, 250, 251, 252, 253, 254, 255, 256, 257] (by decide +kernel) (by decide +kernel)
set_option maxRecDepth 20000 in
theorem ggL_law_L_refuses_r11 : GoodIn wsL_law wsL_refuses_r11 := goodIn_r _ [258, 259, 260, 261, 262, 263, 264, 265, 266, 267, 268, 269, 270, 271, 272, 273, 274, 275, 276, 277, 278, 279, 280, 281] (by decide +kernel) (by decide +kernel)
set_option maxRecDepth 20000 in
theorem ggL_law_L_refuses_r12 : GoodIn wsL_law wsL_refuses_r12 := goodIn_r _ [282, 283, 284, 285, 286, 287, 288, 289, 290, 291] (by decide +kernel) (by decide +kernel)
set_option maxRecDepth 20000 in
theorem ggL_law_L_refuses_c : GoodIn wsL_law [.code yL_refuses cL_refuses 8 (some .boolean)] := goodIn_r _ [38] rfl (by decide +kernel)
set_option maxRecDepth 20000 in
theorem ggL_law_L_refuses : GoodIn wsL_law wsL_refuses := goodIn_c ggL_law_L_refuses_c (goodIn_app (goodIn_app (goodIn_app (goodIn_app (goodIn_app ggL_law_L_refuses_r1 (goodIn_app ggL_law_L_refuses_r2 (goodIn_app ggL_law_L_refuses_r3 (goodIn_app ggL_law_L_refuses_r4 (goodIn_app ggL_law_L_refuses_r5 (goodIn_app ggL_law_L_refuses_r6 (goodIn_app ggL_law_L_refuses_r7 (goodIn_app ggL_law_L_refuses_r8 (goodIn_app ggL_law_L_refuses_r9 (goodIn_app ggL_law_L_refuses_r10 (goodIn_app ggL_law_L_refuses_r11 ggL_law_L_refuses_r12))))))))))) (goodIn_sub inlX0 (by decide +kernel))) (goodIn_sub (fun _ h => List.mem_append_left _ (List.mem_append_left _ (List.mem_append_right _ h))) (by decide +kernel))) (goodIn_sub (fun _ h => List.mem_append_left _ (List.mem_append_right _ h)) (by decide +kernel))) (goodIn_sub (fun _ h => List.mem_append_right _ h) (by decide +kernel)))
set_option maxRecDepth 20000 in
theorem gL_law_L_refuses : GoodIn wsL_law (va_wsS RL 161 yL_refuses wsL_refuses) := goodIn_app (goodIn_of _ (by decide +kernel)) ggL_law_L_refuses
set_option maxRecDepth 20000 in
theorem ggL_law_L_act_r1 : GoodIn wsL_law wsL_act_r1 := goodIn_r _ [42, 43, 44, 2, 45, 20, 50, 51, 32, 52, 53, 54, 39, 41, 55, 56, 57, 58, 59, 60, 15, 10, 12, 13] (by decide +kernel) (by decide +kernel)
set_option maxRecDepth 20000 in
theorem ggL_law_L_act_r2 : GoodIn wsL_law wsL_act_r2 := goodIn_r _ [61, 62, 63, 64, 65, 66, 67, 68, 69, 70, 71, 72, 40, 73, 74, 75, 76, 77, 78, 79, 80, 81, 82, 83] (by decide +kernel) (by decide +kernel)
set_option maxRecDepth 20000 in
theorem ggL_law_L_act_r3 : GoodIn wsL_law wsL_act_r3 := goodIn_r _ [84, 85, 86, 87, 88, 89, 29, 27, 22, 90, 91, 92, 93, 28, 14, 94, 95, 96, 97, 16, 17, 98, 99, 100] (by decide +kernel) (by decide +kernel)
set_option maxRecDepth 20000 in
theorem ggL_law_L_act_r4 : GoodIn wsL_law wsL_act_r4 := goodIn_r _ [101, 102, 103, 104, 105, 106, 107, 108, 109, 24, 110, 111, 112, 113, 23, 114, 115, 116, 117, 118, 119, 120, 121, 122] (by decide +kernel) (by decide +kernel)
set_option maxRecDepth 20000 in
theorem ggL_law_L_act_r5 : GoodIn wsL_law wsL_act_r5 := goodIn_r _ [123, 124, 18, 19, 125, 126, 127, 128, 25, 129, 130, 131, 132, 133, 134, 135, 136, 137, 138, 139, 140, 141, 142, 143] (by decide +kernel) (by decide +kernel)
set_option maxRecDepth 20000 in
theorem ggL_law_L_act_r6 : GoodIn wsL_law wsL_act_r6 := goodIn_r _ [144, 145, 146, 147, 148, 149, 150, 151, 152, 153, 154, 155, 156, 157, 158, 159, 160, 11, 161, 162, 163, 164, 165, 166] (by decide +kernel) (by decide +kernel)
set_option maxRecDepth 20000 in
theorem ggL_law_L_act_r7 : GoodIn wsL_law wsL_act_r7 := goodIn_r _ [167, 168, 169, 170, 171, 269, 270, 271, 272, 273, 274, 275, 179, 180, 181, 182, 183, 184, 185, 186, 187, 188, 189, 190] (by decide +kernel) (by decide +kernel)
set_option maxRecDepth 20000 in
theorem ggL_law_L_act_r8 : GoodIn wsL_law wsL_act_r8 := goodIn_r _ [191, 192, 193, 26, 194, 195, 196, 197, 198, 199, 200, 201, 202, 203, 204, 205, 206, 207, 208, 209, 210, 211, 212, 213] (by decide +kernel) (by decide +kernel)
set_option maxRecDepth 20000 in
theorem ggL_law_L_act_r9 : GoodIn wsL_law wsL_act_r9 := goodIn_r _ [214, 215, 46, 47, 48, 49, 216, 217, 218, 219, 220, 221, 222, 223, 224, 225, 226, 276, 277, 278, 279, 280, 281, 282] (by decide +kernel) (by decide +kernel)
set_option maxRecDepth 20000 in
theorem ggL_law_L_act_r10 : GoodIn wsL_law wsL_act_r10 := goodIn_r _ [283, 284, 285, 286, 287, 288, 289, 290, 291] (by decide +kernel) (by decide +kernel)
set_option maxRecDepth 20000 in
theorem ggL_law_L_act_c : GoodIn wsL_law [.code yL_act cL_act 9 (some .int)] := goodIn_r _ [294] rfl (by decide +kernel)
set_option maxRecDepth 20000 in
theorem ggL_law_L_act : GoodIn wsL_law wsL_act := goodIn_c ggL_law_L_act_c (goodIn_app (goodIn_app (goodIn_app (goodIn_app (goodIn_app ggL_law_L_act_r1 (goodIn_app ggL_law_L_act_r2 (goodIn_app ggL_law_L_act_r3 (goodIn_app ggL_law_L_act_r4 (goodIn_app ggL_law_L_act_r5 (goodIn_app ggL_law_L_act_r6 (goodIn_app ggL_law_L_act_r7 (goodIn_app ggL_law_L_act_r8 (goodIn_app ggL_law_L_act_r9 ggL_law_L_act_r10))))))))) (goodIn_sub inlX0 (by decide +kernel))) (goodIn_sub (fun _ h => List.mem_append_left _ (List.mem_append_left _ (List.mem_append_right _ h))) (by decide +kernel))) (goodIn_sub (fun _ h => List.mem_append_left _ (List.mem_append_right _ h)) (by decide +kernel))) (goodIn_sub (fun _ h => List.mem_append_right _ h) (by decide +kernel)))
set_option maxRecDepth 20000 in
theorem gL_law_L_act : GoodIn wsL_law (va_wsS RL 165 yL_act wsL_act) := goodIn_app (goodIn_of _ (by decide +kernel)) ggL_law_L_act
set_option maxRecDepth 20000 in
theorem ggL_law_L_alike_r1 : GoodIn wsL_law wsL_alike_r1 := goodIn_r _ [298, 299, 300, 2, 301, 28, 42, 43, 44, 45, 20, 46, 47, 48, 49, 27, 302, 303, 304, 305, 29, 255, 256, 32] (by decide +kernel) (by decide +kernel)
set_option maxRecDepth 20000 in
theorem ggL_law_L_alike_r2 : GoodIn wsL_law wsL_alike_r2 := goodIn_r _ [257, 72, 40, 258, 259, 260, 261, 25, 77, 78, 79, 80, 81, 82, 118, 119, 120, 66, 67, 68, 110, 111, 112, 113] (by decide +kernel) (by decide +kernel)
set_option maxRecDepth 20000 in
theorem ggL_law_L_alike_r3 : GoodIn wsL_law wsL_alike_r3 := goodIn_r _ [23, 262, 263, 264, 265, 266, 267, 268, 168, 169, 170, 171, 106, 107, 108, 109, 24, 269, 270, 271, 272, 273, 274, 275] (by decide +kernel) (by decide +kernel)
set_option maxRecDepth 20000 in
theorem ggL_law_L_alike_r4 : GoodIn wsL_law wsL_alike_r4 := goodIn_r _ [121, 122, 123, 124, 18, 19, 172, 173, 174, 175, 176, 177, 178, 94, 95, 96, 97, 16, 17, 98, 99, 100, 101, 15] (by decide +kernel) (by decide +kernel)
set_option maxRecDepth 20000 in
theorem ggL_law_L_alike_r5 : GoodIn wsL_law wsL_alike_r5 := goodIn_r _ [102, 103, 104, 105, 227, 228, 229, 230, 231, 232, 233, 223, 224, 225, 226, 234, 235, 236, 237, 238, 239, 240, 241, 242] (by decide +kernel) (by decide +kernel)
set_option maxRecDepth 20000 in
theorem ggL_law_L_alike_r6 : GoodIn wsL_law wsL_alike_r6 := goodIn_r _ [243, 244, 245, 246, 247] (by decide +kernel) (by decide +kernel)
set_option maxRecDepth 20000 in
theorem ggL_law_L_alike_c : GoodIn wsL_law [.code yL_alike cL_alike 4 (some .boolean)] := goodIn_r _ [297] rfl (by decide +kernel)
set_option maxRecDepth 20000 in
theorem ggL_law_L_alike : GoodIn wsL_law wsL_alike := goodIn_c ggL_law_L_alike_c (goodIn_app (goodIn_app (goodIn_app ggL_law_L_alike_r1 (goodIn_app ggL_law_L_alike_r2 (goodIn_app ggL_law_L_alike_r3 (goodIn_app ggL_law_L_alike_r4 (goodIn_app ggL_law_L_alike_r5 ggL_law_L_alike_r6))))) (goodIn_sub inlX0 (by decide +kernel))) (goodIn_sub (fun _ h => List.mem_append_right _ h) (by decide +kernel)))
set_option maxRecDepth 20000 in
theorem gL_law_L_alike : GoodIn wsL_law (va_wsS RL 168 yL_alike wsL_alike) := goodIn_app (goodIn_of _ (by decide +kernel)) ggL_law_L_alike
set_option maxRecDepth 20000 in
theorem ggL_law_L_holds_r1 : GoodIn wsL_law wsL_holds_r1 := goodIn_r _ [46, 47, 48, 2, 49, 27, 227, 228, 32, 229, 72, 40, 230, 231, 232, 233, 223, 224, 225, 226, 81, 82, 110, 111] (by decide +kernel) (by decide +kernel)
set_option maxRecDepth 20000 in
theorem ggL_law_L_holds_r2 : GoodIn wsL_law wsL_holds_r2 := goodIn_r _ [112, 113, 28, 23, 234, 235, 236, 237, 238, 239, 240, 106, 107, 108, 109, 24, 309, 310, 311, 241, 242, 243, 244, 245] (by decide +kernel) (by decide +kernel)
set_option maxRecDepth 20000 in
theorem ggL_law_L_holds_r3 : GoodIn wsL_law wsL_holds_r3 := goodIn_r _ [246, 247, 25, 42, 43, 44, 45, 20, 262, 263, 264, 265, 266, 267, 268, 77, 78, 79, 80, 168, 169, 170, 171, 118] (by decide +kernel) (by decide +kernel)
set_option maxRecDepth 20000 in
theorem ggL_law_L_holds_r4 : GoodIn wsL_law wsL_holds_r4 := goodIn_r _ [119, 120, 66, 67, 68, 255, 256, 257, 258, 259, 260, 261, 269, 270, 271, 272, 273, 274, 275, 121, 122, 123, 124, 18] (by decide +kernel) (by decide +kernel)
set_option maxRecDepth 20000 in
theorem ggL_law_L_holds_r5 : GoodIn wsL_law wsL_holds_r5 := goodIn_r _ [19, 248, 249, 250, 53, 39, 251, 252, 253, 254, 26, 61, 62, 63, 64, 65, 194, 195, 196, 302, 303, 304, 305, 29] (by decide +kernel) (by decide +kernel)
set_option maxRecDepth 20000 in
theorem ggL_law_L_holds_c : GoodIn wsL_law [.code yL_holds cL_holds 9 (some .boolean)] := goodIn_r _ [308] rfl (by decide +kernel)
set_option maxRecDepth 20000 in
theorem ggL_law_L_holds : GoodIn wsL_law wsL_holds := goodIn_c ggL_law_L_holds_c (goodIn_app (goodIn_app (goodIn_app (goodIn_app ggL_law_L_holds_r1 (goodIn_app ggL_law_L_holds_r2 (goodIn_app ggL_law_L_holds_r3 (goodIn_app ggL_law_L_holds_r4 ggL_law_L_holds_r5)))) (goodIn_sub inlX0 (by decide +kernel))) (goodIn_sub (fun _ h => List.mem_append_right _ h) (by decide +kernel))) (goodIn_sub (fun _ h => List.mem_append_left _ (List.mem_append_right _ h)) (by decide +kernel)))
set_option maxRecDepth 20000 in
theorem gL_law_L_holds : GoodIn wsL_law (va_wsS RL 172 yL_holds wsL_holds) := goodIn_app (goodIn_of _ (by decide +kernel)) ggL_law_L_holds
set_option maxRecDepth 20000 in
theorem ggL_law_L_wakes_r1 : GoodIn wsL_law wsL_wakes_r1 := goodIn_r _ [42, 43, 44, 2, 45, 20, 262, 263, 32, 264, 72, 40, 265, 266, 267, 268, 77, 78, 79, 80, 81, 82, 168, 169] (by decide +kernel) (by decide +kernel)
set_option maxRecDepth 20000 in
theorem ggL_law_L_wakes_r2 : GoodIn wsL_law wsL_wakes_r2 := goodIn_r _ [170, 171, 27, 106, 107, 108, 109, 24, 110, 111, 112, 113, 28, 23, 118, 119, 120, 66, 67, 68, 255, 256, 257, 258] (by decide +kernel) (by decide +kernel)
set_option maxRecDepth 20000 in
theorem ggL_law_L_wakes_r3 : GoodIn wsL_law wsL_wakes_r3 := goodIn_r _ [259, 260, 261, 25, 140, 141, 142, 143, 144, 145, 146, 14, 83, 84, 85, 86, 87, 88, 89, 29, 22, 90, 91, 92] (by decide +kernel) (by decide +kernel)
set_option maxRecDepth 20000 in
theorem ggL_law_L_wakes_r4 : GoodIn wsL_law wsL_wakes_r4 := goodIn_r _ [93, 13, 94, 95, 96, 97, 16, 17, 98, 99, 100, 101, 15, 102, 103, 104, 105, 114, 115, 116, 117, 121, 122, 123] (by decide +kernel) (by decide +kernel)
set_option maxRecDepth 20000 in
theorem ggL_law_L_wakes_r5 : GoodIn wsL_law wsL_wakes_r5 := goodIn_r _ [124, 18, 19, 125, 126, 127, 128, 129, 130, 131, 132, 133, 134, 135, 136, 137, 138, 139, 147, 148, 149, 53, 39, 150] (by decide +kernel) (by decide +kernel)
set_option maxRecDepth 20000 in
theorem ggL_law_L_wakes_r6 : GoodIn wsL_law wsL_wakes_r6 := goodIn_r _ [151, 152, 153, 61, 62, 63, 64, 65, 69, 70, 71, 73, 74, 75, 76, 46, 47, 48, 49, 302, 303, 304, 305, 179] (by decide +kernel) (by decide +kernel)
set_option maxRecDepth 20000 in
theorem ggL_law_L_wakes_r7 : GoodIn wsL_law wsL_wakes_r7 := goodIn_r _ [180, 181, 54, 41, 182, 183, 184, 185, 10, 186, 187, 188, 189, 59, 60, 190, 191, 192, 193, 26, 194, 195, 196, 197] (by decide +kernel) (by decide +kernel)
set_option maxRecDepth 20000 in
theorem ggL_law_L_wakes_r8 : GoodIn wsL_law wsL_wakes_r8 := goodIn_r _ [198, 199, 200, 201, 202, 203, 204, 12, 234, 235, 236, 237, 238, 239, 240, 223, 224, 225, 226, 241, 242, 243, 244, 245] (by decide +kernel) (by decide +kernel)
set_option maxRecDepth 20000 in
theorem ggL_law_L_wakes_r9 : GoodIn wsL_law wsL_wakes_r9 := goodIn_r _ [246, 247, 309, 310, 311, 276, 277, 278, 279, 280, 281, 282, 283, 284, 285, 286, 287, 288, 289, 290, 291] (by decide +kernel) (by decide +kernel)
set_option maxRecDepth 20000 in
theorem ggL_law_L_wakes_c : GoodIn wsL_law [.code yL_wakes cL_wakes 8 (some .boolean)] := goodIn_r _ [314] rfl (by decide +kernel)
set_option maxRecDepth 20000 in
theorem ggL_law_L_wakes : GoodIn wsL_law wsL_wakes := goodIn_c ggL_law_L_wakes_c (goodIn_app (goodIn_app (goodIn_app (goodIn_app (goodIn_app ggL_law_L_wakes_r1 (goodIn_app ggL_law_L_wakes_r2 (goodIn_app ggL_law_L_wakes_r3 (goodIn_app ggL_law_L_wakes_r4 (goodIn_app ggL_law_L_wakes_r5 (goodIn_app ggL_law_L_wakes_r6 (goodIn_app ggL_law_L_wakes_r7 (goodIn_app ggL_law_L_wakes_r8 ggL_law_L_wakes_r9)))))))) (goodIn_sub inlX0 (by decide +kernel))) (goodIn_sub (fun _ h => List.mem_append_right _ h) (by decide +kernel))) (goodIn_sub (fun _ h => List.mem_append_left _ (List.mem_append_right _ h)) (by decide +kernel))) (goodIn_sub (fun _ h => List.mem_append_left _ (List.mem_append_left _ (List.mem_append_right _ h))) (by decide +kernel)))
set_option maxRecDepth 20000 in
theorem gL_law_L_wakes : GoodIn wsL_law (va_wsS RL 176 yL_wakes wsL_wakes) := goodIn_app (goodIn_of _ (by decide +kernel)) ggL_law_L_wakes
