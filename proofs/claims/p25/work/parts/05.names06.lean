theorem dL_wakes_113 : decode cL_wakes 113 = .ok (.aload_n 0, 1) := by decide +kernel
theorem dL_wakes_114 : decode cL_wakes 114 = .ok (.invokevirtual 86, 3) := by decide +kernel
theorem dL_wakes_117 : decode cL_wakes 117 = .ok (.istore_n 2, 1) := by decide +kernel
theorem dL_wakes_118 : decode cL_wakes 118 = .ok (.aload_n 0, 1) := by decide +kernel
theorem dL_wakes_119 : decode cL_wakes 119 = .ok (.invokevirtual 150, 3) := by decide +kernel
theorem dL_wakes_122 : decode cL_wakes 122 = .ok (.istore_n 3, 1) := by decide +kernel
theorem dL_wakes_123 : decode cL_wakes 123 = .ok (.iload_n 1, 1) := by decide +kernel
theorem dL_wakes_124 : decode cL_wakes 124 = .ok (.ifCond .eq 59, 3) := by decide +kernel
theorem dL_wakes_127 : decode cL_wakes 127 = .ok (.iload_n 2, 1) := by decide +kernel
theorem dL_wakes_128 : decode cL_wakes 128 = .ok (.bipush 120, 2) := by decide +kernel
theorem dL_wakes_130 : decode cL_wakes 130 = .ok (.if_icmp .eq 41, 3) := by decide +kernel
theorem dL_wakes_133 : decode cL_wakes 133 = .ok (.aload_n 0, 1) := by decide +kernel
theorem dL_wakes_134 : decode cL_wakes 134 = .ok (.iconst 0, 1) := by decide +kernel
theorem dL_wakes_135 : decode cL_wakes 135 = .ok (.iconst (-1), 1) := by decide +kernel
theorem dL_wakes_136 : decode cL_wakes 136 = .ok (.iconst 0, 1) := by decide +kernel
theorem dL_wakes_137 : decode cL_wakes 137 = .ok (.bipush 7, 2) := by decide +kernel
theorem dL_wakes_139 : decode cL_wakes 139 = .ok (.invokestatic 117, 3) := by decide +kernel
theorem dL_wakes_142 : decode cL_wakes 142 = .ok (.iload_n 2, 1) := by decide +kernel
theorem dL_wakes_143 : decode cL_wakes 143 = .ok (.if_icmp .ne 40, 3) := by decide +kernel
theorem dL_wakes_146 : decode cL_wakes 146 = .ok (.aload_n 0, 1) := by decide +kernel
theorem dL_wakes_147 : decode cL_wakes 147 = .ok (.iload_n 2, 1) := by decide +kernel
theorem dL_wakes_148 : decode cL_wakes 148 = .ok (.invokestatic 130, 3) := by decide +kernel
theorem dL_wakes_151 : decode cL_wakes 151 = .ok (.ifCond .ne 32, 3) := by decide +kernel
theorem dL_wakes_154 : decode cL_wakes 154 = .ok (.aload_n 0, 1) := by decide +kernel
theorem dL_wakes_155 : decode cL_wakes 155 = .ok (.invokevirtual 150, 3) := by decide +kernel
theorem dL_wakes_158 : decode cL_wakes 158 = .ok (.iload_n 3, 1) := by decide +kernel
theorem dL_wakes_159 : decode cL_wakes 159 = .ok (.aload_n 0, 1) := by decide +kernel
theorem dL_wakes_160 : decode cL_wakes 160 = .ok (.iload_n 2, 1) := by decide +kernel
theorem dL_wakes_161 : decode cL_wakes 161 = .ok (.invokestatic 133, 3) := by decide +kernel
theorem dL_wakes_164 : decode cL_wakes 164 = .ok (.invokestatic 153, 3) := by decide +kernel
theorem dL_wakes_167 : decode cL_wakes 167 = .ok (.iadd, 1) := by decide +kernel
theorem dL_wakes_168 : decode cL_wakes 168 = .ok (.if_icmp .ne 15, 3) := by decide +kernel
theorem dL_wakes_171 : decode cL_wakes 171 = .ok (.aload_n 0, 1) := by decide +kernel
theorem dL_wakes_172 : decode cL_wakes 172 = .ok (.iconst 1, 1) := by decide +kernel
theorem dL_wakes_173 : decode cL_wakes 173 = .ok (.invokestatic 144, 3) := by decide +kernel
theorem dL_wakes_176 : decode cL_wakes 176 = .ok (.ifCond .ne 7, 3) := by decide +kernel
theorem dL_wakes_179 : decode cL_wakes 179 = .ok (.iconst 1, 1) := by decide +kernel
theorem dL_wakes_180 : decode cL_wakes 180 = .ok (.goto 4, 3) := by decide +kernel
theorem dL_wakes_183 : decode cL_wakes 183 = .ok (.iconst 0, 1) := by decide +kernel
theorem dL_wakes_184 : decode cL_wakes 184 = .ok (.ireturn, 1) := by decide +kernel
set_option maxRecDepth 20000 in
theorem ggL_law_X0_init : GoodIn wsL_law wsX0_init := goodIn_r _ [5, 6, 7, 8, 9, 10, 11, 12, 13, 14, 15, 16, 17, 18, 19, 20, 21, 22, 23, 24, 25, 26, 27, 28, 29, 315, 316, 317, 318, 319, 320, 321, 322, 323, 324, 325, 326, 327, 328, 329, 330, 331, 332, 333] (by decide +kernel) (by decide +kernel)
set_option maxRecDepth 20000 in
theorem gL_law_X0_init : GoodIn wsL_law (wsX0_init) := ggL_law_X0_init
set_option maxRecDepth 20000 in
theorem ggL_law_L_drawn : GoodIn wsL_law wsL_drawn := goodIn_r _ [33, 34, 35] (by decide +kernel) (by decide +kernel)
set_option maxRecDepth 20000 in
theorem gL_law_L_drawn : GoodIn wsL_law (va_wsS RL 157 yL_drawn wsL_drawn) := goodIn_app (goodIn_of _ (by decide +kernel)) ggL_law_L_drawn
set_option maxRecDepth 20000 in
theorem ggL_law_L_refuses : GoodIn wsL_law wsL_refuses := goodIn_ca (goodIn_ca (goodIn_ca (goodIn_r _ [38, 39, 40, 41, 42, 43, 44, 2, 45, 20, 46, 47, 48, 49, 27, 50, 51, 32, 52, 53, 54, 55, 56, 57, 58, 59, 60, 15, 10, 12, 13, 61, 62, 63, 64, 65, 66, 67, 68, 69, 70, 71, 72, 73, 74, 75, 76, 77, 78, 79, 80, 81, 82, 83, 84, 85, 86, 87, 88, 89, 29, 22, 90, 91, 92, 93, 28, 14, 94, 95, 96, 97, 16, 17, 98, 99, 100, 101, 102, 103, 104, 105, 106, 107, 108, 109, 24, 110, 111, 112, 113, 23, 114, 115, 116, 117, 118, 119, 120, 121, 122, 123, 124, 18, 19, 125, 126, 127, 128, 25, 129, 130, 131, 132, 133, 134, 135, 136, 137, 138, 139, 140, 141, 142, 143, 144, 145, 146, 147, 148, 149, 150, 151, 152, 153, 154, 155, 156, 157, 158, 159, 160, 11, 161, 162, 163, 164, 165, 166, 167, 168, 169, 170, 171, 172, 173, 174, 175, 176, 177, 178, 179, 180, 181, 182, 183, 184, 185, 186, 187, 188, 189, 190, 191, 192, 193, 26, 194, 195, 196, 197, 198, 199, 200, 201, 202, 203, 204, 205, 206, 207, 208, 209, 210, 211, 212, 213, 214, 215, 216, 217, 218, 219, 220, 221, 222, 223, 224, 225, 226, 227, 228, 229, 230, 231, 232, 233, 234, 235, 236, 237, 238, 239, 240, 241, 242, 243, 244, 245, 246, 247, 248, 249, 250, 251, 252, 253, 254, 255, 256, 257, 258, 259, 260, 261, 262, 263, 264, 265, 266, 267, 268, 269, 270, 271, 272, 273, 274, 275, 276, 277, 278, 279, 280, 281, 282, 283, 284, 285, 286, 287, 288, 289, 290, 291, 315, 316, 317, 318, 319, 320, 321, 322, 323, 324, 325, 326, 327, 328, 329, 330, 331, 332, 333] (by decide +kernel) (by decide +kernel)) (goodIn_sub (fun _ h => List.mem_append_left _ (List.mem_append_left _ (List.mem_append_right _ h))) (by decide +kernel))) (goodIn_sub (fun _ h => List.mem_append_left _ (List.mem_append_right _ h)) (by decide +kernel))) (goodIn_sub (fun _ h => List.mem_append_right _ h) (by decide +kernel))
set_option maxRecDepth 20000 in
theorem gL_law_L_refuses : GoodIn wsL_law (va_wsS RL 161 yL_refuses wsL_refuses) := goodIn_app (goodIn_of _ (by decide +kernel)) ggL_law_L_refuses
set_option maxRecDepth 20000 in
theorem ggL_law_L_act : GoodIn wsL_law wsL_act := goodIn_ca (goodIn_ca (goodIn_ca (goodIn_r _ [294, 42, 43, 44, 2, 45, 20, 50, 51, 32, 52, 53, 54, 39, 41, 55, 56, 57, 58, 59, 60, 15, 10, 12, 13, 61, 62, 63, 64, 65, 66, 67, 68, 69, 70, 71, 72, 40, 73, 74, 75, 76, 77, 78, 79, 80, 81, 82, 83, 84, 85, 86, 87, 88, 89, 29, 27, 22, 90, 91, 92, 93, 28, 14, 94, 95, 96, 97, 16, 17, 98, 99, 100, 101, 102, 103, 104, 105, 106, 107, 108, 109, 24, 110, 111, 112, 113, 23, 114, 115, 116, 117, 118, 119, 120, 121, 122, 123, 124, 18, 19, 125, 126, 127, 128, 25, 129, 130, 131, 132, 133, 134, 135, 136, 137, 138, 139, 140, 141, 142, 143, 144, 145, 146, 147, 148, 149, 150, 151, 152, 153, 154, 155, 156, 157, 158, 159, 160, 11, 161, 162, 163, 164, 165, 166, 167, 168, 169, 170, 171, 269, 270, 271, 272, 273, 274, 275, 179, 180, 181, 182, 183, 184, 185, 186, 187, 188, 189, 190, 191, 192, 193, 26, 194, 195, 196, 197, 198, 199, 200, 201, 202, 203, 204, 205, 206, 207, 208, 209, 210, 211, 212, 213, 214, 215, 46, 47, 48, 49, 216, 217, 218, 219, 220, 221, 222, 223, 224, 225, 226, 276, 277, 278, 279, 280, 281, 282, 283, 284, 285, 286, 287, 288, 289, 290, 291, 315, 316, 317, 318, 319, 320, 321, 322, 323, 324, 325, 326, 327, 328, 329, 330, 331, 332, 333] (by decide +kernel) (by decide +kernel)) (goodIn_sub (fun _ h => List.mem_append_left _ (List.mem_append_left _ (List.mem_append_right _ h))) (by decide +kernel))) (goodIn_sub (fun _ h => List.mem_append_left _ (List.mem_append_right _ h)) (by decide +kernel))) (goodIn_sub (fun _ h => List.mem_append_right _ h) (by decide +kernel))
set_option maxRecDepth 20000 in
theorem gL_law_L_act : GoodIn wsL_law (va_wsS RL 165 yL_act wsL_act) := goodIn_app (goodIn_of _ (by decide +kernel)) ggL_law_L_act
set_option maxRecDepth 20000 in
theorem ggL_law_L_alike : GoodIn wsL_law wsL_alike := goodIn_ca (goodIn_r _ [297, 298, 299, 300, 2, 301, 28, 42, 43, 44, 45, 20, 46, 47, 48, 49, 27, 302, 303, 304, 305, 29, 255, 256, 32, 257, 72, 40, 258, 259, 260, 261, 25, 77, 78, 79, 80, 81, 82, 118, 119, 120, 66, 67, 68, 110, 111, 112, 113, 23, 262, 263, 264, 265, 266, 267, 268, 168, 169, 170, 171, 106, 107, 108, 109, 24, 269, 270, 271, 272, 273, 274, 275, 121, 122, 123, 124, 18, 19, 172, 173, 174, 175, 176, 177, 178, 94, 95, 96, 97, 16, 17, 98, 99, 100, 101, 15, 102, 103, 104, 105, 227, 228, 229, 230, 231, 232, 233, 223, 224, 225, 226, 234, 235, 236, 237, 238, 239, 240, 241, 242, 243, 244, 245, 246, 247, 315, 316, 317, 318, 319, 320, 321, 322, 323, 324, 325, 326, 327, 328, 329, 330, 331, 332, 333] (by decide +kernel) (by decide +kernel)) (goodIn_sub (fun _ h => List.mem_append_right _ h) (by decide +kernel))
set_option maxRecDepth 20000 in
theorem gL_law_L_alike : GoodIn wsL_law (va_wsS RL 168 yL_alike wsL_alike) := goodIn_app (goodIn_of _ (by decide +kernel)) ggL_law_L_alike
set_option maxRecDepth 20000 in
theorem ggL_law_L_holds : GoodIn wsL_law wsL_holds := goodIn_ca (goodIn_ca (goodIn_r _ [308, 46, 47, 48, 2, 49, 27, 227, 228, 32, 229, 72, 40, 230, 231, 232, 233, 223, 224, 225, 226, 81, 82, 110, 111, 112, 113, 28, 23, 234, 235, 236, 237, 238, 239, 240, 106, 107, 108, 109, 24, 309, 310, 311, 241, 242, 243, 244, 245, 246, 247, 25, 42, 43, 44, 45, 20, 262, 263, 264, 265, 266, 267, 268, 77, 78, 79, 80, 168, 169, 170, 171, 118, 119, 120, 66, 67, 68, 255, 256, 257, 258, 259, 260, 261, 269, 270, 271, 272, 273, 274, 275, 121, 122, 123, 124, 18, 19, 248, 249, 250, 53, 39, 251, 252, 253, 254, 26, 61, 62, 63, 64, 65, 194, 195, 196, 302, 303, 304, 305, 29, 315, 316, 317, 318, 319, 320, 321, 322, 323, 324, 325, 326, 327, 328, 329, 330, 331, 332, 333] (by decide +kernel) (by decide +kernel)) (goodIn_sub (fun _ h => List.mem_append_right _ h) (by decide +kernel))) (goodIn_sub (fun _ h => List.mem_append_left _ (List.mem_append_right _ h)) (by decide +kernel))
set_option maxRecDepth 20000 in
theorem gL_law_L_holds : GoodIn wsL_law (va_wsS RL 172 yL_holds wsL_holds) := goodIn_app (goodIn_of _ (by decide +kernel)) ggL_law_L_holds
set_option maxRecDepth 20000 in
theorem ggL_law_L_wakes : GoodIn wsL_law wsL_wakes := goodIn_ca (goodIn_ca (goodIn_ca (goodIn_r _ [314, 42, 43, 44, 2, 45, 20, 262, 263, 32, 264, 72, 40, 265, 266, 267, 268, 77, 78, 79, 80, 81, 82, 168, 169, 170, 171, 27, 106, 107, 108, 109, 24, 110, 111, 112, 113, 28, 23, 118, 119, 120, 66, 67, 68, 255, 256, 257, 258, 259, 260, 261, 25, 140, 141, 142, 143, 144, 145, 146, 14, 83, 84, 85, 86, 87, 88, 89, 29, 22, 90, 91, 92, 93, 13, 94, 95, 96, 97, 16, 17, 98, 99, 100, 101, 15, 102, 103, 104, 105, 114, 115, 116, 117, 121, 122, 123, 124, 18, 19, 125, 126, 127, 128, 129, 130, 131, 132, 133, 134, 135, 136, 137, 138, 139, 147, 148, 149, 53, 39, 150, 151, 152, 153, 61, 62, 63, 64, 65, 69, 70, 71, 73, 74, 75, 76, 46, 47, 48, 49, 302, 303, 304, 305, 179, 180, 181, 54, 41, 182, 183, 184, 185, 10, 186, 187, 188, 189, 59, 60, 190, 191, 192, 193, 26, 194, 195, 196, 197, 198, 199, 200, 201, 202, 203, 204, 12, 234, 235, 236, 237, 238, 239, 240, 223, 224, 225, 226, 241, 242, 243, 244, 245, 246, 247, 309, 310, 311, 276, 277, 278, 279, 280, 281, 282, 283, 284, 285, 286, 287, 288, 289, 290, 291, 315, 316, 317, 318, 319, 320, 321, 322, 323, 324, 325, 326, 327, 328, 329, 330, 331, 332, 333] (by decide +kernel) (by decide +kernel)) (goodIn_sub (fun _ h => List.mem_append_right _ h) (by decide +kernel))) (goodIn_sub (fun _ h => List.mem_append_left _ (List.mem_append_right _ h)) (by decide +kernel))) (goodIn_sub (fun _ h => List.mem_append_left _ (List.mem_append_left _ (List.mem_append_right _ h))) (by decide +kernel))
set_option maxRecDepth 20000 in
theorem gL_law_L_wakes : GoodIn wsL_law (va_wsS RL 176 yL_wakes wsL_wakes) := goodIn_app (goodIn_of _ (by decide +kernel)) ggL_law_L_wakes
theorem dL_law_0 : decode cL_law 0 = .ok (.new 8, 3) := by decide +kernel
theorem dL_law_3 : decode cL_law 3 = .ok (.dup, 1) := by decide +kernel
theorem dL_law_4 : decode cL_law 4 = .ok (.invokespecial 156, 3) := by decide +kernel
theorem dL_law_7 : decode cL_law 7 = .ok (.astore_n 1, 1) := by decide +kernel
theorem dL_law_8 : decode cL_law 8 = .ok (.new 8, 3) := by decide +kernel
theorem dL_law_11 : decode cL_law 11 = .ok (.dup, 1) := by decide +kernel
theorem dL_law_12 : decode cL_law 12 = .ok (.invokespecial 156, 3) := by decide +kernel
theorem dL_law_15 : decode cL_law 15 = .ok (.astore_n 2, 1) := by decide +kernel
theorem dL_law_16 : decode cL_law 16 = .ok (.bipush 12, 2) := by decide +kernel
theorem dL_law_18 : decode cL_law 18 = .ok (.aload_n 0, 1) := by decide +kernel
theorem dL_law_19 : decode cL_law 19 = .ok (.iconst 0, 1) := by decide +kernel
theorem dL_law_20 : decode cL_law 20 = .ok (.invokestatic 157, 3) := by decide +kernel
theorem dL_law_23 : decode cL_law 23 = .ok (.bipush 29, 2) := by decide +kernel
theorem dL_law_25 : decode cL_law 25 = .ok (.irem, 1) := by decide +kernel
theorem dL_law_26 : decode cL_law 26 = .ok (.iadd, 1) := by decide +kernel
theorem dL_law_27 : decode cL_law 27 = .ok (.istore_n 3, 1) := by decide +kernel
theorem dL_law_28 : decode cL_law 28 = .ok (.iconst 1, 1) := by decide +kernel
theorem dL_law_29 : decode cL_law 29 = .ok (.istore 4, 2) := by decide +kernel
theorem dL_law_31 : decode cL_law 31 = .ok (.iconst 0, 1) := by decide +kernel
theorem dL_law_32 : decode cL_law 32 = .ok (.istore 5, 2) := by decide +kernel
theorem dL_law_34 : decode cL_law 34 = .ok (.iload 5, 2) := by decide +kernel
theorem dL_law_36 : decode cL_law 36 = .ok (.iload_n 3, 1) := by decide +kernel
theorem dL_law_37 : decode cL_law 37 = .ok (.if_icmp .ge 117, 3) := by decide +kernel
theorem dL_law_40 : decode cL_law 40 = .ok (.iload 4, 2) := by decide +kernel
theorem dL_law_42 : decode cL_law 42 = .ok (.ifCond .eq 112, 3) := by decide +kernel
theorem dL_law_45 : decode cL_law 45 = .ok (.aload_n 0, 1) := by decide +kernel
theorem dL_law_46 : decode cL_law 46 = .ok (.iconst 1, 1) := by decide +kernel
theorem dL_law_47 : decode cL_law 47 = .ok (.iload 5, 2) := by decide +kernel
theorem dL_law_49 : decode cL_law 49 = .ok (.iadd, 1) := by decide +kernel
theorem dL_law_50 : decode cL_law 50 = .ok (.invokestatic 157, 3) := by decide +kernel
theorem dL_law_53 : decode cL_law 53 = .ok (.istore 6, 2) := by decide +kernel
theorem dL_law_55 : decode cL_law 55 = .ok (.iload 5, 2) := by decide +kernel
theorem dL_law_57 : decode cL_law 57 = .ok (.iconst 2, 1) := by decide +kernel
theorem dL_law_58 : decode cL_law 58 = .ok (.if_icmp .ge 14, 3) := by decide +kernel
theorem dL_law_61 : decode cL_law 61 = .ok (.iload 6, 2) := by decide +kernel
theorem dL_law_63 : decode cL_law 63 = .ok (.bipush 16, 2) := by decide +kernel
theorem dL_law_65 : decode cL_law 65 = .ok (.idiv, 1) := by decide +kernel
theorem dL_law_66 : decode cL_law 66 = .ok (.bipush 16, 2) := by decide +kernel
theorem dL_law_68 : decode cL_law 68 = .ok (.imul, 1) := by decide +kernel
theorem dL_law_69 : decode cL_law 69 = .ok (.goto 5, 3) := by decide +kernel
theorem dL_law_72 : decode cL_law 72 = .ok (.iload 6, 2) := by decide +kernel
theorem dL_law_74 : decode cL_law 74 = .ok (.istore 6, 2) := by decide +kernel
theorem dL_law_76 : decode cL_law 76 = .ok (.aload_n 2, 1) := by decide +kernel
theorem dL_law_77 : decode cL_law 77 = .ok (.iload 6, 2) := by decide +kernel
theorem dL_law_79 : decode cL_law 79 = .ok (.sipush 9973, 3) := by decide +kernel
theorem dL_law_82 : decode cL_law 82 = .ok (.irem, 1) := by decide +kernel
theorem dL_law_83 : decode cL_law 83 = .ok (.invokestatic 161, 3) := by decide +kernel
theorem dL_law_86 : decode cL_law 86 = .ok (.ifCond .eq 59, 3) := by decide +kernel
theorem dL_law_89 : decode cL_law 89 = .ok (.aload_n 1, 1) := by decide +kernel
theorem dL_law_90 : decode cL_law 90 = .ok (.iload 6, 2) := by decide +kernel
theorem dL_law_92 : decode cL_law 92 = .ok (.iconst 0, 1) := by decide +kernel
theorem dL_law_93 : decode cL_law 93 = .ok (.invokestatic 165, 3) := by decide +kernel
theorem dL_law_96 : decode cL_law 96 = .ok (.aload_n 2, 1) := by decide +kernel
theorem dL_law_97 : decode cL_law 97 = .ok (.iload 6, 2) := by decide +kernel
theorem dL_law_99 : decode cL_law 99 = .ok (.iconst 1, 1) := by decide +kernel
theorem dL_law_100 : decode cL_law 100 = .ok (.invokestatic 165, 3) := by decide +kernel
theorem dL_law_103 : decode cL_law 103 = .ok (.if_icmp .ne 42, 3) := by decide +kernel
theorem dL_law_106 : decode cL_law 106 = .ok (.aload_n 2, 1) := by decide +kernel
theorem dL_law_107 : decode cL_law 107 = .ok (.iload 6, 2) := by decide +kernel
theorem dL_law_109 : decode cL_law 109 = .ok (.sipush 499, 3) := by decide +kernel
theorem dL_law_112 : decode cL_law 112 = .ok (.irem, 1) := by decide +kernel
theorem dL_law_113 : decode cL_law 113 = .ok (.invokestatic 161, 3) := by decide +kernel
theorem dL_law_116 : decode cL_law 116 = .ok (.ifCond .eq 29, 3) := by decide +kernel
theorem dL_law_119 : decode cL_law 119 = .ok (.aload_n 1, 1) := by decide +kernel
theorem dL_law_120 : decode cL_law 120 = .ok (.aload_n 2, 1) := by decide +kernel
theorem dL_law_121 : decode cL_law 121 = .ok (.invokestatic 168, 3) := by decide +kernel
theorem dL_law_124 : decode cL_law 124 = .ok (.ifCond .eq 21, 3) := by decide +kernel
theorem dL_law_127 : decode cL_law 127 = .ok (.iload 5, 2) := by decide +kernel
theorem dL_law_129 : decode cL_law 129 = .ok (.iconst 4, 1) := by decide +kernel
theorem dL_law_130 : decode cL_law 130 = .ok (.irem, 1) := by decide +kernel
theorem dL_law_131 : decode cL_law 131 = .ok (.ifCond .gt 10, 3) := by decide +kernel
theorem dL_law_134 : decode cL_law 134 = .ok (.aload_n 2, 1) := by decide +kernel
theorem dL_law_135 : decode cL_law 135 = .ok (.invokestatic 172, 3) := by decide +kernel
theorem dL_law_138 : decode cL_law 138 = .ok (.ifCond .eq 7, 3) := by decide +kernel
theorem dL_law_141 : decode cL_law 141 = .ok (.iconst 1, 1) := by decide +kernel
theorem dL_law_142 : decode cL_law 142 = .ok (.goto 4, 3) := by decide +kernel
theorem dL_law_145 : decode cL_law 145 = .ok (.iconst 0, 1) := by decide +kernel
theorem dL_law_146 : decode cL_law 146 = .ok (.istore 4, 2) := by decide +kernel
theorem dL_law_148 : decode cL_law 148 = .ok (.iinc 5 1, 3) := by decide +kernel
theorem dL_law_151 : decode cL_law 151 = .ok (.goto (-117), 3) := by decide +kernel
theorem dL_law_154 : decode cL_law 154 = .ok (.iload 4, 2) := by decide +kernel
theorem dL_law_156 : decode cL_law 156 = .ok (.ifCond .eq 28, 3) := by decide +kernel
theorem dL_law_159 : decode cL_law 159 = .ok (.aload_n 1, 1) := by decide +kernel
theorem dL_law_160 : decode cL_law 160 = .ok (.invokestatic 172, 3) := by decide +kernel
theorem dL_law_163 : decode cL_law 163 = .ok (.ifCond .eq 21, 3) := by decide +kernel
theorem dL_law_166 : decode cL_law 166 = .ok (.aload_n 1, 1) := by decide +kernel
theorem dL_law_167 : decode cL_law 167 = .ok (.invokestatic 176, 3) := by decide +kernel
theorem dL_law_170 : decode cL_law 170 = .ok (.ifCond .eq 14, 3) := by decide +kernel
theorem dL_law_173 : decode cL_law 173 = .ok (.aload_n 1, 1) := by decide +kernel
theorem dL_law_174 : decode cL_law 174 = .ok (.invokestatic 172, 3) := by decide +kernel
theorem dL_law_177 : decode cL_law 177 = .ok (.ifCond .eq 7, 3) := by decide +kernel
theorem dL_law_180 : decode cL_law 180 = .ok (.iconst 1, 1) := by decide +kernel
theorem dL_law_181 : decode cL_law 181 = .ok (.goto 4, 3) := by decide +kernel
theorem dL_law_184 : decode cL_law 184 = .ok (.iconst 0, 1) := by decide +kernel
theorem dL_law_185 : decode cL_law 185 = .ok (.ireturn, 1) := by decide +kernel
abbrev vwCl : List vw_C := [(RX0, TX0, 19)]
