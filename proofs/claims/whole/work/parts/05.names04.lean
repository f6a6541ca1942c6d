theorem dX1_add_68 : decode cX1_add 68 = .ok (.invokevirtual 104, 3) := by decide +kernel
theorem dX1_add_71 : decode cX1_add 71 = .ok (.pop, 1) := by decide +kernel
theorem dX1_add_72 : decode cX1_add 72 = .ok (.aload_n 0, 1) := by decide +kernel
theorem dX1_add_73 : decode cX1_add 73 = .ok (.getfield 73, 3) := by decide +kernel
theorem dX1_add_76 : decode cX1_add 76 = .ok (.iconst 1, 1) := by decide +kernel
theorem dX1_add_77 : decode cX1_add 77 = .ok (.isub, 1) := by decide +kernel
theorem dX1_add_78 : decode cX1_add 78 = .ok (.ireturn, 1) := by decide +kernel
set_option maxRecDepth 20000 in
theorem ggX1_send_X1_in : GoodIn wsX1_send wsX1_in := goodIn_r _ [8] (by decide +kernel) (by decide +kernel)
set_option maxRecDepth 20000 in
theorem gX1_send_X1_in : GoodIn wsX1_send (va_wsS RX1 69 yX1_in wsX1_in) := goodIn_app (goodIn_of _ (by decide +kernel)) ggX1_send_X1_in
set_option maxRecDepth 20000 in
theorem ggX1_send_X1_refused : GoodIn wsX1_send wsX1_refused := goodIn_r _ [12, 13, 62, 63, 64, 65, 66, 67, 68, 69, 70, 71, 72, 73, 74, 75, 76, 77, 78, 79, 80, 81, 82, 83] (by decide +kernel) (by decide +kernel)
set_option maxRecDepth 20000 in
theorem gX1_send_X1_refused : GoodIn wsX1_send (wsV RX1 98 RX1 yX1_refused wsX1_refused) := goodIn_app (goodIn_of _ (by decide +kernel)) ggX1_send_X1_refused
set_option maxRecDepth 20000 in
theorem ggX1_send_X1_standingNow : GoodIn wsX1_send wsX1_standingNow := goodIn_r _ [17, 1, 18, 19, 20, 62, 63, 64, 65, 66, 67, 68, 69, 70, 71, 72, 73, 74, 75, 76, 77, 78, 79, 80, 81, 82, 83] (by decide +kernel) (by decide +kernel)
set_option maxRecDepth 20000 in
theorem gX1_send_X1_standingNow : GoodIn wsX1_send (wsV RX1 114 RX1 yX1_standingNow wsX1_standingNow) := goodIn_app (goodIn_of _ (by decide +kernel)) ggX1_send_X1_standingNow
set_option maxRecDepth 20000 in
theorem ggX1_send_X1_end : GoodIn wsX1_send wsX1_end := goodIn_r _ [24, 20, 25, 62, 63, 64, 65, 66, 67, 68, 69, 70, 71, 72, 73, 74, 75, 76, 77, 78, 79, 80, 81, 82, 83] (by decide +kernel) (by decide +kernel)
set_option maxRecDepth 20000 in
theorem gX1_send_X1_end : GoodIn wsX1_send (wsV RX1 118 RX1 yX1_end wsX1_end) := goodIn_app (goodIn_of _ (by decide +kernel)) ggX1_send_X1_end
set_option maxRecDepth 20000 in
theorem ggX1_send_X1_add : GoodIn wsX1_send wsX1_add := goodIn_r _ [29, 18, 1, 19, 30, 31, 32, 25, 33, 34, 35, 7, 36, 37, 2, 38, 39, 40, 41, 42, 43, 44, 45, 46, 47, 48, 49, 50, 51, 52, 53, 54, 55, 56, 57, 58, 59, 60, 61, 62, 63, 64, 65, 66, 67, 68, 69, 70, 71, 72, 73, 74, 75, 76, 77, 78, 79, 80, 81, 82, 83] (by decide +kernel) (by decide +kernel)
set_option maxRecDepth 20000 in
theorem gX1_send_X1_add : GoodIn wsX1_send (wsV RX1 122 RX1 yX1_add wsX1_add) := goodIn_app (goodIn_of _ (by decide +kernel)) ggX1_send_X1_add
theorem dX1_send_0 : decode cX1_send 0 = .ok (.iload_n 1, 1) := by decide +kernel
theorem dX1_send_1 : decode cX1_send 1 = .ok (.iconst 0, 1) := by decide +kernel
theorem dX1_send_2 : decode cX1_send 2 = .ok (.bipush 7, 2) := by decide +kernel
theorem dX1_send_4 : decode cX1_send 4 = .ok (.invokestatic 69, 3) := by decide +kernel
theorem dX1_send_7 : decode cX1_send 7 = .ok (.ifCond .eq 29, 3) := by decide +kernel
theorem dX1_send_10 : decode cX1_send 10 = .ok (.iload_n 2, 1) := by decide +kernel
theorem dX1_send_11 : decode cX1_send 11 = .ok (.iconst (-1), 1) := by decide +kernel
theorem dX1_send_12 : decode cX1_send 12 = .ok (.bipush 9, 2) := by decide +kernel
theorem dX1_send_14 : decode cX1_send 14 = .ok (.invokestatic 69, 3) := by decide +kernel
theorem dX1_send_17 : decode cX1_send 17 = .ok (.ifCond .eq 19, 3) := by decide +kernel
theorem dX1_send_20 : decode cX1_send 20 = .ok (.iload 4, 2) := by decide +kernel
theorem dX1_send_22 : decode cX1_send 22 = .ok (.iconst 1, 1) := by decide +kernel
theorem dX1_send_23 : decode cX1_send 23 = .ok (.sipush 10000, 3) := by decide +kernel
theorem dX1_send_26 : decode cX1_send 26 = .ok (.invokestatic 69, 3) := by decide +kernel
theorem dX1_send_29 : decode cX1_send 29 = .ok (.ifCond .eq 7, 3) := by decide +kernel
theorem dX1_send_32 : decode cX1_send 32 = .ok (.iconst 1, 1) := by decide +kernel
theorem dX1_send_33 : decode cX1_send 33 = .ok (.goto 4, 3) := by decide +kernel
theorem dX1_send_36 : decode cX1_send 36 = .ok (.iconst 0, 1) := by decide +kernel
theorem dX1_send_37 : decode cX1_send 37 = .ok (.istore 5, 2) := by decide +kernel
theorem dX1_send_39 : decode cX1_send 39 = .ok (.aload_n 0, 1) := by decide +kernel
theorem dX1_send_40 : decode cX1_send 40 = .ok (.iload 5, 2) := by decide +kernel
theorem dX1_send_42 : decode cX1_send 42 = .ok (.ifCond .ne 7, 3) := by decide +kernel
theorem dX1_send_45 : decode cX1_send 45 = .ok (.iconst 1, 1) := by decide +kernel
theorem dX1_send_46 : decode cX1_send 46 = .ok (.goto 17, 3) := by decide +kernel
theorem dX1_send_49 : decode cX1_send 49 = .ok (.aload_n 0, 1) := by decide +kernel
theorem dX1_send_50 : decode cX1_send 50 = .ok (.getfield 73, 3) := by decide +kernel
theorem dX1_send_53 : decode cX1_send 53 = .ok (.bipush 120, 2) := by decide +kernel
theorem dX1_send_55 : decode cX1_send 55 = .ok (.if_icmp .ne 7, 3) := by decide +kernel
theorem dX1_send_58 : decode cX1_send 58 = .ok (.iconst 2, 1) := by decide +kernel
theorem dX1_send_59 : decode cX1_send 59 = .ok (.goto 4, 3) := by decide +kernel
theorem dX1_send_62 : decode cX1_send 62 = .ok (.iconst 0, 1) := by decide +kernel
theorem dX1_send_63 : decode cX1_send 63 = .ok (.invokevirtual 98, 3) := by decide +kernel
theorem dX1_send_66 : decode cX1_send 66 = .ok (.ifCond .eq 5, 3) := by decide +kernel
theorem dX1_send_69 : decode cX1_send 69 = .ok (.iconst 0, 1) := by decide +kernel
theorem dX1_send_70 : decode cX1_send 70 = .ok (.ireturn, 1) := by decide +kernel
theorem dX1_send_71 : decode cX1_send 71 = .ok (.iload_n 2, 1) := by decide +kernel
theorem dX1_send_72 : decode cX1_send 72 = .ok (.iconst (-1), 1) := by decide +kernel
theorem dX1_send_73 : decode cX1_send 73 = .ok (.if_icmp .ne 7, 3) := by decide +kernel
theorem dX1_send_76 : decode cX1_send 76 = .ok (.iconst (-1), 1) := by decide +kernel
theorem dX1_send_77 : decode cX1_send 77 = .ok (.goto 9, 3) := by decide +kernel
theorem dX1_send_80 : decode cX1_send 80 = .ok (.aload_n 0, 1) := by decide +kernel
theorem dX1_send_81 : decode cX1_send 81 = .ok (.iload_n 1, 1) := by decide +kernel
theorem dX1_send_82 : decode cX1_send 82 = .ok (.iload_n 2, 1) := by decide +kernel
theorem dX1_send_83 : decode cX1_send 83 = .ok (.invokevirtual 114, 3) := by decide +kernel
theorem dX1_send_86 : decode cX1_send 86 = .ok (.istore 6, 2) := by decide +kernel
theorem dX1_send_88 : decode cX1_send 88 = .ok (.iload 6, 2) := by decide +kernel
theorem dX1_send_90 : decode cX1_send 90 = .ok (.iconst (-1), 1) := by decide +kernel
theorem dX1_send_91 : decode cX1_send 91 = .ok (.if_icmp .eq 9, 3) := by decide +kernel
theorem dX1_send_94 : decode cX1_send 94 = .ok (.aload_n 0, 1) := by decide +kernel
theorem dX1_send_95 : decode cX1_send 95 = .ok (.iload 6, 2) := by decide +kernel
theorem dX1_send_97 : decode cX1_send 97 = .ok (.invokevirtual 118, 3) := by decide +kernel
theorem dX1_send_100 : decode cX1_send 100 = .ok (.iconst 0, 1) := by decide +kernel
theorem dX1_send_101 : decode cX1_send 101 = .ok (.istore 7, 2) := by decide +kernel
theorem dX1_send_103 : decode cX1_send 103 = .ok (.iconst 0, 1) := by decide +kernel
theorem dX1_send_104 : decode cX1_send 104 = .ok (.istore 8, 2) := by decide +kernel
theorem dX1_send_106 : decode cX1_send 106 = .ok (.iload 8, 2) := by decide +kernel
theorem dX1_send_108 : decode cX1_send 108 = .ok (.aload_n 0, 1) := by decide +kernel
theorem dX1_send_109 : decode cX1_send 109 = .ok (.getfield 66, 3) := by decide +kernel
theorem dX1_send_112 : decode cX1_send 112 = .ok (.if_icmp .ge 43, 3) := by decide +kernel
theorem dX1_send_115 : decode cX1_send 115 = .ok (.iload 7, 2) := by decide +kernel
theorem dX1_send_117 : decode cX1_send 117 = .ok (.aload_n 0, 1) := by decide +kernel
theorem dX1_send_118 : decode cX1_send 118 = .ok (.getfield 7, 3) := by decide +kernel
theorem dX1_send_121 : decode cX1_send 121 = .ok (.iload 8, 2) := by decide +kernel
theorem dX1_send_123 : decode cX1_send 123 = .ok (.iaload, 1) := by decide +kernel
theorem dX1_send_124 : decode cX1_send 124 = .ok (.iload_n 1, 1) := by decide +kernel
theorem dX1_send_125 : decode cX1_send 125 = .ok (.if_icmp .ne 20, 3) := by decide +kernel
theorem dX1_send_128 : decode cX1_send 128 = .ok (.aload_n 0, 1) := by decide +kernel
theorem dX1_send_129 : decode cX1_send 129 = .ok (.getfield 23, 3) := by decide +kernel
theorem dX1_send_132 : decode cX1_send 132 = .ok (.iload 8, 2) := by decide +kernel
theorem dX1_send_134 : decode cX1_send 134 = .ok (.baload, 1) := by decide +kernel
theorem dX1_send_135 : decode cX1_send 135 = .ok (.ifCond .ne 10, 3) := by decide +kernel
theorem dX1_send_138 : decode cX1_send 138 = .ok (.iconst 1, 1) := by decide +kernel
theorem dX1_send_139 : decode cX1_send 139 = .ok (.iload 8, 2) := by decide +kernel
theorem dX1_send_141 : decode cX1_send 141 = .ok (.ishl, 1) := by decide +kernel
theorem dX1_send_142 : decode cX1_send 142 = .ok (.goto 4, 3) := by decide +kernel
theorem dX1_send_145 : decode cX1_send 145 = .ok (.iconst 0, 1) := by decide +kernel
theorem dX1_send_146 : decode cX1_send 146 = .ok (.ior, 1) := by decide +kernel
theorem dX1_send_147 : decode cX1_send 147 = .ok (.istore 7, 2) := by decide +kernel
theorem dX1_send_149 : decode cX1_send 149 = .ok (.iinc 8 1, 3) := by decide +kernel
theorem dX1_send_152 : decode cX1_send 152 = .ok (.goto (-46), 3) := by decide +kernel
theorem dX1_send_155 : decode cX1_send 155 = .ok (.aload_n 0, 1) := by decide +kernel
theorem dX1_send_156 : decode cX1_send 156 = .ok (.iload_n 1, 1) := by decide +kernel
theorem dX1_send_157 : decode cX1_send 157 = .ok (.iload_n 2, 1) := by decide +kernel
theorem dX1_send_158 : decode cX1_send 158 = .ok (.iload_n 3, 1) := by decide +kernel
theorem dX1_send_159 : decode cX1_send 159 = .ok (.iload 4, 2) := by decide +kernel
theorem dX1_send_161 : decode cX1_send 161 = .ok (.iload 7, 2) := by decide +kernel
theorem dX1_send_163 : decode cX1_send 163 = .ok (.invokevirtual 122, 3) := by decide +kernel
theorem dX1_send_166 : decode cX1_send 166 = .ok (.ireturn, 1) := by decide +kernel
set_option maxRecDepth 20000 in
theorem ggX1_sendBy_X1_in : GoodIn wsX1_sendBy wsX1_in := goodIn_r _ [8] (by decide +kernel) (by decide +kernel)
set_option maxRecDepth 20000 in
theorem gX1_sendBy_X1_in : GoodIn wsX1_sendBy (va_wsS RX1 69 yX1_in wsX1_in) := goodIn_app (goodIn_of _ (by decide +kernel)) ggX1_sendBy_X1_in
set_option maxRecDepth 20000 in
theorem ggX1_sendBy_X1_refused : GoodIn wsX1_sendBy wsX1_refused := goodIn_r _ [12, 13, 53, 54, 55, 56, 57, 58, 59, 60, 61, 62, 63, 64, 65, 66, 67, 68, 69, 70, 71, 72, 73, 74] (by decide +kernel) (by decide +kernel)
set_option maxRecDepth 20000 in
theorem gX1_sendBy_X1_refused : GoodIn wsX1_sendBy (wsV RX1 98 RX1 yX1_refused wsX1_refused) := goodIn_app (goodIn_of _ (by decide +kernel)) ggX1_sendBy_X1_refused
set_option maxRecDepth 20000 in
theorem ggX1_sendBy_X1_add : GoodIn wsX1_sendBy wsX1_add := goodIn_r _ [17, 18, 1, 19, 20, 21, 22, 23, 24, 25, 26, 7, 27, 28, 2, 29, 30, 31, 32, 33, 34, 35, 36, 37, 38, 39, 40, 41, 42, 43, 44, 45, 46, 47, 48, 49, 50, 51, 52, 53, 54, 55, 56, 57, 58, 59, 60, 61, 62, 63, 64, 65, 66, 67, 68, 69, 70, 71, 72, 73, 74] (by decide +kernel) (by decide +kernel)
set_option maxRecDepth 20000 in
theorem gX1_sendBy_X1_add : GoodIn wsX1_sendBy (wsV RX1 122 RX1 yX1_add wsX1_add) := goodIn_app (goodIn_of _ (by decide +kernel)) ggX1_sendBy_X1_add
theorem dX1_sendBy_0 : decode cX1_sendBy 0 = .ok (.iload_n 1, 1) := by decide +kernel
theorem dX1_sendBy_1 : decode cX1_sendBy 1 = .ok (.iconst 0, 1) := by decide +kernel
theorem dX1_sendBy_2 : decode cX1_sendBy 2 = .ok (.iconst 2, 1) := by decide +kernel
theorem dX1_sendBy_3 : decode cX1_sendBy 3 = .ok (.invokestatic 69, 3) := by decide +kernel
theorem dX1_sendBy_6 : decode cX1_sendBy 6 = .ok (.ifCond .eq 37, 3) := by decide +kernel
theorem dX1_sendBy_9 : decode cX1_sendBy 9 = .ok (.iload_n 2, 1) := by decide +kernel
theorem dX1_sendBy_10 : decode cX1_sendBy 10 = .ok (.iconst 0, 1) := by decide +kernel
theorem dX1_sendBy_11 : decode cX1_sendBy 11 = .ok (.iconst 5, 1) := by decide +kernel
theorem dX1_sendBy_12 : decode cX1_sendBy 12 = .ok (.invokestatic 69, 3) := by decide +kernel
theorem dX1_sendBy_15 : decode cX1_sendBy 15 = .ok (.ifCond .eq 28, 3) := by decide +kernel
theorem dX1_sendBy_18 : decode cX1_sendBy 18 = .ok (.iload_n 3, 1) := by decide +kernel
theorem dX1_sendBy_19 : decode cX1_sendBy 19 = .ok (.iconst 0, 1) := by decide +kernel
theorem dX1_sendBy_20 : decode cX1_sendBy 20 = .ok (.iconst 5, 1) := by decide +kernel
theorem dX1_sendBy_21 : decode cX1_sendBy 21 = .ok (.invokestatic 69, 3) := by decide +kernel
theorem dX1_sendBy_24 : decode cX1_sendBy 24 = .ok (.ifCond .eq 19, 3) := by decide +kernel
theorem dX1_sendBy_27 : decode cX1_sendBy 27 = .ok (.iload 5, 2) := by decide +kernel
theorem dX1_sendBy_29 : decode cX1_sendBy 29 = .ok (.iconst 1, 1) := by decide +kernel
theorem dX1_sendBy_30 : decode cX1_sendBy 30 = .ok (.sipush 10000, 3) := by decide +kernel
theorem dX1_sendBy_33 : decode cX1_sendBy 33 = .ok (.invokestatic 69, 3) := by decide +kernel
theorem dX1_sendBy_36 : decode cX1_sendBy 36 = .ok (.ifCond .eq 7, 3) := by decide +kernel
theorem dX1_sendBy_39 : decode cX1_sendBy 39 = .ok (.iconst 1, 1) := by decide +kernel
theorem dX1_sendBy_40 : decode cX1_sendBy 40 = .ok (.goto 4, 3) := by decide +kernel
theorem dX1_sendBy_43 : decode cX1_sendBy 43 = .ok (.iconst 0, 1) := by decide +kernel
theorem dX1_sendBy_44 : decode cX1_sendBy 44 = .ok (.istore 6, 2) := by decide +kernel
theorem dX1_sendBy_46 : decode cX1_sendBy 46 = .ok (.aload_n 0, 1) := by decide +kernel
theorem dX1_sendBy_47 : decode cX1_sendBy 47 = .ok (.iload 6, 2) := by decide +kernel
theorem dX1_sendBy_49 : decode cX1_sendBy 49 = .ok (.ifCond .ne 7, 3) := by decide +kernel
theorem dX1_sendBy_52 : decode cX1_sendBy 52 = .ok (.iconst 1, 1) := by decide +kernel
theorem dX1_sendBy_53 : decode cX1_sendBy 53 = .ok (.goto 17, 3) := by decide +kernel
theorem dX1_sendBy_56 : decode cX1_sendBy 56 = .ok (.aload_n 0, 1) := by decide +kernel
theorem dX1_sendBy_57 : decode cX1_sendBy 57 = .ok (.getfield 73, 3) := by decide +kernel
theorem dX1_sendBy_60 : decode cX1_sendBy 60 = .ok (.bipush 120, 2) := by decide +kernel
theorem dX1_sendBy_62 : decode cX1_sendBy 62 = .ok (.if_icmp .ne 7, 3) := by decide +kernel
theorem dX1_sendBy_65 : decode cX1_sendBy 65 = .ok (.iconst 2, 1) := by decide +kernel
theorem dX1_sendBy_66 : decode cX1_sendBy 66 = .ok (.goto 4, 3) := by decide +kernel
theorem dX1_sendBy_69 : decode cX1_sendBy 69 = .ok (.iconst 0, 1) := by decide +kernel
theorem dX1_sendBy_70 : decode cX1_sendBy 70 = .ok (.invokevirtual 98, 3) := by decide +kernel
theorem dX1_sendBy_73 : decode cX1_sendBy 73 = .ok (.ifCond .eq 5, 3) := by decide +kernel
theorem dX1_sendBy_76 : decode cX1_sendBy 76 = .ok (.iconst 0, 1) := by decide +kernel
theorem dX1_sendBy_77 : decode cX1_sendBy 77 = .ok (.ireturn, 1) := by decide +kernel
theorem dX1_sendBy_78 : decode cX1_sendBy 78 = .ok (.iconst 0, 1) := by decide +kernel
theorem dX1_sendBy_79 : decode cX1_sendBy 79 = .ok (.istore 7, 2) := by decide +kernel
theorem dX1_sendBy_81 : decode cX1_sendBy 81 = .ok (.iconst 0, 1) := by decide +kernel
theorem dX1_sendBy_82 : decode cX1_sendBy 82 = .ok (.istore 8, 2) := by decide +kernel
theorem dX1_sendBy_84 : decode cX1_sendBy 84 = .ok (.iload 8, 2) := by decide +kernel
theorem dX1_sendBy_86 : decode cX1_sendBy 86 = .ok (.aload_n 0, 1) := by decide +kernel
theorem dX1_sendBy_87 : decode cX1_sendBy 87 = .ok (.getfield 66, 3) := by decide +kernel
theorem dX1_sendBy_90 : decode cX1_sendBy 90 = .ok (.if_icmp .ge 143, 3) := by decide +kernel
theorem dX1_sendBy_93 : decode cX1_sendBy 93 = .ok (.aload_n 0, 1) := by decide +kernel
theorem dX1_sendBy_94 : decode cX1_sendBy 94 = .ok (.getfield 32, 3) := by decide +kernel
theorem dX1_sendBy_97 : decode cX1_sendBy 97 = .ok (.iload 8, 2) := by decide +kernel
theorem dX1_sendBy_99 : decode cX1_sendBy 99 = .ok (.iaload, 1) := by decide +kernel
theorem dX1_sendBy_100 : decode cX1_sendBy 100 = .ok (.iload_n 2, 1) := by decide +kernel
theorem dX1_sendBy_101 : decode cX1_sendBy 101 = .ok (.ishr, 1) := by decide +kernel
theorem dX1_sendBy_102 : decode cX1_sendBy 102 = .ok (.iconst 1, 1) := by decide +kernel
theorem dX1_sendBy_103 : decode cX1_sendBy 103 = .ok (.iand, 1) := by decide +kernel
theorem dX1_sendBy_104 : decode cX1_sendBy 104 = .ok (.iconst 1, 1) := by decide +kernel
theorem dX1_sendBy_105 : decode cX1_sendBy 105 = .ok (.if_icmp .ne 7, 3) := by decide +kernel
theorem dX1_sendBy_108 : decode cX1_sendBy 108 = .ok (.iconst 1, 1) := by decide +kernel
theorem dX1_sendBy_109 : decode cX1_sendBy 109 = .ok (.goto 4, 3) := by decide +kernel
theorem dX1_sendBy_112 : decode cX1_sendBy 112 = .ok (.iconst 0, 1) := by decide +kernel
theorem dX1_sendBy_113 : decode cX1_sendBy 113 = .ok (.istore 9, 2) := by decide +kernel
theorem dX1_sendBy_115 : decode cX1_sendBy 115 = .ok (.aload_n 0, 1) := by decide +kernel
theorem dX1_sendBy_116 : decode cX1_sendBy 116 = .ok (.getfield 32, 3) := by decide +kernel
theorem dX1_sendBy_119 : decode cX1_sendBy 119 = .ok (.iload 8, 2) := by decide +kernel
theorem dX1_sendBy_121 : decode cX1_sendBy 121 = .ok (.iaload, 1) := by decide +kernel
theorem dX1_sendBy_122 : decode cX1_sendBy 122 = .ok (.iload_n 3, 1) := by decide +kernel
theorem dX1_sendBy_123 : decode cX1_sendBy 123 = .ok (.ishr, 1) := by decide +kernel
theorem dX1_sendBy_124 : decode cX1_sendBy 124 = .ok (.iconst 1, 1) := by decide +kernel
theorem dX1_sendBy_125 : decode cX1_sendBy 125 = .ok (.iand, 1) := by decide +kernel
theorem dX1_sendBy_126 : decode cX1_sendBy 126 = .ok (.iconst 1, 1) := by decide +kernel
theorem dX1_sendBy_127 : decode cX1_sendBy 127 = .ok (.if_icmp .ne 7, 3) := by decide +kernel
theorem dX1_sendBy_130 : decode cX1_sendBy 130 = .ok (.iconst 1, 1) := by decide +kernel
theorem dX1_sendBy_131 : decode cX1_sendBy 131 = .ok (.goto 4, 3) := by decide +kernel
theorem dX1_sendBy_134 : decode cX1_sendBy 134 = .ok (.iconst 0, 1) := by decide +kernel
theorem dX1_sendBy_135 : decode cX1_sendBy 135 = .ok (.istore 10, 2) := by decide +kernel
theorem dX1_sendBy_137 : decode cX1_sendBy 137 = .ok (.iload_n 1, 1) := by decide +kernel
theorem dX1_sendBy_138 : decode cX1_sendBy 138 = .ok (.ifCond .ne 21, 3) := by decide +kernel
theorem dX1_sendBy_141 : decode cX1_sendBy 141 = .ok (.iload 9, 2) := by decide +kernel
theorem dX1_sendBy_143 : decode cX1_sendBy 143 = .ok (.ifCond .eq 12, 3) := by decide +kernel
theorem dX1_sendBy_146 : decode cX1_sendBy 146 = .ok (.iload 10, 2) := by decide +kernel
theorem dX1_sendBy_148 : decode cX1_sendBy 148 = .ok (.ifCond .eq 7, 3) := by decide +kernel
theorem dX1_sendBy_151 : decode cX1_sendBy 151 = .ok (.iconst 1, 1) := by decide +kernel
theorem dX1_sendBy_152 : decode cX1_sendBy 152 = .ok (.goto 45, 3) := by decide +kernel
theorem dX1_sendBy_155 : decode cX1_sendBy 155 = .ok (.iconst 0, 1) := by decide +kernel
theorem dX1_sendBy_156 : decode cX1_sendBy 156 = .ok (.goto 41, 3) := by decide +kernel
theorem dX1_sendBy_159 : decode cX1_sendBy 159 = .ok (.iload_n 1, 1) := by decide +kernel
theorem dX1_sendBy_160 : decode cX1_sendBy 160 = .ok (.iconst 1, 1) := by decide +kernel
theorem dX1_sendBy_161 : decode cX1_sendBy 161 = .ok (.if_icmp .ne 21, 3) := by decide +kernel
theorem dX1_sendBy_164 : decode cX1_sendBy 164 = .ok (.iload 9, 2) := by decide +kernel
theorem dX1_sendBy_166 : decode cX1_sendBy 166 = .ok (.ifCond .ne 8, 3) := by decide +kernel
theorem dX1_sendBy_169 : decode cX1_sendBy 169 = .ok (.iload 10, 2) := by decide +kernel
theorem dX1_sendBy_171 : decode cX1_sendBy 171 = .ok (.ifCond .eq 7, 3) := by decide +kernel
theorem dX1_sendBy_174 : decode cX1_sendBy 174 = .ok (.iconst 1, 1) := by decide +kernel
theorem dX1_sendBy_175 : decode cX1_sendBy 175 = .ok (.goto 22, 3) := by decide +kernel
theorem dX1_sendBy_178 : decode cX1_sendBy 178 = .ok (.iconst 0, 1) := by decide +kernel
theorem dX1_sendBy_179 : decode cX1_sendBy 179 = .ok (.goto 18, 3) := by decide +kernel
theorem dX1_sendBy_182 : decode cX1_sendBy 182 = .ok (.iload 9, 2) := by decide +kernel
theorem dX1_sendBy_184 : decode cX1_sendBy 184 = .ok (.ifCond .eq 12, 3) := by decide +kernel
theorem dX1_sendBy_187 : decode cX1_sendBy 187 = .ok (.iload 10, 2) := by decide +kernel
theorem dX1_sendBy_189 : decode cX1_sendBy 189 = .ok (.ifCond .ne 7, 3) := by decide +kernel
theorem dX1_sendBy_192 : decode cX1_sendBy 192 = .ok (.iconst 1, 1) := by decide +kernel
theorem dX1_sendBy_193 : decode cX1_sendBy 193 = .ok (.goto 4, 3) := by decide +kernel
theorem dX1_sendBy_196 : decode cX1_sendBy 196 = .ok (.iconst 0, 1) := by decide +kernel
theorem dX1_sendBy_197 : decode cX1_sendBy 197 = .ok (.istore 11, 2) := by decide +kernel
theorem dX1_sendBy_199 : decode cX1_sendBy 199 = .ok (.iload 7, 2) := by decide +kernel
theorem dX1_sendBy_201 : decode cX1_sendBy 201 = .ok (.iload 11, 2) := by decide +kernel
theorem dX1_sendBy_203 : decode cX1_sendBy 203 = .ok (.ifCond .eq 20, 3) := by decide +kernel
theorem dX1_sendBy_206 : decode cX1_sendBy 206 = .ok (.aload_n 0, 1) := by decide +kernel
theorem dX1_sendBy_207 : decode cX1_sendBy 207 = .ok (.getfield 23, 3) := by decide +kernel
theorem dX1_sendBy_210 : decode cX1_sendBy 210 = .ok (.iload 8, 2) := by decide +kernel
theorem dX1_sendBy_212 : decode cX1_sendBy 212 = .ok (.baload, 1) := by decide +kernel
theorem dX1_sendBy_213 : decode cX1_sendBy 213 = .ok (.ifCond .ne 10, 3) := by decide +kernel
theorem dX1_sendBy_216 : decode cX1_sendBy 216 = .ok (.iconst 1, 1) := by decide +kernel
theorem dX1_sendBy_217 : decode cX1_sendBy 217 = .ok (.iload 8, 2) := by decide +kernel
theorem dX1_sendBy_219 : decode cX1_sendBy 219 = .ok (.ishl, 1) := by decide +kernel
theorem dX1_sendBy_220 : decode cX1_sendBy 220 = .ok (.goto 4, 3) := by decide +kernel
theorem dX1_sendBy_223 : decode cX1_sendBy 223 = .ok (.iconst 0, 1) := by decide +kernel
theorem dX1_sendBy_224 : decode cX1_sendBy 224 = .ok (.ior, 1) := by decide +kernel
theorem dX1_sendBy_225 : decode cX1_sendBy 225 = .ok (.istore 7, 2) := by decide +kernel
theorem dX1_sendBy_227 : decode cX1_sendBy 227 = .ok (.iinc 8 1, 3) := by decide +kernel
theorem dX1_sendBy_230 : decode cX1_sendBy 230 = .ok (.goto (-146), 3) := by decide +kernel
theorem dX1_sendBy_233 : decode cX1_sendBy 233 = .ok (.aload_n 0, 1) := by decide +kernel
theorem dX1_sendBy_234 : decode cX1_sendBy 234 = .ok (.iconst (-1), 1) := by decide +kernel
theorem dX1_sendBy_235 : decode cX1_sendBy 235 = .ok (.iconst (-1), 1) := by decide +kernel
theorem dX1_sendBy_236 : decode cX1_sendBy 236 = .ok (.iload 4, 2) := by decide +kernel
theorem dX1_sendBy_238 : decode cX1_sendBy 238 = .ok (.iload 5, 2) := by decide +kernel
theorem dX1_sendBy_240 : decode cX1_sendBy 240 = .ok (.iload 7, 2) := by decide +kernel
theorem dX1_sendBy_242 : decode cX1_sendBy 242 = .ok (.invokevirtual 122, 3) := by decide +kernel
theorem dX1_sendBy_245 : decode cX1_sendBy 245 = .ok (.ireturn, 1) := by decide +kernel
theorem dX1_bits_0 : decode cX1_bits 0 = .ok (.iconst 0, 1) := by decide +kernel
theorem dX1_bits_1 : decode cX1_bits 1 = .ok (.istore_n 1, 1) := by decide +kernel
theorem dX1_bits_2 : decode cX1_bits 2 = .ok (.iload_n 0, 1) := by decide +kernel
theorem dX1_bits_3 : decode cX1_bits 3 = .ok (.istore_n 2, 1) := by decide +kernel
theorem dX1_bits_4 : decode cX1_bits 4 = .ok (.iload_n 2, 1) := by decide +kernel
theorem dX1_bits_5 : decode cX1_bits 5 = .ok (.ifCond .eq 15, 3) := by decide +kernel
theorem dX1_bits_8 : decode cX1_bits 8 = .ok (.iinc 1 1, 3) := by decide +kernel
theorem dX1_bits_11 : decode cX1_bits 11 = .ok (.iload_n 2, 1) := by decide +kernel
theorem dX1_bits_12 : decode cX1_bits 12 = .ok (.iload_n 2, 1) := by decide +kernel
theorem dX1_bits_13 : decode cX1_bits 13 = .ok (.iconst 1, 1) := by decide +kernel
theorem dX1_bits_14 : decode cX1_bits 14 = .ok (.isub, 1) := by decide +kernel
theorem dX1_bits_15 : decode cX1_bits 15 = .ok (.iand, 1) := by decide +kernel
theorem dX1_bits_16 : decode cX1_bits 16 = .ok (.istore_n 2, 1) := by decide +kernel
theorem dX1_bits_17 : decode cX1_bits 17 = .ok (.goto (-13), 3) := by decide +kernel
theorem dX1_bits_20 : decode cX1_bits 20 = .ok (.iload_n 1, 1) := by decide +kernel
theorem dX1_bits_21 : decode cX1_bits 21 = .ok (.ireturn, 1) := by decide +kernel
set_option maxRecDepth 20000 in
theorem ggX1_read_X1_isDevice : GoodIn wsX1_read wsX1_isDevice := goodIn_r _ [8, 9, 10, 11, 7, 12, 30, 31, 32, 33, 34, 35, 36, 37, 38, 39, 40, 41, 42, 43, 44, 45, 46, 47, 48, 49, 50, 51] (by decide +kernel) (by decide +kernel)
set_option maxRecDepth 20000 in
theorem gX1_read_X1_isDevice : GoodIn wsX1_read (wsV RX1 101 RX1 yX1_isDevice wsX1_isDevice) := goodIn_app (goodIn_of _ (by decide +kernel)) ggX1_read_X1_isDevice
set_option maxRecDepth 20000 in
theorem ggX1_read_X1_isNotice : GoodIn wsX1_read wsX1_isNotice := goodIn_r _ [16, 17, 10, 11, 7, 12, 30, 31, 32, 33, 34, 35, 36, 37, 38, 39, 40, 41, 42, 43, 44, 45, 46, 47, 48, 49, 50, 51] (by decide +kernel) (by decide +kernel)
set_option maxRecDepth 20000 in
theorem gX1_read_X1_isNotice : GoodIn wsX1_read (wsV RX1 126 RX1 yX1_isNotice wsX1_isNotice) := goodIn_app (goodIn_of _ (by decide +kernel)) ggX1_read_X1_isNotice
set_option maxRecDepth 20000 in
theorem ggX1_read_X1_refused : GoodIn wsX1_read wsX1_refused := goodIn_r _ [21, 22, 30, 31, 32, 33, 34, 35, 36, 37, 38, 39, 40, 41, 42, 43, 44, 45, 46, 47, 48, 49, 50, 51] (by decide +kernel) (by decide +kernel)
set_option maxRecDepth 20000 in
theorem gX1_read_X1_refused : GoodIn wsX1_read (wsV RX1 98 RX1 yX1_refused wsX1_refused) := goodIn_app (goodIn_of _ (by decide +kernel)) ggX1_read_X1_refused
set_option maxRecDepth 20000 in
theorem ggX1_read_X1_bits : GoodIn wsX1_read wsX1_bits := goodIn_r _ [25] (by decide +kernel) (by decide +kernel)
set_option maxRecDepth 20000 in
theorem gX1_read_X1_bits : GoodIn wsX1_read (va_wsS RX1 129 yX1_bits wsX1_bits) := goodIn_app (goodIn_of _ (by decide +kernel)) ggX1_read_X1_bits
set_option maxRecDepth 20000 in
theorem ggX1_read_X1_end : GoodIn wsX1_read wsX1_end := goodIn_r _ [29, 2, 3, 30, 31, 32, 33, 34, 35, 36, 37, 38, 39, 40, 41, 42, 43, 44, 45, 46, 47, 48, 49, 50, 51] (by decide +kernel) (by decide +kernel)
set_option maxRecDepth 20000 in
theorem gX1_read_X1_end : GoodIn wsX1_read (wsV RX1 118 RX1 yX1_end wsX1_end) := goodIn_app (goodIn_of _ (by decide +kernel)) ggX1_read_X1_end
theorem dX1_read_0 : decode cX1_read 0 = .ok (.aload_n 0, 1) := by decide +kernel
theorem dX1_read_1 : decode cX1_read 1 = .ok (.iload_n 1, 1) := by decide +kernel
theorem dX1_read_2 : decode cX1_read 2 = .ok (.invokevirtual 101, 3) := by decide +kernel
theorem dX1_read_5 : decode cX1_read 5 = .ok (.ifCond .eq 15, 3) := by decide +kernel
theorem dX1_read_8 : decode cX1_read 8 = .ok (.aload_n 0, 1) := by decide +kernel
theorem dX1_read_9 : decode cX1_read 9 = .ok (.iload_n 2, 1) := by decide +kernel
theorem dX1_read_10 : decode cX1_read 10 = .ok (.invokevirtual 126, 3) := by decide +kernel
theorem dX1_read_13 : decode cX1_read 13 = .ok (.ifCond .eq 7, 3) := by decide +kernel
theorem dX1_read_16 : decode cX1_read 16 = .ok (.iconst 1, 1) := by decide +kernel
theorem dX1_read_17 : decode cX1_read 17 = .ok (.goto 4, 3) := by decide +kernel
theorem dX1_read_20 : decode cX1_read 20 = .ok (.iconst 0, 1) := by decide +kernel
theorem dX1_read_21 : decode cX1_read 21 = .ok (.istore_n 3, 1) := by decide +kernel
theorem dX1_read_22 : decode cX1_read 22 = .ok (.iload_n 3, 1) := by decide +kernel
theorem dX1_read_23 : decode cX1_read 23 = .ok (.ifCond .eq 30, 3) := by decide +kernel
theorem dX1_read_26 : decode cX1_read 26 = .ok (.aload_n 0, 1) := by decide +kernel
theorem dX1_read_27 : decode cX1_read 27 = .ok (.getfield 59, 3) := by decide +kernel
theorem dX1_read_30 : decode cX1_read 30 = .ok (.iload_n 2, 1) := by decide +kernel
theorem dX1_read_31 : decode cX1_read 31 = .ok (.iaload, 1) := by decide +kernel
theorem dX1_read_32 : decode cX1_read 32 = .ok (.iload_n 1, 1) := by decide +kernel
theorem dX1_read_33 : decode cX1_read 33 = .ok (.ishr, 1) := by decide +kernel
theorem dX1_read_34 : decode cX1_read 34 = .ok (.iconst 1, 1) := by decide +kernel
theorem dX1_read_35 : decode cX1_read 35 = .ok (.iand, 1) := by decide +kernel
theorem dX1_read_36 : decode cX1_read 36 = .ok (.iconst 1, 1) := by decide +kernel
theorem dX1_read_37 : decode cX1_read 37 = .ok (.if_icmp .ne 16, 3) := by decide +kernel
theorem dX1_read_40 : decode cX1_read 40 = .ok (.aload_n 0, 1) := by decide +kernel
theorem dX1_read_41 : decode cX1_read 41 = .ok (.getfield 53, 3) := by decide +kernel
theorem dX1_read_44 : decode cX1_read 44 = .ok (.iload_n 2, 1) := by decide +kernel
theorem dX1_read_45 : decode cX1_read 45 = .ok (.baload, 1) := by decide +kernel
theorem dX1_read_46 : decode cX1_read 46 = .ok (.ifCond .ne 7, 3) := by decide +kernel
theorem dX1_read_49 : decode cX1_read 49 = .ok (.iconst 1, 1) := by decide +kernel
theorem dX1_read_50 : decode cX1_read 50 = .ok (.goto 4, 3) := by decide +kernel
theorem dX1_read_53 : decode cX1_read 53 = .ok (.iconst 0, 1) := by decide +kernel
theorem dX1_read_54 : decode cX1_read 54 = .ok (.istore 4, 2) := by decide +kernel
theorem dX1_read_56 : decode cX1_read 56 = .ok (.aload_n 0, 1) := by decide +kernel
theorem dX1_read_57 : decode cX1_read 57 = .ok (.iload_n 3, 1) := by decide +kernel
theorem dX1_read_58 : decode cX1_read 58 = .ok (.ifCond .ne 7, 3) := by decide +kernel
theorem dX1_read_61 : decode cX1_read 61 = .ok (.iconst 1, 1) := by decide +kernel
theorem dX1_read_62 : decode cX1_read 62 = .ok (.goto 13, 3) := by decide +kernel
theorem dX1_read_65 : decode cX1_read 65 = .ok (.iload 4, 2) := by decide +kernel
theorem dX1_read_67 : decode cX1_read 67 = .ok (.ifCond .eq 7, 3) := by decide +kernel
theorem dX1_read_70 : decode cX1_read 70 = .ok (.iconst 0, 1) := by decide +kernel
theorem dX1_read_71 : decode cX1_read 71 = .ok (.goto 4, 3) := by decide +kernel
theorem dX1_read_74 : decode cX1_read 74 = .ok (.iconst 2, 1) := by decide +kernel
theorem dX1_read_75 : decode cX1_read 75 = .ok (.invokevirtual 98, 3) := by decide +kernel
theorem dX1_read_78 : decode cX1_read 78 = .ok (.ifCond .eq 5, 3) := by decide +kernel
theorem dX1_read_81 : decode cX1_read 81 = .ok (.iconst 0, 1) := by decide +kernel
theorem dX1_read_82 : decode cX1_read 82 = .ok (.ireturn, 1) := by decide +kernel
theorem dX1_read_83 : decode cX1_read 83 = .ok (.aload_n 0, 1) := by decide +kernel
theorem dX1_read_84 : decode cX1_read 84 = .ok (.getfield 56, 3) := by decide +kernel
theorem dX1_read_87 : decode cX1_read 87 = .ok (.iload_n 2, 1) := by decide +kernel
theorem dX1_read_88 : decode cX1_read 88 = .ok (.iaload, 1) := by decide +kernel
theorem dX1_read_89 : decode cX1_read 89 = .ok (.invokestatic 129, 3) := by decide +kernel
theorem dX1_read_92 : decode cX1_read 92 = .ok (.istore 5, 2) := by decide +kernel
theorem dX1_read_94 : decode cX1_read 94 = .ok (.aload_n 0, 1) := by decide +kernel
theorem dX1_read_95 : decode cX1_read 95 = .ok (.iload_n 2, 1) := by decide +kernel
theorem dX1_read_96 : decode cX1_read 96 = .ok (.invokevirtual 118, 3) := by decide +kernel
theorem dX1_read_99 : decode cX1_read 99 = .ok (.iload 5, 2) := by decide +kernel
theorem dX1_read_101 : decode cX1_read 101 = .ok (.ireturn, 1) := by decide +kernel
set_option maxRecDepth 20000 in
theorem ggX1_sent_X1_fine : GoodIn wsX1_sent wsX1_fine := goodIn_r _ [6, 7, 8, 9, 10, 11, 12, 13, 14, 15, 16, 17, 18, 19, 20, 21, 22, 23, 24, 25, 26, 27, 28, 29] (by decide +kernel) (by decide +kernel)
set_option maxRecDepth 20000 in
theorem gX1_sent_X1_fine : GoodIn wsX1_sent (wsV RX1 111 RX1 yX1_fine wsX1_fine) := goodIn_app (goodIn_of _ (by decide +kernel)) ggX1_sent_X1_fine
theorem dX1_sent_0 : decode cX1_sent 0 = .ok (.aload_n 0, 1) := by decide +kernel
theorem dX1_sent_1 : decode cX1_sent 1 = .ok (.aload_n 0, 1) := by decide +kernel
theorem dX1_sent_2 : decode cX1_sent 2 = .ok (.getfield 73, 3) := by decide +kernel
theorem dX1_sent_5 : decode cX1_sent 5 = .ok (.invokevirtual 111, 3) := by decide +kernel
theorem dX1_sent_8 : decode cX1_sent 8 = .ok (.ireturn, 1) := by decide +kernel
set_option maxRecDepth 20000 in
theorem ggX1_noNotice_X1_isNotice : GoodIn wsX1_noNotice wsX1_isNotice := goodIn_r _ [5, 6, 7, 8, 4, 9, 15, 16, 17, 18, 19, 20, 21, 22, 23, 24, 25, 26, 27, 28, 29, 30, 31, 32, 33, 34, 35, 36] (by decide +kernel) (by decide +kernel)
set_option maxRecDepth 20000 in
theorem gX1_noNotice_X1_isNotice : GoodIn wsX1_noNotice (wsV RX1 126 RX1 yX1_isNotice wsX1_isNotice) := goodIn_app (goodIn_of _ (by decide +kernel)) ggX1_noNotice_X1_isNotice
set_option maxRecDepth 20000 in
theorem ggX1_noNotice_X1_refused : GoodIn wsX1_noNotice wsX1_refused := goodIn_r _ [13, 14, 15, 16, 17, 18, 19, 20, 21, 22, 23, 24, 25, 26, 27, 28, 29, 30, 31, 32, 33, 34, 35, 36] (by decide +kernel) (by decide +kernel)
set_option maxRecDepth 20000 in
theorem gX1_noNotice_X1_refused : GoodIn wsX1_noNotice (wsV RX1 98 RX1 yX1_refused wsX1_refused) := goodIn_app (goodIn_of _ (by decide +kernel)) ggX1_noNotice_X1_refused
theorem dX1_noNotice_0 : decode cX1_noNotice 0 = .ok (.aload_n 0, 1) := by decide +kernel
theorem dX1_noNotice_1 : decode cX1_noNotice 1 = .ok (.aload_n 0, 1) := by decide +kernel
theorem dX1_noNotice_2 : decode cX1_noNotice 2 = .ok (.iload_n 1, 1) := by decide +kernel
theorem dX1_noNotice_3 : decode cX1_noNotice 3 = .ok (.invokevirtual 126, 3) := by decide +kernel
theorem dX1_noNotice_6 : decode cX1_noNotice 6 = .ok (.ifCond .eq 7, 3) := by decide +kernel
theorem dX1_noNotice_9 : decode cX1_noNotice 9 = .ok (.iconst 0, 1) := by decide +kernel
theorem dX1_noNotice_10 : decode cX1_noNotice 10 = .ok (.goto 4, 3) := by decide +kernel
theorem dX1_noNotice_13 : decode cX1_noNotice 13 = .ok (.iconst 1, 1) := by decide +kernel
theorem dX1_noNotice_14 : decode cX1_noNotice 14 = .ok (.invokevirtual 98, 3) := by decide +kernel
theorem dX1_noNotice_17 : decode cX1_noNotice 17 = .ok (.ireturn, 1) := by decide +kernel
set_option maxRecDepth 20000 in
theorem ggX1_stands_X1_noNotice : GoodIn wsX1_stands wsX1_noNotice := goodIn_r _ [6, 7, 8, 9, 5, 10, 11, 12, 13, 14, 15, 16, 17, 18, 19, 20, 21, 22, 23, 24, 25, 26, 27, 28, 29, 30, 31, 32, 33, 34, 35, 36, 37, 38, 39, 40, 41] (by decide +kernel) (by decide +kernel)
set_option maxRecDepth 20000 in
theorem gX1_stands_X1_noNotice : GoodIn wsX1_stands (wsV RX1 132 RX1 yX1_noNotice wsX1_noNotice) := goodIn_app (goodIn_of _ (by decide +kernel)) ggX1_stands_X1_noNotice
theorem dX1_stands_0 : decode cX1_stands 0 = .ok (.aload_n 0, 1) := by decide +kernel
theorem dX1_stands_1 : decode cX1_stands 1 = .ok (.iload_n 1, 1) := by decide +kernel
theorem dX1_stands_2 : decode cX1_stands 2 = .ok (.invokevirtual 132, 3) := by decide +kernel
theorem dX1_stands_5 : decode cX1_stands 5 = .ok (.ifCond .ne 16, 3) := by decide +kernel
theorem dX1_stands_8 : decode cX1_stands 8 = .ok (.aload_n 0, 1) := by decide +kernel
theorem dX1_stands_9 : decode cX1_stands 9 = .ok (.getfield 53, 3) := by decide +kernel
theorem dX1_stands_12 : decode cX1_stands 12 = .ok (.iload_n 1, 1) := by decide +kernel
theorem dX1_stands_13 : decode cX1_stands 13 = .ok (.baload, 1) := by decide +kernel
theorem dX1_stands_14 : decode cX1_stands 14 = .ok (.ifCond .ne 7, 3) := by decide +kernel
theorem dX1_stands_17 : decode cX1_stands 17 = .ok (.iconst 1, 1) := by decide +kernel
theorem dX1_stands_18 : decode cX1_stands 18 = .ok (.goto 4, 3) := by decide +kernel
theorem dX1_stands_21 : decode cX1_stands 21 = .ok (.iconst 0, 1) := by decide +kernel
theorem dX1_stands_22 : decode cX1_stands 22 = .ok (.ireturn, 1) := by decide +kernel
set_option maxRecDepth 20000 in
theorem ggX1_waitsFor_X1_noNotice : GoodIn wsX1_waitsFor wsX1_noNotice := goodIn_r _ [6, 7, 8, 9, 5, 10, 11, 12, 13, 14, 15, 16, 17, 18, 19, 20, 21, 22, 23, 24, 25, 26, 27, 28, 29, 30, 31, 32, 33, 34, 35, 36, 37, 38, 39, 40, 41] (by decide +kernel) (by decide +kernel)
set_option maxRecDepth 20000 in
theorem gX1_waitsFor_X1_noNotice : GoodIn wsX1_waitsFor (wsV RX1 132 RX1 yX1_noNotice wsX1_noNotice) := goodIn_app (goodIn_of _ (by decide +kernel)) ggX1_waitsFor_X1_noNotice
theorem dX1_waitsFor_0 : decode cX1_waitsFor 0 = .ok (.aload_n 0, 1) := by decide +kernel
theorem dX1_waitsFor_1 : decode cX1_waitsFor 1 = .ok (.iload_n 1, 1) := by decide +kernel
theorem dX1_waitsFor_2 : decode cX1_waitsFor 2 = .ok (.invokevirtual 132, 3) := by decide +kernel
theorem dX1_waitsFor_5 : decode cX1_waitsFor 5 = .ok (.ifCond .eq 7, 3) := by decide +kernel
theorem dX1_waitsFor_8 : decode cX1_waitsFor 8 = .ok (.iconst 0, 1) := by decide +kernel
theorem dX1_waitsFor_9 : decode cX1_waitsFor 9 = .ok (.goto 9, 3) := by decide +kernel
theorem dX1_waitsFor_12 : decode cX1_waitsFor 12 = .ok (.aload_n 0, 1) := by decide +kernel
theorem dX1_waitsFor_13 : decode cX1_waitsFor 13 = .ok (.getfield 56, 3) := by decide +kernel
theorem dX1_waitsFor_16 : decode cX1_waitsFor 16 = .ok (.iload_n 1, 1) := by decide +kernel
theorem dX1_waitsFor_17 : decode cX1_waitsFor 17 = .ok (.iaload, 1) := by decide +kernel
theorem dX1_waitsFor_18 : decode cX1_waitsFor 18 = .ok (.ireturn, 1) := by decide +kernel
set_option maxRecDepth 20000 in
theorem ggX1_deliveredTo_X1_noNotice : GoodIn wsX1_deliveredTo wsX1_noNotice := goodIn_r _ [6, 7, 8, 9, 5, 10, 11, 12, 13, 14, 15, 16, 17, 18, 19, 20, 21, 22, 23, 24, 25, 26, 27, 28, 29, 30, 31, 32, 33, 34, 35, 36, 37, 38, 39, 40, 41] (by decide +kernel) (by decide +kernel)
set_option maxRecDepth 20000 in
theorem gX1_deliveredTo_X1_noNotice : GoodIn wsX1_deliveredTo (wsV RX1 132 RX1 yX1_noNotice wsX1_noNotice) := goodIn_app (goodIn_of _ (by decide +kernel)) ggX1_deliveredTo_X1_noNotice
theorem dX1_deliveredTo_0 : decode cX1_deliveredTo 0 = .ok (.aload_n 0, 1) := by decide +kernel
theorem dX1_deliveredTo_1 : decode cX1_deliveredTo 1 = .ok (.iload_n 1, 1) := by decide +kernel
theorem dX1_deliveredTo_2 : decode cX1_deliveredTo 2 = .ok (.invokevirtual 132, 3) := by decide +kernel
theorem dX1_deliveredTo_5 : decode cX1_deliveredTo 5 = .ok (.ifCond .eq 7, 3) := by decide +kernel
theorem dX1_deliveredTo_8 : decode cX1_deliveredTo 8 = .ok (.iconst 0, 1) := by decide +kernel
theorem dX1_deliveredTo_9 : decode cX1_deliveredTo 9 = .ok (.goto 9, 3) := by decide +kernel
theorem dX1_deliveredTo_12 : decode cX1_deliveredTo 12 = .ok (.aload_n 0, 1) := by decide +kernel
theorem dX1_deliveredTo_13 : decode cX1_deliveredTo 13 = .ok (.getfield 59, 3) := by decide +kernel
theorem dX1_deliveredTo_16 : decode cX1_deliveredTo 16 = .ok (.iload_n 1, 1) := by decide +kernel
theorem dX1_deliveredTo_17 : decode cX1_deliveredTo 17 = .ok (.iaload, 1) := by decide +kernel
theorem dX1_deliveredTo_18 : decode cX1_deliveredTo 18 = .ok (.ireturn, 1) := by decide +kernel
set_option maxRecDepth 20000 in
theorem ggX1_standing_X1_in : GoodIn wsX1_standing wsX1_in := goodIn_r _ [4] (by decide +kernel) (by decide +kernel)
set_option maxRecDepth 20000 in
theorem gX1_standing_X1_in : GoodIn wsX1_standing (va_wsS RX1 69 yX1_in wsX1_in) := goodIn_app (goodIn_of _ (by decide +kernel)) ggX1_standing_X1_in
set_option maxRecDepth 20000 in
theorem ggX1_standing_X1_refused : GoodIn wsX1_standing wsX1_refused := goodIn_r _ [8, 9, 18, 19, 20, 21, 22, 23, 24, 25, 26, 27, 28, 29, 30, 31, 32, 33, 34, 35, 36, 37, 38, 39] (by decide +kernel) (by decide +kernel)
set_option maxRecDepth 20000 in
theorem gX1_standing_X1_refused : GoodIn wsX1_standing (wsV RX1 98 RX1 yX1_refused wsX1_refused) := goodIn_app (goodIn_of _ (by decide +kernel)) ggX1_standing_X1_refused
set_option maxRecDepth 20000 in
theorem ggX1_standing_X1_standingNow : GoodIn wsX1_standing wsX1_standingNow := goodIn_r _ [13, 14, 15, 16, 17, 18, 19, 20, 21, 22, 23, 24, 25, 26, 27, 28, 29, 30, 31, 32, 33, 34, 35, 36, 37, 38, 39] (by decide +kernel) (by decide +kernel)
set_option maxRecDepth 20000 in
theorem gX1_standing_X1_standingNow : GoodIn wsX1_standing (wsV RX1 114 RX1 yX1_standingNow wsX1_standingNow) := goodIn_app (goodIn_of _ (by decide +kernel)) ggX1_standing_X1_standingNow
theorem dX1_standing_0 : decode cX1_standing 0 = .ok (.aload_n 0, 1) := by decide +kernel
theorem dX1_standing_1 : decode cX1_standing 1 = .ok (.iload_n 1, 1) := by decide +kernel
theorem dX1_standing_2 : decode cX1_standing 2 = .ok (.iconst 0, 1) := by decide +kernel
theorem dX1_standing_3 : decode cX1_standing 3 = .ok (.bipush 7, 2) := by decide +kernel
theorem dX1_standing_5 : decode cX1_standing 5 = .ok (.invokestatic 69, 3) := by decide +kernel
theorem dX1_standing_8 : decode cX1_standing 8 = .ok (.ifCond .eq 17, 3) := by decide +kernel
theorem dX1_standing_11 : decode cX1_standing 11 = .ok (.iload_n 2, 1) := by decide +kernel
theorem dX1_standing_12 : decode cX1_standing 12 = .ok (.iconst 0, 1) := by decide +kernel
theorem dX1_standing_13 : decode cX1_standing 13 = .ok (.bipush 9, 2) := by decide +kernel
theorem dX1_standing_15 : decode cX1_standing 15 = .ok (.invokestatic 69, 3) := by decide +kernel
theorem dX1_standing_18 : decode cX1_standing 18 = .ok (.ifCond .eq 7, 3) := by decide +kernel
theorem dX1_standing_21 : decode cX1_standing 21 = .ok (.iconst 0, 1) := by decide +kernel
theorem dX1_standing_22 : decode cX1_standing 22 = .ok (.goto 4, 3) := by decide +kernel
theorem dX1_standing_25 : decode cX1_standing 25 = .ok (.iconst 1, 1) := by decide +kernel
theorem dX1_standing_26 : decode cX1_standing 26 = .ok (.invokevirtual 98, 3) := by decide +kernel
theorem dX1_standing_29 : decode cX1_standing 29 = .ok (.ifCond .eq 7, 3) := by decide +kernel
theorem dX1_standing_32 : decode cX1_standing 32 = .ok (.iconst 0, 1) := by decide +kernel
theorem dX1_standing_33 : decode cX1_standing 33 = .ok (.goto 9, 3) := by decide +kernel
theorem dX1_standing_36 : decode cX1_standing 36 = .ok (.aload_n 0, 1) := by decide +kernel
theorem dX1_standing_37 : decode cX1_standing 37 = .ok (.iload_n 1, 1) := by decide +kernel
theorem dX1_standing_38 : decode cX1_standing 38 = .ok (.iload_n 2, 1) := by decide +kernel
theorem dX1_standing_39 : decode cX1_standing 39 = .ok (.invokevirtual 114, 3) := by decide +kernel
theorem dX1_standing_42 : decode cX1_standing 42 = .ok (.ireturn, 1) := by decide +kernel
set_option maxRecDepth 20000 in
theorem ggX1_badge_X1_isDevice : GoodIn wsX1_badge wsX1_isDevice := goodIn_r _ [8, 9, 10, 11, 7, 12, 18, 19, 20, 21, 22, 23, 24, 25, 26, 27, 28, 29, 30, 31, 32, 33, 34, 35, 36, 37, 38, 39] (by decide +kernel) (by decide +kernel)
set_option maxRecDepth 20000 in
theorem gX1_badge_X1_isDevice : GoodIn wsX1_badge (wsV RX1 101 RX1 yX1_isDevice wsX1_isDevice) := goodIn_app (goodIn_of _ (by decide +kernel)) ggX1_badge_X1_isDevice
set_option maxRecDepth 20000 in
theorem ggX1_badge_X1_refused : GoodIn wsX1_badge wsX1_refused := goodIn_r _ [16, 17, 18, 19, 20, 21, 22, 23, 24, 25, 26, 27, 28, 29, 30, 31, 32, 33, 34, 35, 36, 37, 38, 39] (by decide +kernel) (by decide +kernel)
set_option maxRecDepth 20000 in
theorem gX1_badge_X1_refused : GoodIn wsX1_badge (wsV RX1 98 RX1 yX1_refused wsX1_refused) := goodIn_app (goodIn_of _ (by decide +kernel)) ggX1_badge_X1_refused
theorem dX1_badge_0 : decode cX1_badge 0 = .ok (.aload_n 0, 1) := by decide +kernel
theorem dX1_badge_1 : decode cX1_badge 1 = .ok (.aload_n 0, 1) := by decide +kernel
theorem dX1_badge_2 : decode cX1_badge 2 = .ok (.iload_n 1, 1) := by decide +kernel
theorem dX1_badge_3 : decode cX1_badge 3 = .ok (.invokevirtual 101, 3) := by decide +kernel
theorem dX1_badge_6 : decode cX1_badge 6 = .ok (.ifCond .eq 7, 3) := by decide +kernel
theorem dX1_badge_9 : decode cX1_badge 9 = .ok (.iconst 0, 1) := by decide +kernel
theorem dX1_badge_10 : decode cX1_badge 10 = .ok (.goto 4, 3) := by decide +kernel
theorem dX1_badge_13 : decode cX1_badge 13 = .ok (.iconst 1, 1) := by decide +kernel
theorem dX1_badge_14 : decode cX1_badge 14 = .ok (.invokevirtual 98, 3) := by decide +kernel
theorem dX1_badge_17 : decode cX1_badge 17 = .ok (.ifCond .eq 5, 3) := by decide +kernel
theorem dX1_badge_20 : decode cX1_badge 20 = .ok (.iconst 0, 1) := by decide +kernel
theorem dX1_badge_21 : decode cX1_badge 21 = .ok (.ireturn, 1) := by decide +kernel
theorem dX1_badge_22 : decode cX1_badge 22 = .ok (.iconst 0, 1) := by decide +kernel
theorem dX1_badge_23 : decode cX1_badge 23 = .ok (.istore_n 2, 1) := by decide +kernel
theorem dX1_badge_24 : decode cX1_badge 24 = .ok (.iconst 0, 1) := by decide +kernel
theorem dX1_badge_25 : decode cX1_badge 25 = .ok (.istore_n 3, 1) := by decide +kernel
theorem dX1_badge_26 : decode cX1_badge 26 = .ok (.iload_n 3, 1) := by decide +kernel
theorem dX1_badge_27 : decode cX1_badge 27 = .ok (.aload_n 0, 1) := by decide +kernel
theorem dX1_badge_28 : decode cX1_badge 28 = .ok (.getfield 73, 3) := by decide +kernel
theorem dX1_badge_31 : decode cX1_badge 31 = .ok (.if_icmp .ge 35, 3) := by decide +kernel
theorem dX1_badge_34 : decode cX1_badge 34 = .ok (.iload_n 2, 1) := by decide +kernel
theorem dX1_badge_35 : decode cX1_badge 35 = .ok (.aload_n 0, 1) := by decide +kernel
theorem dX1_badge_36 : decode cX1_badge 36 = .ok (.getfield 53, 3) := by decide +kernel
theorem dX1_badge_39 : decode cX1_badge 39 = .ok (.iload_n 3, 1) := by decide +kernel
theorem dX1_badge_40 : decode cX1_badge 40 = .ok (.baload, 1) := by decide +kernel
theorem dX1_badge_41 : decode cX1_badge 41 = .ok (.ifCond .eq 7, 3) := by decide +kernel
theorem dX1_badge_44 : decode cX1_badge 44 = .ok (.iconst 0, 1) := by decide +kernel
theorem dX1_badge_45 : decode cX1_badge 45 = .ok (.goto 13, 3) := by decide +kernel
theorem dX1_badge_48 : decode cX1_badge 48 = .ok (.aload_n 0, 1) := by decide +kernel
theorem dX1_badge_49 : decode cX1_badge 49 = .ok (.getfield 59, 3) := by decide +kernel
theorem dX1_badge_52 : decode cX1_badge 52 = .ok (.iload_n 3, 1) := by decide +kernel
theorem dX1_badge_53 : decode cX1_badge 53 = .ok (.iaload, 1) := by decide +kernel
theorem dX1_badge_54 : decode cX1_badge 54 = .ok (.iload_n 1, 1) := by decide +kernel
theorem dX1_badge_55 : decode cX1_badge 55 = .ok (.ishr, 1) := by decide +kernel
theorem dX1_badge_56 : decode cX1_badge 56 = .ok (.iconst 1, 1) := by decide +kernel
theorem dX1_badge_57 : decode cX1_badge 57 = .ok (.iand, 1) := by decide +kernel
theorem dX1_badge_58 : decode cX1_badge 58 = .ok (.iadd, 1) := by decide +kernel
theorem dX1_badge_59 : decode cX1_badge 59 = .ok (.istore_n 2, 1) := by decide +kernel
theorem dX1_badge_60 : decode cX1_badge 60 = .ok (.iinc 3 1, 3) := by decide +kernel
theorem dX1_badge_63 : decode cX1_badge 63 = .ok (.goto (-37), 3) := by decide +kernel
theorem dX1_badge_66 : decode cX1_badge 66 = .ok (.iload_n 2, 1) := by decide +kernel
theorem dX1_badge_67 : decode cX1_badge 67 = .ok (.ireturn, 1) := by decide +kernel
set_option maxRecDepth 20000 in
theorem ggX1_waiting_X1_isDevice : GoodIn wsX1_waiting wsX1_isDevice := goodIn_r _ [5, 6, 7, 8, 4, 9, 21, 22, 23, 24, 25, 26, 27, 28, 29, 30, 31, 32, 33, 34, 35, 36, 37, 38, 39, 40, 41, 42] (by decide +kernel) (by decide +kernel)
set_option maxRecDepth 20000 in
theorem gX1_waiting_X1_isDevice : GoodIn wsX1_waiting (wsV RX1 101 RX1 yX1_isDevice wsX1_isDevice) := goodIn_app (goodIn_of _ (by decide +kernel)) ggX1_waiting_X1_isDevice
set_option maxRecDepth 20000 in
theorem ggX1_waiting_X1_refused : GoodIn wsX1_waiting wsX1_refused := goodIn_r _ [13, 14, 21, 22, 23, 24, 25, 26, 27, 28, 29, 30, 31, 32, 33, 34, 35, 36, 37, 38, 39, 40, 41, 42] (by decide +kernel) (by decide +kernel)
set_option maxRecDepth 20000 in
theorem gX1_waiting_X1_refused : GoodIn wsX1_waiting (wsV RX1 98 RX1 yX1_refused wsX1_refused) := goodIn_app (goodIn_of _ (by decide +kernel)) ggX1_waiting_X1_refused
set_option maxRecDepth 20000 in
theorem ggX1_waiting_X1_countWaiting : GoodIn wsX1_waiting wsX1_countWaiting := goodIn_r _ [18, 19, 20, 21, 22, 23, 24, 25, 26, 27, 28, 29, 30, 31, 32, 33, 34, 35, 36, 37, 38, 39, 40, 41, 42] (by decide +kernel) (by decide +kernel)
set_option maxRecDepth 20000 in
theorem gX1_waiting_X1_countWaiting : GoodIn wsX1_waiting (wsV RX1 108 RX1 yX1_countWaiting wsX1_countWaiting) := goodIn_app (goodIn_of _ (by decide +kernel)) ggX1_waiting_X1_countWaiting
theorem dX1_waiting_0 : decode cX1_waiting 0 = .ok (.aload_n 0, 1) := by decide +kernel
theorem dX1_waiting_1 : decode cX1_waiting 1 = .ok (.aload_n 0, 1) := by decide +kernel
theorem dX1_waiting_2 : decode cX1_waiting 2 = .ok (.iload_n 1, 1) := by decide +kernel
theorem dX1_waiting_3 : decode cX1_waiting 3 = .ok (.invokevirtual 101, 3) := by decide +kernel
theorem dX1_waiting_6 : decode cX1_waiting 6 = .ok (.ifCond .eq 7, 3) := by decide +kernel
theorem dX1_waiting_9 : decode cX1_waiting 9 = .ok (.iconst 0, 1) := by decide +kernel
theorem dX1_waiting_10 : decode cX1_waiting 10 = .ok (.goto 4, 3) := by decide +kernel
theorem dX1_waiting_13 : decode cX1_waiting 13 = .ok (.iconst 1, 1) := by decide +kernel
theorem dX1_waiting_14 : decode cX1_waiting 14 = .ok (.invokevirtual 98, 3) := by decide +kernel
theorem dX1_waiting_17 : decode cX1_waiting 17 = .ok (.ifCond .eq 7, 3) := by decide +kernel
theorem dX1_waiting_20 : decode cX1_waiting 20 = .ok (.iconst 0, 1) := by decide +kernel
theorem dX1_waiting_21 : decode cX1_waiting 21 = .ok (.goto 8, 3) := by decide +kernel
