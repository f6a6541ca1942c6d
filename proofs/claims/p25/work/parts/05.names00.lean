theorem dX0_init_0 : decode cX0_init 0 = .ok (.aload_n 0, 1) := by decide +kernel
theorem dX0_init_1 : decode cX0_init 1 = .ok (.invokespecial 1, 3) := by decide +kernel
theorem dX0_init_4 : decode cX0_init 4 = .ok (.aload_n 0, 1) := by decide +kernel
theorem dX0_init_5 : decode cX0_init 5 = .ok (.bipush 8, 2) := by decide +kernel
theorem dX0_init_7 : decode cX0_init 7 = .ok (.newarray .int, 2) := by decide +kernel
theorem dX0_init_9 : decode cX0_init 9 = .ok (.putfield 9, 3) := by decide +kernel
theorem dX0_init_12 : decode cX0_init 12 = .ok (.aload_n 0, 1) := by decide +kernel
theorem dX0_init_13 : decode cX0_init 13 = .ok (.bipush 6, 2) := by decide +kernel
theorem dX0_init_15 : decode cX0_init 15 = .ok (.newarray .int, 2) := by decide +kernel
theorem dX0_init_17 : decode cX0_init 17 = .ok (.putfield 13, 3) := by decide +kernel
theorem dX0_init_20 : decode cX0_init 20 = .ok (.aload_n 0, 1) := by decide +kernel
theorem dX0_init_21 : decode cX0_init 21 = .ok (.iconst 0, 1) := by decide +kernel
theorem dX0_init_22 : decode cX0_init 22 = .ok (.putfield 16, 3) := by decide +kernel
theorem dX0_init_25 : decode cX0_init 25 = .ok (.aload_n 0, 1) := by decide +kernel
theorem dX0_init_26 : decode cX0_init 26 = .ok (.iconst 0, 1) := by decide +kernel
theorem dX0_init_27 : decode cX0_init 27 = .ok (.putfield 20, 3) := by decide +kernel
theorem dX0_init_30 : decode cX0_init 30 = .ok (.aload_n 0, 1) := by decide +kernel
theorem dX0_init_31 : decode cX0_init 31 = .ok (.iconst 0, 1) := by decide +kernel
theorem dX0_init_32 : decode cX0_init 32 = .ok (.putfield 23, 3) := by decide +kernel
theorem dX0_init_35 : decode cX0_init 35 = .ok (.aload_n 0, 1) := by decide +kernel
theorem dX0_init_36 : decode cX0_init 36 = .ok (.bipush 16, 2) := by decide +kernel
theorem dX0_init_38 : decode cX0_init 38 = .ok (.newarray .int, 2) := by decide +kernel
theorem dX0_init_40 : decode cX0_init 40 = .ok (.putfield 26, 3) := by decide +kernel
theorem dX0_init_43 : decode cX0_init 43 = .ok (.aload_n 0, 1) := by decide +kernel
theorem dX0_init_44 : decode cX0_init 44 = .ok (.bipush 16, 2) := by decide +kernel
theorem dX0_init_46 : decode cX0_init 46 = .ok (.newarray .int, 2) := by decide +kernel
theorem dX0_init_48 : decode cX0_init 48 = .ok (.putfield 29, 3) := by decide +kernel
theorem dX0_init_51 : decode cX0_init 51 = .ok (.aload_n 0, 1) := by decide +kernel
theorem dX0_init_52 : decode cX0_init 52 = .ok (.bipush 16, 2) := by decide +kernel
theorem dX0_init_54 : decode cX0_init 54 = .ok (.newarray .int, 2) := by decide +kernel
theorem dX0_init_56 : decode cX0_init 56 = .ok (.putfield 32, 3) := by decide +kernel
theorem dX0_init_59 : decode cX0_init 59 = .ok (.aload_n 0, 1) := by decide +kernel
theorem dX0_init_60 : decode cX0_init 60 = .ok (.bipush 16, 2) := by decide +kernel
theorem dX0_init_62 : decode cX0_init 62 = .ok (.newarray .int, 2) := by decide +kernel
theorem dX0_init_64 : decode cX0_init 64 = .ok (.putfield 35, 3) := by decide +kernel
theorem dX0_init_67 : decode cX0_init 67 = .ok (.aload_n 0, 1) := by decide +kernel
theorem dX0_init_68 : decode cX0_init 68 = .ok (.bipush 16, 2) := by decide +kernel
theorem dX0_init_70 : decode cX0_init 70 = .ok (.newarray .int, 2) := by decide +kernel
theorem dX0_init_72 : decode cX0_init 72 = .ok (.putfield 38, 3) := by decide +kernel
theorem dX0_init_75 : decode cX0_init 75 = .ok (.aload_n 0, 1) := by decide +kernel
theorem dX0_init_76 : decode cX0_init 76 = .ok (.iconst 0, 1) := by decide +kernel
theorem dX0_init_77 : decode cX0_init 77 = .ok (.putfield 41, 3) := by decide +kernel
theorem dX0_init_80 : decode cX0_init 80 = .ok (.aload_n 0, 1) := by decide +kernel
theorem dX0_init_81 : decode cX0_init 81 = .ok (.bipush 120, 2) := by decide +kernel
theorem dX0_init_83 : decode cX0_init 83 = .ok (.newarray .boolean, 2) := by decide +kernel
theorem dX0_init_85 : decode cX0_init 85 = .ok (.putfield 44, 3) := by decide +kernel
theorem dX0_init_88 : decode cX0_init 88 = .ok (.aload_n 0, 1) := by decide +kernel
theorem dX0_init_89 : decode cX0_init 89 = .ok (.bipush 120, 2) := by decide +kernel
theorem dX0_init_91 : decode cX0_init 91 = .ok (.newarray .int, 2) := by decide +kernel
theorem dX0_init_93 : decode cX0_init 93 = .ok (.putfield 48, 3) := by decide +kernel
theorem dX0_init_96 : decode cX0_init 96 = .ok (.aload_n 0, 1) := by decide +kernel
theorem dX0_init_97 : decode cX0_init 97 = .ok (.bipush 120, 2) := by decide +kernel
theorem dX0_init_99 : decode cX0_init 99 = .ok (.newarray .int, 2) := by decide +kernel
theorem dX0_init_101 : decode cX0_init 101 = .ok (.putfield 51, 3) := by decide +kernel
theorem dX0_init_104 : decode cX0_init 104 = .ok (.aload_n 0, 1) := by decide +kernel
theorem dX0_init_105 : decode cX0_init 105 = .ok (.bipush 120, 2) := by decide +kernel
theorem dX0_init_107 : decode cX0_init 107 = .ok (.newarray .int, 2) := by decide +kernel
theorem dX0_init_109 : decode cX0_init 109 = .ok (.putfield 54, 3) := by decide +kernel
theorem dX0_init_112 : decode cX0_init 112 = .ok (.aload_n 0, 1) := by decide +kernel
theorem dX0_init_113 : decode cX0_init 113 = .ok (.bipush 80, 2) := by decide +kernel
theorem dX0_init_115 : decode cX0_init 115 = .ok (.newarray .int, 2) := by decide +kernel
theorem dX0_init_117 : decode cX0_init 117 = .ok (.putfield 57, 3) := by decide +kernel
theorem dX0_init_120 : decode cX0_init 120 = .ok (.aload_n 0, 1) := by decide +kernel
theorem dX0_init_121 : decode cX0_init 121 = .ok (.iconst 0, 1) := by decide +kernel
theorem dX0_init_122 : decode cX0_init 122 = .ok (.putfield 60, 3) := by decide +kernel
theorem dX0_init_125 : decode cX0_init 125 = .ok (.aload_n 0, 1) := by decide +kernel
theorem dX0_init_126 : decode cX0_init 126 = .ok (.iconst 0, 1) := by decide +kernel
theorem dX0_init_127 : decode cX0_init 127 = .ok (.putfield 63, 3) := by decide +kernel
theorem dX0_init_130 : decode cX0_init 130 = .ok (.aload_n 0, 1) := by decide +kernel
theorem dX0_init_131 : decode cX0_init 131 = .ok (.iconst 0, 1) := by decide +kernel
theorem dX0_init_132 : decode cX0_init 132 = .ok (.putfield 66, 3) := by decide +kernel
theorem dX0_init_135 : decode cX0_init 135 = .ok (.iconst 0, 1) := by decide +kernel
theorem dX0_init_136 : decode cX0_init 136 = .ok (.istore_n 1, 1) := by decide +kernel
theorem dX0_init_137 : decode cX0_init 137 = .ok (.iload_n 1, 1) := by decide +kernel
theorem dX0_init_138 : decode cX0_init 138 = .ok (.bipush 80, 2) := by decide +kernel
theorem dX0_init_140 : decode cX0_init 140 = .ok (.if_icmp .ge 16, 3) := by decide +kernel
theorem dX0_init_143 : decode cX0_init 143 = .ok (.aload_n 0, 1) := by decide +kernel
theorem dX0_init_144 : decode cX0_init 144 = .ok (.getfield 57, 3) := by decide +kernel
theorem dX0_init_147 : decode cX0_init 147 = .ok (.iload_n 1, 1) := by decide +kernel
theorem dX0_init_148 : decode cX0_init 148 = .ok (.iconst (-1), 1) := by decide +kernel
theorem dX0_init_149 : decode cX0_init 149 = .ok (.iastore, 1) := by decide +kernel
theorem dX0_init_150 : decode cX0_init 150 = .ok (.iinc 1 1, 3) := by decide +kernel
theorem dX0_init_153 : decode cX0_init 153 = .ok (.goto (-16), 3) := by decide +kernel
theorem dX0_init_156 : decode cX0_init 156 = .ok (.return_, 1) := by decide +kernel
set_option maxRecDepth 20000 in
theorem ggX0_addDevice_X0_requireWithin : GoodIn wsX0_addDevice wsX0_requireWithin := goodIn_ca (goodIn_r _ [11, 12, 13] (by decide +kernel) (by decide +kernel)) (goodIn_sub (fun _ h => List.mem_cons_of_mem _ (List.mem_append_right _ h)) (by decide +kernel))
set_option maxRecDepth 20000 in
theorem gX0_addDevice_X0_requireWithin : GoodIn wsX0_addDevice (va_wsS RX0 69 yX0_requireWithin wsX0_requireWithin) := goodIn_app (goodIn_of _ (by decide +kernel)) ggX0_addDevice_X0_requireWithin
set_option maxRecDepth 20000 in
theorem ggX0_addDevice_X0_bitOf : GoodIn wsX0_addDevice wsX0_bitOf := goodIn_r _ [16] (by decide +kernel) (by decide +kernel)
set_option maxRecDepth 20000 in
theorem gX0_addDevice_X0_bitOf : GoodIn wsX0_addDevice (va_wsS RX0 80 yX0_bitOf wsX0_bitOf) := goodIn_app (goodIn_of _ (by decide +kernel)) ggX0_addDevice_X0_bitOf
theorem dX0_addDevice_0 : decode cX0_addDevice 0 = .ok (.iload_n 1, 1) := by decide +kernel
theorem dX0_addDevice_1 : decode cX0_addDevice 1 = .ok (.iconst 0, 1) := by decide +kernel
theorem dX0_addDevice_2 : decode cX0_addDevice 2 = .ok (.bipush 7, 2) := by decide +kernel
theorem dX0_addDevice_4 : decode cX0_addDevice 4 = .ok (.invokestatic 69, 3) := by decide +kernel
theorem dX0_addDevice_7 : decode cX0_addDevice 7 = .ok (.iload_n 2, 1) := by decide +kernel
theorem dX0_addDevice_8 : decode cX0_addDevice 8 = .ok (.sipush (-720), 3) := by decide +kernel
theorem dX0_addDevice_11 : decode cX0_addDevice 11 = .ok (.sipush 840, 3) := by decide +kernel
theorem dX0_addDevice_14 : decode cX0_addDevice 14 = .ok (.invokestatic 69, 3) := by decide +kernel
theorem dX0_addDevice_17 : decode cX0_addDevice 17 = .ok (.aload_n 0, 1) := by decide +kernel
theorem dX0_addDevice_18 : decode cX0_addDevice 18 = .ok (.getfield 41, 3) := by decide +kernel
theorem dX0_addDevice_21 : decode cX0_addDevice 21 = .ok (.bipush 16, 2) := by decide +kernel
theorem dX0_addDevice_23 : decode cX0_addDevice 23 = .ok (.if_icmp .lt 13, 3) := by decide +kernel
theorem dX0_addDevice_26 : decode cX0_addDevice 26 = .ok (.new 73, 3) := by decide +kernel
theorem dX0_addDevice_29 : decode cX0_addDevice 29 = .ok (.dup, 1) := by decide +kernel
theorem dX0_addDevice_30 : decode cX0_addDevice 30 = .ok (.ldc 75, 2) := by decide +kernel
theorem dX0_addDevice_32 : decode cX0_addDevice 32 = .ok (.invokespecial 77, 3) := by decide +kernel
theorem dX0_addDevice_35 : decode cX0_addDevice 35 = .ok (.athrow, 1) := by decide +kernel
theorem dX0_addDevice_36 : decode cX0_addDevice 36 = .ok (.aload_n 0, 1) := by decide +kernel
theorem dX0_addDevice_37 : decode cX0_addDevice 37 = .ok (.getfield 41, 3) := by decide +kernel
theorem dX0_addDevice_40 : decode cX0_addDevice 40 = .ok (.istore_n 3, 1) := by decide +kernel
theorem dX0_addDevice_41 : decode cX0_addDevice 41 = .ok (.aload_n 0, 1) := by decide +kernel
theorem dX0_addDevice_42 : decode cX0_addDevice 42 = .ok (.dup, 1) := by decide +kernel
theorem dX0_addDevice_43 : decode cX0_addDevice 43 = .ok (.getfield 41, 3) := by decide +kernel
theorem dX0_addDevice_46 : decode cX0_addDevice 46 = .ok (.iconst 1, 1) := by decide +kernel
theorem dX0_addDevice_47 : decode cX0_addDevice 47 = .ok (.iadd, 1) := by decide +kernel
theorem dX0_addDevice_48 : decode cX0_addDevice 48 = .ok (.putfield 41, 3) := by decide +kernel
theorem dX0_addDevice_51 : decode cX0_addDevice 51 = .ok (.aload_n 0, 1) := by decide +kernel
theorem dX0_addDevice_52 : decode cX0_addDevice 52 = .ok (.getfield 26, 3) := by decide +kernel
theorem dX0_addDevice_55 : decode cX0_addDevice 55 = .ok (.iload_n 3, 1) := by decide +kernel
theorem dX0_addDevice_56 : decode cX0_addDevice 56 = .ok (.iload_n 2, 1) := by decide +kernel
theorem dX0_addDevice_57 : decode cX0_addDevice 57 = .ok (.iastore, 1) := by decide +kernel
theorem dX0_addDevice_58 : decode cX0_addDevice 58 = .ok (.aload_n 0, 1) := by decide +kernel
theorem dX0_addDevice_59 : decode cX0_addDevice 59 = .ok (.getfield 9, 3) := by decide +kernel
theorem dX0_addDevice_62 : decode cX0_addDevice 62 = .ok (.iload_n 1, 1) := by decide +kernel
theorem dX0_addDevice_63 : decode cX0_addDevice 63 = .ok (.dup2, 1) := by decide +kernel
theorem dX0_addDevice_64 : decode cX0_addDevice 64 = .ok (.iaload, 1) := by decide +kernel
theorem dX0_addDevice_65 : decode cX0_addDevice 65 = .ok (.iload_n 3, 1) := by decide +kernel
theorem dX0_addDevice_66 : decode cX0_addDevice 66 = .ok (.invokestatic 80, 3) := by decide +kernel
theorem dX0_addDevice_69 : decode cX0_addDevice 69 = .ok (.ior, 1) := by decide +kernel
theorem dX0_addDevice_70 : decode cX0_addDevice 70 = .ok (.iastore, 1) := by decide +kernel
theorem dX0_addDevice_71 : decode cX0_addDevice 71 = .ok (.aload_n 0, 1) := by decide +kernel
theorem dX0_addDevice_72 : decode cX0_addDevice 72 = .ok (.dup, 1) := by decide +kernel
theorem dX0_addDevice_73 : decode cX0_addDevice 73 = .ok (.getfield 16, 3) := by decide +kernel
theorem dX0_addDevice_76 : decode cX0_addDevice 76 = .ok (.iload_n 3, 1) := by decide +kernel
theorem dX0_addDevice_77 : decode cX0_addDevice 77 = .ok (.invokestatic 80, 3) := by decide +kernel
theorem dX0_addDevice_80 : decode cX0_addDevice 80 = .ok (.ior, 1) := by decide +kernel
theorem dX0_addDevice_81 : decode cX0_addDevice 81 = .ok (.putfield 16, 3) := by decide +kernel
theorem dX0_addDevice_84 : decode cX0_addDevice 84 = .ok (.aload_n 0, 1) := by decide +kernel
theorem dX0_addDevice_85 : decode cX0_addDevice 85 = .ok (.dup, 1) := by decide +kernel
theorem dX0_addDevice_86 : decode cX0_addDevice 86 = .ok (.getfield 20, 3) := by decide +kernel
theorem dX0_addDevice_89 : decode cX0_addDevice 89 = .ok (.iload_n 3, 1) := by decide +kernel
theorem dX0_addDevice_90 : decode cX0_addDevice 90 = .ok (.invokestatic 80, 3) := by decide +kernel
theorem dX0_addDevice_93 : decode cX0_addDevice 93 = .ok (.ior, 1) := by decide +kernel
theorem dX0_addDevice_94 : decode cX0_addDevice 94 = .ok (.putfield 20, 3) := by decide +kernel
theorem dX0_addDevice_97 : decode cX0_addDevice 97 = .ok (.iload_n 3, 1) := by decide +kernel
theorem dX0_addDevice_98 : decode cX0_addDevice 98 = .ok (.ireturn, 1) := by decide +kernel
set_option maxRecDepth 20000 in
theorem ggX0_setOnline_X0_requireDevice : GoodIn wsX0_setOnline wsX0_requireDevice := goodIn_ca (goodIn_r _ [6, 7, 8, 9, 83, 84, 85, 86, 87, 88, 89, 90, 91, 92, 93, 94, 95, 96, 97, 98, 99, 100, 101] (by decide +kernel) (by decide +kernel)) (goodIn_sub (fun _ h => List.mem_cons_of_mem _ (List.mem_append_right _ h)) (by decide +kernel))
set_option maxRecDepth 20000 in
theorem gX0_setOnline_X0_requireDevice : GoodIn wsX0_setOnline (wsV RX0 84 RX0 yX0_requireDevice wsX0_requireDevice) := goodIn_app (goodIn_of _ (by decide +kernel)) ggX0_setOnline_X0_requireDevice
set_option maxRecDepth 20000 in
theorem ggX0_setOnline_X0_changed : GoodIn wsX0_setOnline wsX0_changed := goodIn_r _ [12, 13, 14, 5, 15] (by decide +kernel) (by decide +kernel)
set_option maxRecDepth 20000 in
theorem gX0_setOnline_X0_changed : GoodIn wsX0_setOnline (va_wsS RX0 88 yX0_changed wsX0_changed) := goodIn_app (goodIn_of _ (by decide +kernel)) ggX0_setOnline_X0_changed
set_option maxRecDepth 20000 in
theorem ggX0_setOnline_X0_deliverNow : GoodIn wsX0_setOnline wsX0_deliverNow := goodIn_r _ [19, 20, 21, 22, 23, 24, 25, 5, 26, 27, 1, 28, 9, 29, 30, 31, 32, 33, 34, 35, 36, 37, 38, 39, 40, 41, 42, 43, 10, 11, 12, 13, 14, 15, 44, 45, 46, 47, 48, 49, 50, 51, 52, 53, 54, 55, 56, 57, 58, 59, 60, 61, 62, 63, 64, 65, 66, 67, 68, 69, 70, 71, 72, 73, 74, 75, 76, 77, 78, 79, 80, 81, 82, 83, 84, 85, 86, 87, 88, 89, 90, 91, 92, 93, 94, 95, 96, 97, 98, 99, 100, 101] (by decide +kernel) (by decide +kernel)
set_option maxRecDepth 20000 in
theorem gX0_setOnline_X0_deliverNow : GoodIn wsX0_setOnline (wsV RX0 92 RX0 yX0_deliverNow wsX0_deliverNow) := goodIn_app (goodIn_of _ (by decide +kernel)) ggX0_setOnline_X0_deliverNow
theorem dX0_setOnline_0 : decode cX0_setOnline 0 = .ok (.aload_n 0, 1) := by decide +kernel
theorem dX0_setOnline_1 : decode cX0_setOnline 1 = .ok (.iload_n 1, 1) := by decide +kernel
theorem dX0_setOnline_2 : decode cX0_setOnline 2 = .ok (.invokevirtual 84, 3) := by decide +kernel
theorem dX0_setOnline_5 : decode cX0_setOnline 5 = .ok (.aload_n 0, 1) := by decide +kernel
theorem dX0_setOnline_6 : decode cX0_setOnline 6 = .ok (.aload_n 0, 1) := by decide +kernel
theorem dX0_setOnline_7 : decode cX0_setOnline 7 = .ok (.getfield 20, 3) := by decide +kernel
theorem dX0_setOnline_10 : decode cX0_setOnline 10 = .ok (.iload_n 1, 1) := by decide +kernel
theorem dX0_setOnline_11 : decode cX0_setOnline 11 = .ok (.iload_n 2, 1) := by decide +kernel
theorem dX0_setOnline_12 : decode cX0_setOnline 12 = .ok (.invokestatic 88, 3) := by decide +kernel
theorem dX0_setOnline_15 : decode cX0_setOnline 15 = .ok (.putfield 20, 3) := by decide +kernel
theorem dX0_setOnline_18 : decode cX0_setOnline 18 = .ok (.aload_n 0, 1) := by decide +kernel
theorem dX0_setOnline_19 : decode cX0_setOnline 19 = .ok (.invokevirtual 92, 3) := by decide +kernel
theorem dX0_setOnline_22 : decode cX0_setOnline 22 = .ok (.ireturn, 1) := by decide +kernel
set_option maxRecDepth 20000 in
theorem ggX0_setDozing_X0_requireDevice : GoodIn wsX0_setDozing wsX0_requireDevice := goodIn_ca (goodIn_r _ [6, 7, 8, 9, 83, 84, 85, 86, 87, 88, 89, 90, 91, 92, 93, 94, 95, 96, 97, 98, 99, 100, 101] (by decide +kernel) (by decide +kernel)) (goodIn_sub (fun _ h => List.mem_cons_of_mem _ (List.mem_append_right _ h)) (by decide +kernel))
set_option maxRecDepth 20000 in
theorem gX0_setDozing_X0_requireDevice : GoodIn wsX0_setDozing (wsV RX0 84 RX0 yX0_requireDevice wsX0_requireDevice) := goodIn_app (goodIn_of _ (by decide +kernel)) ggX0_setDozing_X0_requireDevice
set_option maxRecDepth 20000 in
theorem ggX0_setDozing_X0_changed : GoodIn wsX0_setDozing wsX0_changed := goodIn_r _ [12, 13, 14, 5, 15] (by decide +kernel) (by decide +kernel)
set_option maxRecDepth 20000 in
theorem gX0_setDozing_X0_changed : GoodIn wsX0_setDozing (va_wsS RX0 88 yX0_changed wsX0_changed) := goodIn_app (goodIn_of _ (by decide +kernel)) ggX0_setDozing_X0_changed
set_option maxRecDepth 20000 in
theorem ggX0_setDozing_X0_deliverNow : GoodIn wsX0_setDozing wsX0_deliverNow := goodIn_r _ [19, 20, 21, 22, 23, 24, 25, 5, 26, 27, 28, 1, 9, 29, 30, 31, 32, 33, 34, 35, 36, 37, 38, 39, 40, 41, 42, 43, 10, 11, 12, 13, 14, 15, 44, 45, 46, 47, 48, 49, 50, 51, 52, 53, 54, 55, 56, 57, 58, 59, 60, 61, 62, 63, 64, 65, 66, 67, 68, 69, 70, 71, 72, 73, 74, 75, 76, 77, 78, 79, 80, 81, 82, 83, 84, 85, 86, 87, 88, 89, 90, 91, 92, 93, 94, 95, 96, 97, 98, 99, 100, 101] (by decide +kernel) (by decide +kernel)
set_option maxRecDepth 20000 in
theorem gX0_setDozing_X0_deliverNow : GoodIn wsX0_setDozing (wsV RX0 92 RX0 yX0_deliverNow wsX0_deliverNow) := goodIn_app (goodIn_of _ (by decide +kernel)) ggX0_setDozing_X0_deliverNow
theorem dX0_setDozing_0 : decode cX0_setDozing 0 = .ok (.aload_n 0, 1) := by decide +kernel
theorem dX0_setDozing_1 : decode cX0_setDozing 1 = .ok (.iload_n 1, 1) := by decide +kernel
theorem dX0_setDozing_2 : decode cX0_setDozing 2 = .ok (.invokevirtual 84, 3) := by decide +kernel
theorem dX0_setDozing_5 : decode cX0_setDozing 5 = .ok (.aload_n 0, 1) := by decide +kernel
theorem dX0_setDozing_6 : decode cX0_setDozing 6 = .ok (.aload_n 0, 1) := by decide +kernel
theorem dX0_setDozing_7 : decode cX0_setDozing 7 = .ok (.getfield 23, 3) := by decide +kernel
theorem dX0_setDozing_10 : decode cX0_setDozing 10 = .ok (.iload_n 1, 1) := by decide +kernel
theorem dX0_setDozing_11 : decode cX0_setDozing 11 = .ok (.iload_n 2, 1) := by decide +kernel
theorem dX0_setDozing_12 : decode cX0_setDozing 12 = .ok (.invokestatic 88, 3) := by decide +kernel
theorem dX0_setDozing_15 : decode cX0_setDozing 15 = .ok (.putfield 23, 3) := by decide +kernel
theorem dX0_setDozing_18 : decode cX0_setDozing 18 = .ok (.aload_n 0, 1) := by decide +kernel
theorem dX0_setDozing_19 : decode cX0_setDozing 19 = .ok (.invokevirtual 92, 3) := by decide +kernel
theorem dX0_setDozing_22 : decode cX0_setDozing 22 = .ok (.ireturn, 1) := by decide +kernel
set_option maxRecDepth 20000 in
theorem ggX0_setQuiet_X0_requireDevice : GoodIn wsX0_setQuiet wsX0_requireDevice := goodIn_ca (goodIn_r _ [7, 8, 9, 10, 88, 89, 90, 91, 92, 93, 94, 95, 96, 97, 98, 99, 100, 101, 102, 103, 104, 105, 106] (by decide +kernel) (by decide +kernel)) (goodIn_sub (fun _ h => List.mem_cons_of_mem _ (List.mem_append_left _ (List.mem_append_right _ h))) (by decide +kernel))
set_option maxRecDepth 20000 in
theorem gX0_setQuiet_X0_requireDevice : GoodIn wsX0_setQuiet (wsV RX0 84 RX0 yX0_requireDevice wsX0_requireDevice) := goodIn_app (goodIn_of _ (by decide +kernel)) ggX0_setQuiet_X0_requireDevice
set_option maxRecDepth 20000 in
theorem ggX0_setQuiet_X0_requireWithin : GoodIn wsX0_setQuiet wsX0_requireWithin := goodIn_ca (goodIn_r _ [13, 14, 15] (by decide +kernel) (by decide +kernel)) (goodIn_sub (fun _ h => List.mem_cons_of_mem _ (List.mem_append_right _ h)) (by decide +kernel))
set_option maxRecDepth 20000 in
theorem gX0_setQuiet_X0_requireWithin : GoodIn wsX0_setQuiet (va_wsS RX0 69 yX0_requireWithin wsX0_requireWithin) := goodIn_app (goodIn_of _ (by decide +kernel)) ggX0_setQuiet_X0_requireWithin
set_option maxRecDepth 20000 in
theorem ggX0_setQuiet_X0_deliverNow : GoodIn wsX0_setQuiet wsX0_deliverNow := goodIn_r _ [19, 20, 21, 22, 23, 24, 25, 6, 26, 27, 28, 29, 10, 30, 31, 32, 33, 1, 2, 34, 35, 36, 37, 38, 39, 40, 41, 42, 43, 44, 45, 46, 47, 48, 49, 50, 51, 52, 53, 54, 55, 56, 57, 58, 59, 60, 61, 62, 63, 64, 65, 66, 67, 68, 69, 70, 71, 72, 73, 74, 75, 76, 77, 78, 79, 80, 81, 82, 83, 84, 85, 86, 87, 88, 89, 90, 91, 92, 93, 94, 95, 96, 97, 98, 99, 100, 101, 102, 103, 104, 105, 106] (by decide +kernel) (by decide +kernel)
set_option maxRecDepth 20000 in
theorem gX0_setQuiet_X0_deliverNow : GoodIn wsX0_setQuiet (wsV RX0 92 RX0 yX0_deliverNow wsX0_deliverNow) := goodIn_app (goodIn_of _ (by decide +kernel)) ggX0_setQuiet_X0_deliverNow
theorem dX0_setQuiet_0 : decode cX0_setQuiet 0 = .ok (.aload_n 0, 1) := by decide +kernel
theorem dX0_setQuiet_1 : decode cX0_setQuiet 1 = .ok (.iload_n 1, 1) := by decide +kernel
theorem dX0_setQuiet_2 : decode cX0_setQuiet 2 = .ok (.invokevirtual 84, 3) := by decide +kernel
theorem dX0_setQuiet_5 : decode cX0_setQuiet 5 = .ok (.iload_n 2, 1) := by decide +kernel
theorem dX0_setQuiet_6 : decode cX0_setQuiet 6 = .ok (.iconst 0, 1) := by decide +kernel
theorem dX0_setQuiet_7 : decode cX0_setQuiet 7 = .ok (.sipush 1439, 3) := by decide +kernel
theorem dX0_setQuiet_10 : decode cX0_setQuiet 10 = .ok (.invokestatic 69, 3) := by decide +kernel
theorem dX0_setQuiet_13 : decode cX0_setQuiet 13 = .ok (.iload_n 3, 1) := by decide +kernel
theorem dX0_setQuiet_14 : decode cX0_setQuiet 14 = .ok (.iconst 0, 1) := by decide +kernel
theorem dX0_setQuiet_15 : decode cX0_setQuiet 15 = .ok (.sipush 1439, 3) := by decide +kernel
theorem dX0_setQuiet_18 : decode cX0_setQuiet 18 = .ok (.invokestatic 69, 3) := by decide +kernel
theorem dX0_setQuiet_21 : decode cX0_setQuiet 21 = .ok (.aload_n 0, 1) := by decide +kernel
theorem dX0_setQuiet_22 : decode cX0_setQuiet 22 = .ok (.getfield 29, 3) := by decide +kernel
theorem dX0_setQuiet_25 : decode cX0_setQuiet 25 = .ok (.iload_n 1, 1) := by decide +kernel
theorem dX0_setQuiet_26 : decode cX0_setQuiet 26 = .ok (.iload_n 2, 1) := by decide +kernel
theorem dX0_setQuiet_27 : decode cX0_setQuiet 27 = .ok (.iastore, 1) := by decide +kernel
theorem dX0_setQuiet_28 : decode cX0_setQuiet 28 = .ok (.aload_n 0, 1) := by decide +kernel
theorem dX0_setQuiet_29 : decode cX0_setQuiet 29 = .ok (.getfield 32, 3) := by decide +kernel
theorem dX0_setQuiet_32 : decode cX0_setQuiet 32 = .ok (.iload_n 1, 1) := by decide +kernel
theorem dX0_setQuiet_33 : decode cX0_setQuiet 33 = .ok (.iload_n 3, 1) := by decide +kernel
theorem dX0_setQuiet_34 : decode cX0_setQuiet 34 = .ok (.iastore, 1) := by decide +kernel
theorem dX0_setQuiet_35 : decode cX0_setQuiet 35 = .ok (.aload_n 0, 1) := by decide +kernel
theorem dX0_setQuiet_36 : decode cX0_setQuiet 36 = .ok (.invokevirtual 92, 3) := by decide +kernel
theorem dX0_setQuiet_39 : decode cX0_setQuiet 39 = .ok (.ireturn, 1) := by decide +kernel
set_option maxRecDepth 20000 in
theorem ggX0_join_X0_requireDevice : GoodIn wsX0_join wsX0_requireDevice := goodIn_ca (goodIn_r _ [6, 7, 8, 9, 24, 25, 26, 27, 28, 29, 30, 31, 32, 33, 34, 35, 36, 37, 38, 39, 40, 41, 42] (by decide +kernel) (by decide +kernel)) (goodIn_sub (fun _ h => List.mem_cons_of_mem _ (List.mem_append_left _ (List.mem_append_right _ h))) (by decide +kernel))
set_option maxRecDepth 20000 in
theorem gX0_join_X0_requireDevice : GoodIn wsX0_join (wsV RX0 84 RX0 yX0_requireDevice wsX0_requireDevice) := goodIn_app (goodIn_of _ (by decide +kernel)) ggX0_join_X0_requireDevice
set_option maxRecDepth 20000 in
theorem ggX0_join_X0_requireWithin : GoodIn wsX0_join wsX0_requireWithin := goodIn_ca (goodIn_r _ [12, 13, 14] (by decide +kernel) (by decide +kernel)) (goodIn_sub (fun _ h => List.mem_cons_of_mem _ (List.mem_append_right _ h)) (by decide +kernel))
set_option maxRecDepth 20000 in
theorem gX0_join_X0_requireWithin : GoodIn wsX0_join (va_wsS RX0 69 yX0_requireWithin wsX0_requireWithin) := goodIn_app (goodIn_of _ (by decide +kernel)) ggX0_join_X0_requireWithin
set_option maxRecDepth 20000 in
theorem ggX0_join_X0_has : GoodIn wsX0_join wsX0_has := goodIn_r _ [17, 18, 19, 5, 20] (by decide +kernel) (by decide +kernel)
set_option maxRecDepth 20000 in
theorem gX0_join_X0_has : GoodIn wsX0_join (va_wsS RX0 96 yX0_has wsX0_has) := goodIn_app (goodIn_of _ (by decide +kernel)) ggX0_join_X0_has
set_option maxRecDepth 20000 in
theorem ggX0_join_X0_changed : GoodIn wsX0_join wsX0_changed := goodIn_r _ [23, 18, 19, 5, 20] (by decide +kernel) (by decide +kernel)
set_option maxRecDepth 20000 in
theorem gX0_join_X0_changed : GoodIn wsX0_join (va_wsS RX0 88 yX0_changed wsX0_changed) := goodIn_app (goodIn_of _ (by decide +kernel)) ggX0_join_X0_changed
theorem dX0_join_0 : decode cX0_join 0 = .ok (.aload_n 0, 1) := by decide +kernel
theorem dX0_join_1 : decode cX0_join 1 = .ok (.iload_n 1, 1) := by decide +kernel
theorem dX0_join_2 : decode cX0_join 2 = .ok (.invokevirtual 84, 3) := by decide +kernel
theorem dX0_join_5 : decode cX0_join 5 = .ok (.iload_n 2, 1) := by decide +kernel
theorem dX0_join_6 : decode cX0_join 6 = .ok (.iconst 0, 1) := by decide +kernel
theorem dX0_join_7 : decode cX0_join 7 = .ok (.iconst 5, 1) := by decide +kernel
theorem dX0_join_8 : decode cX0_join 8 = .ok (.invokestatic 69, 3) := by decide +kernel
theorem dX0_join_11 : decode cX0_join 11 = .ok (.aload_n 0, 1) := by decide +kernel
theorem dX0_join_12 : decode cX0_join 12 = .ok (.getfield 13, 3) := by decide +kernel
theorem dX0_join_15 : decode cX0_join 15 = .ok (.iload_n 2, 1) := by decide +kernel
theorem dX0_join_16 : decode cX0_join 16 = .ok (.iaload, 1) := by decide +kernel
theorem dX0_join_17 : decode cX0_join 17 = .ok (.iload_n 1, 1) := by decide +kernel
theorem dX0_join_18 : decode cX0_join 18 = .ok (.invokestatic 96, 3) := by decide +kernel
theorem dX0_join_21 : decode cX0_join 21 = .ok (.istore 4, 2) := by decide +kernel
theorem dX0_join_23 : decode cX0_join 23 = .ok (.aload_n 0, 1) := by decide +kernel
theorem dX0_join_24 : decode cX0_join 24 = .ok (.getfield 13, 3) := by decide +kernel
theorem dX0_join_27 : decode cX0_join 27 = .ok (.iload_n 2, 1) := by decide +kernel
theorem dX0_join_28 : decode cX0_join 28 = .ok (.aload_n 0, 1) := by decide +kernel
theorem dX0_join_29 : decode cX0_join 29 = .ok (.getfield 13, 3) := by decide +kernel
theorem dX0_join_32 : decode cX0_join 32 = .ok (.iload_n 2, 1) := by decide +kernel
theorem dX0_join_33 : decode cX0_join 33 = .ok (.iaload, 1) := by decide +kernel
theorem dX0_join_34 : decode cX0_join 34 = .ok (.iload_n 1, 1) := by decide +kernel
theorem dX0_join_35 : decode cX0_join 35 = .ok (.iload_n 3, 1) := by decide +kernel
theorem dX0_join_36 : decode cX0_join 36 = .ok (.invokestatic 88, 3) := by decide +kernel
theorem dX0_join_39 : decode cX0_join 39 = .ok (.iastore, 1) := by decide +kernel
theorem dX0_join_40 : decode cX0_join 40 = .ok (.iload 4, 2) := by decide +kernel
theorem dX0_join_42 : decode cX0_join 42 = .ok (.ireturn, 1) := by decide +kernel
set_option maxRecDepth 20000 in
theorem ggX0_kill_X0_requireDevice : GoodIn wsX0_kill wsX0_requireDevice := goodIn_ca (goodIn_r _ [10, 11, 12, 13, 37, 38, 39, 40, 41, 42, 43, 44, 45, 46, 47, 48, 49, 50, 51, 52, 53, 54, 55] (by decide +kernel) (by decide +kernel)) (goodIn_sub (fun _ h => List.mem_cons_of_mem _ (List.mem_append_right _ h)) (by decide +kernel))
set_option maxRecDepth 20000 in
theorem gX0_kill_X0_requireDevice : GoodIn wsX0_kill (wsV RX0 84 RX0 yX0_requireDevice wsX0_requireDevice) := goodIn_app (goodIn_of _ (by decide +kernel)) ggX0_kill_X0_requireDevice
set_option maxRecDepth 20000 in
theorem ggX0_kill_X0_has : GoodIn wsX0_kill wsX0_has := goodIn_r _ [16, 17, 18, 9, 19] (by decide +kernel) (by decide +kernel)
set_option maxRecDepth 20000 in
theorem gX0_kill_X0_has : GoodIn wsX0_kill (va_wsS RX0 96 yX0_has wsX0_has) := goodIn_app (goodIn_of _ (by decide +kernel)) ggX0_kill_X0_has
set_option maxRecDepth 20000 in
theorem ggX0_kill_X0_countWaiting : GoodIn wsX0_kill wsX0_countWaiting := goodIn_r _ [23, 4, 24, 25, 26, 9, 27, 5, 28, 29, 30, 31, 32, 33, 14, 15, 16, 17, 18, 19, 37, 38, 39, 40, 41, 42, 43, 44, 45, 46, 47, 48, 49, 50, 51, 52, 53, 54, 55] (by decide +kernel) (by decide +kernel)
set_option maxRecDepth 20000 in
theorem gX0_kill_X0_countWaiting : GoodIn wsX0_kill (wsV RX0 102 RX0 yX0_countWaiting wsX0_countWaiting) := goodIn_app (goodIn_of _ (by decide +kernel)) ggX0_kill_X0_countWaiting
set_option maxRecDepth 20000 in
theorem ggX0_kill_X0_changed : GoodIn wsX0_kill wsX0_changed := goodIn_r _ [36, 17, 18, 9, 19] (by decide +kernel) (by decide +kernel)
set_option maxRecDepth 20000 in
theorem gX0_kill_X0_changed : GoodIn wsX0_kill (va_wsS RX0 88 yX0_changed wsX0_changed) := goodIn_app (goodIn_of _ (by decide +kernel)) ggX0_kill_X0_changed
theorem dX0_kill_0 : decode cX0_kill 0 = .ok (.aload_n 0, 1) := by decide +kernel
theorem dX0_kill_1 : decode cX0_kill 1 = .ok (.iload_n 1, 1) := by decide +kernel
theorem dX0_kill_2 : decode cX0_kill 2 = .ok (.invokevirtual 84, 3) := by decide +kernel
theorem dX0_kill_5 : decode cX0_kill 5 = .ok (.aload_n 0, 1) := by decide +kernel
theorem dX0_kill_6 : decode cX0_kill 6 = .ok (.getfield 16, 3) := by decide +kernel
theorem dX0_kill_9 : decode cX0_kill 9 = .ok (.iload_n 1, 1) := by decide +kernel
theorem dX0_kill_10 : decode cX0_kill 10 = .ok (.invokestatic 96, 3) := by decide +kernel
theorem dX0_kill_13 : decode cX0_kill 13 = .ok (.ifCond .ne 13, 3) := by decide +kernel
theorem dX0_kill_16 : decode cX0_kill 16 = .ok (.new 73, 3) := by decide +kernel
theorem dX0_kill_19 : decode cX0_kill 19 = .ok (.dup, 1) := by decide +kernel
theorem dX0_kill_20 : decode cX0_kill 20 = .ok (.ldc 100, 2) := by decide +kernel
theorem dX0_kill_22 : decode cX0_kill 22 = .ok (.invokespecial 77, 3) := by decide +kernel
theorem dX0_kill_25 : decode cX0_kill 25 = .ok (.athrow, 1) := by decide +kernel
theorem dX0_kill_26 : decode cX0_kill 26 = .ok (.aload_n 0, 1) := by decide +kernel
theorem dX0_kill_27 : decode cX0_kill 27 = .ok (.iload_n 1, 1) := by decide +kernel
theorem dX0_kill_28 : decode cX0_kill 28 = .ok (.invokevirtual 102, 3) := by decide +kernel
theorem dX0_kill_31 : decode cX0_kill 31 = .ok (.istore_n 2, 1) := by decide +kernel
theorem dX0_kill_32 : decode cX0_kill 32 = .ok (.aload_n 0, 1) := by decide +kernel
theorem dX0_kill_33 : decode cX0_kill 33 = .ok (.aload_n 0, 1) := by decide +kernel
theorem dX0_kill_34 : decode cX0_kill 34 = .ok (.getfield 16, 3) := by decide +kernel
theorem dX0_kill_37 : decode cX0_kill 37 = .ok (.iload_n 1, 1) := by decide +kernel
theorem dX0_kill_38 : decode cX0_kill 38 = .ok (.iconst 0, 1) := by decide +kernel
theorem dX0_kill_39 : decode cX0_kill 39 = .ok (.invokestatic 88, 3) := by decide +kernel
theorem dX0_kill_42 : decode cX0_kill 42 = .ok (.putfield 16, 3) := by decide +kernel
theorem dX0_kill_45 : decode cX0_kill 45 = .ok (.iconst 0, 1) := by decide +kernel
theorem dX0_kill_46 : decode cX0_kill 46 = .ok (.istore_n 3, 1) := by decide +kernel
theorem dX0_kill_47 : decode cX0_kill 47 = .ok (.iload_n 3, 1) := by decide +kernel
theorem dX0_kill_48 : decode cX0_kill 48 = .ok (.aload_n 0, 1) := by decide +kernel
theorem dX0_kill_49 : decode cX0_kill 49 = .ok (.getfield 60, 3) := by decide +kernel
theorem dX0_kill_52 : decode cX0_kill 52 = .ok (.if_icmp .ge 26, 3) := by decide +kernel
theorem dX0_kill_55 : decode cX0_kill 55 = .ok (.aload_n 0, 1) := by decide +kernel
theorem dX0_kill_56 : decode cX0_kill 56 = .ok (.getfield 51, 3) := by decide +kernel
theorem dX0_kill_59 : decode cX0_kill 59 = .ok (.iload_n 3, 1) := by decide +kernel
theorem dX0_kill_60 : decode cX0_kill 60 = .ok (.aload_n 0, 1) := by decide +kernel
theorem dX0_kill_61 : decode cX0_kill 61 = .ok (.getfield 51, 3) := by decide +kernel
theorem dX0_kill_64 : decode cX0_kill 64 = .ok (.iload_n 3, 1) := by decide +kernel
theorem dX0_kill_65 : decode cX0_kill 65 = .ok (.iaload, 1) := by decide +kernel
theorem dX0_kill_66 : decode cX0_kill 66 = .ok (.iload_n 1, 1) := by decide +kernel
theorem dX0_kill_67 : decode cX0_kill 67 = .ok (.iconst 0, 1) := by decide +kernel
theorem dX0_kill_68 : decode cX0_kill 68 = .ok (.invokestatic 88, 3) := by decide +kernel
theorem dX0_kill_71 : decode cX0_kill 71 = .ok (.iastore, 1) := by decide +kernel
theorem dX0_kill_72 : decode cX0_kill 72 = .ok (.iinc 3 1, 3) := by decide +kernel
theorem dX0_kill_75 : decode cX0_kill 75 = .ok (.goto (-28), 3) := by decide +kernel
theorem dX0_kill_78 : decode cX0_kill 78 = .ok (.iload_n 2, 1) := by decide +kernel
theorem dX0_kill_79 : decode cX0_kill 79 = .ok (.ireturn, 1) := by decide +kernel
theorem dX0_devices_0 : decode cX0_devices 0 = .ok (.aload_n 0, 1) := by decide +kernel
theorem dX0_devices_1 : decode cX0_devices 1 = .ok (.getfield 41, 3) := by decide +kernel
theorem dX0_devices_4 : decode cX0_devices 4 = .ok (.ireturn, 1) := by decide +kernel
set_option maxRecDepth 20000 in
theorem ggX0_isQuiet_X0_requireDevice : GoodIn wsX0_isQuiet wsX0_requireDevice := goodIn_ca (goodIn_r _ [5, 6, 7, 8, 25, 26, 27, 28, 29, 30, 31, 32, 33, 34, 35, 36, 37, 38, 39, 40, 41, 42, 43] (by decide +kernel) (by decide +kernel)) (goodIn_sub (fun _ h => List.mem_cons_of_mem _ (List.mem_append_right _ h)) (by decide +kernel))
set_option maxRecDepth 20000 in
theorem gX0_isQuiet_X0_requireDevice : GoodIn wsX0_isQuiet (wsV RX0 84 RX0 yX0_requireDevice wsX0_requireDevice) := goodIn_app (goodIn_of _ (by decide +kernel)) ggX0_isQuiet_X0_requireDevice
set_option maxRecDepth 20000 in
theorem ggX0_isQuiet_X0_isInQuietHours : GoodIn wsX0_isQuiet wsX0_isInQuietHours := goodIn_r _ [12, 13, 14, 15, 16, 17, 4, 18, 19, 20, 21, 22, 23, 24, 25, 26, 27, 28, 29, 30, 31, 32, 33, 34, 35, 36, 37, 38, 39, 40, 41, 42, 43] (by decide +kernel) (by decide +kernel)
set_option maxRecDepth 20000 in
theorem gX0_isQuiet_X0_isInQuietHours : GoodIn wsX0_isQuiet (wsV RX0 105 RX0 yX0_isInQuietHours wsX0_isInQuietHours) := goodIn_app (goodIn_of _ (by decide +kernel)) ggX0_isQuiet_X0_isInQuietHours
theorem dX0_isQuiet_0 : decode cX0_isQuiet 0 = .ok (.aload_n 0, 1) := by decide +kernel
theorem dX0_isQuiet_1 : decode cX0_isQuiet 1 = .ok (.iload_n 1, 1) := by decide +kernel
theorem dX0_isQuiet_2 : decode cX0_isQuiet 2 = .ok (.invokevirtual 84, 3) := by decide +kernel
theorem dX0_isQuiet_5 : decode cX0_isQuiet 5 = .ok (.aload_n 0, 1) := by decide +kernel
theorem dX0_isQuiet_6 : decode cX0_isQuiet 6 = .ok (.iload_n 1, 1) := by decide +kernel
theorem dX0_isQuiet_7 : decode cX0_isQuiet 7 = .ok (.invokevirtual 105, 3) := by decide +kernel
theorem dX0_isQuiet_10 : decode cX0_isQuiet 10 = .ok (.ireturn, 1) := by decide +kernel
set_option maxRecDepth 20000 in
theorem ggX0_send_X0_requireWithin : GoodIn wsX0_send wsX0_requireWithin := goodIn_ca (goodIn_r _ [5, 6, 7] (by decide +kernel) (by decide +kernel)) (goodIn_sub (fun _ h => List.mem_cons_of_mem _ (List.mem_append_left _ (List.mem_append_right _ h))) (by decide +kernel))
set_option maxRecDepth 20000 in
theorem gX0_send_X0_requireWithin : GoodIn wsX0_send (va_wsS RX0 69 yX0_requireWithin wsX0_requireWithin) := goodIn_app (goodIn_of _ (by decide +kernel)) ggX0_send_X0_requireWithin
set_option maxRecDepth 20000 in
theorem ggX0_send_X0_requireRoomForNotice : GoodIn wsX0_send wsX0_requireRoomForNotice := goodIn_ca (goodIn_r _ [11, 12, 13, 14, 106, 107, 108, 109, 110, 111, 112, 113, 114, 115, 116, 117, 118, 119, 120, 121, 122, 123, 124] (by decide +kernel) (by decide +kernel)) (goodIn_sub (fun _ h => List.mem_cons_of_mem _ (List.mem_append_right _ h)) (by decide +kernel))
set_option maxRecDepth 20000 in
theorem gX0_send_X0_requireRoomForNotice : GoodIn wsX0_send (wsV RX0 109 RX0 yX0_requireRoomForNotice wsX0_requireRoomForNotice) := goodIn_app (goodIn_of _ (by decide +kernel)) ggX0_send_X0_requireRoomForNotice
set_option maxRecDepth 20000 in
theorem ggX0_send_X0_replaceKey : GoodIn wsX0_send wsX0_replaceKey := goodIn_r _ [18, 19, 14, 20, 21, 4, 22, 23, 24, 25, 26, 27, 28, 29, 30, 31, 32, 106, 107, 108, 109, 110, 111, 112, 113, 114, 115, 116, 117, 118, 119, 120, 121, 122, 123, 124] (by decide +kernel) (by decide +kernel)
set_option maxRecDepth 20000 in
theorem gX0_send_X0_replaceKey : GoodIn wsX0_send (wsV RX0 112 RX0 yX0_replaceKey wsX0_replaceKey) := goodIn_app (goodIn_of _ (by decide +kernel)) ggX0_send_X0_replaceKey
set_option maxRecDepth 20000 in
theorem ggX0_send_X0_sendTo : GoodIn wsX0_send wsX0_sendTo := goodIn_r _ [36, 14, 37, 28, 27, 38, 39, 40, 41, 42, 4, 43, 44, 45, 46, 47, 48, 49, 50, 51, 52, 53, 54, 55, 56, 57, 58, 59, 60, 61, 62, 63, 64, 65, 66, 67, 68, 69, 70, 71, 72, 73, 74, 75, 76, 23, 24, 25, 26, 77, 78, 79, 80, 81, 82, 83, 84, 85, 86, 87, 88, 89, 90, 91, 92, 93, 94, 95, 96, 97, 98, 99, 100, 101, 102, 103, 104, 105, 106, 107, 108, 109, 110, 111, 112, 113, 114, 115, 116, 117, 118, 119, 120, 121, 122, 123, 124] (by decide +kernel) (by decide +kernel)
set_option maxRecDepth 20000 in
theorem gX0_send_X0_sendTo : GoodIn wsX0_send (wsV RX0 116 RX0 yX0_sendTo wsX0_sendTo) := goodIn_app (goodIn_of _ (by decide +kernel)) ggX0_send_X0_sendTo
theorem dX0_send_0 : decode cX0_send 0 = .ok (.iload_n 1, 1) := by decide +kernel
theorem dX0_send_1 : decode cX0_send 1 = .ok (.iconst 0, 1) := by decide +kernel
theorem dX0_send_2 : decode cX0_send 2 = .ok (.bipush 7, 2) := by decide +kernel
theorem dX0_send_4 : decode cX0_send 4 = .ok (.invokestatic 69, 3) := by decide +kernel
theorem dX0_send_7 : decode cX0_send 7 = .ok (.iload_n 2, 1) := by decide +kernel
theorem dX0_send_8 : decode cX0_send 8 = .ok (.iconst (-1), 1) := by decide +kernel
theorem dX0_send_9 : decode cX0_send 9 = .ok (.if_icmp .eq 10, 3) := by decide +kernel
theorem dX0_send_12 : decode cX0_send 12 = .ok (.iload_n 2, 1) := by decide +kernel
theorem dX0_send_13 : decode cX0_send 13 = .ok (.iconst 0, 1) := by decide +kernel
theorem dX0_send_14 : decode cX0_send 14 = .ok (.bipush 9, 2) := by decide +kernel
theorem dX0_send_16 : decode cX0_send 16 = .ok (.invokestatic 69, 3) := by decide +kernel
theorem dX0_send_19 : decode cX0_send 19 = .ok (.iload 4, 2) := by decide +kernel
theorem dX0_send_21 : decode cX0_send 21 = .ok (.iconst 1, 1) := by decide +kernel
theorem dX0_send_22 : decode cX0_send 22 = .ok (.sipush 10000, 3) := by decide +kernel
theorem dX0_send_25 : decode cX0_send 25 = .ok (.invokestatic 69, 3) := by decide +kernel
theorem dX0_send_28 : decode cX0_send 28 = .ok (.aload_n 0, 1) := by decide +kernel
theorem dX0_send_29 : decode cX0_send 29 = .ok (.invokevirtual 109, 3) := by decide +kernel
theorem dX0_send_32 : decode cX0_send 32 = .ok (.iload_n 2, 1) := by decide +kernel
theorem dX0_send_33 : decode cX0_send 33 = .ok (.iconst (-1), 1) := by decide +kernel
theorem dX0_send_34 : decode cX0_send 34 = .ok (.if_icmp .eq 9, 3) := by decide +kernel
theorem dX0_send_37 : decode cX0_send 37 = .ok (.aload_n 0, 1) := by decide +kernel
theorem dX0_send_38 : decode cX0_send 38 = .ok (.iload_n 1, 1) := by decide +kernel
theorem dX0_send_39 : decode cX0_send 39 = .ok (.iload_n 2, 1) := by decide +kernel
theorem dX0_send_40 : decode cX0_send 40 = .ok (.invokevirtual 112, 3) := by decide +kernel
theorem dX0_send_43 : decode cX0_send 43 = .ok (.aload_n 0, 1) := by decide +kernel
theorem dX0_send_44 : decode cX0_send 44 = .ok (.aload_n 0, 1) := by decide +kernel
theorem dX0_send_45 : decode cX0_send 45 = .ok (.getfield 9, 3) := by decide +kernel
theorem dX0_send_48 : decode cX0_send 48 = .ok (.iload_n 1, 1) := by decide +kernel
theorem dX0_send_49 : decode cX0_send 49 = .ok (.iaload, 1) := by decide +kernel
theorem dX0_send_50 : decode cX0_send 50 = .ok (.iload_n 3, 1) := by decide +kernel
theorem dX0_send_51 : decode cX0_send 51 = .ok (.iload 4, 2) := by decide +kernel
theorem dX0_send_53 : decode cX0_send 53 = .ok (.invokevirtual 116, 3) := by decide +kernel
theorem dX0_send_56 : decode cX0_send 56 = .ok (.ireturn, 1) := by decide +kernel
set_option maxRecDepth 20000 in
theorem ggX0_sendBy_X0_requireWithin : GoodIn wsX0_sendBy wsX0_requireWithin := goodIn_ca (goodIn_r _ [4, 5, 6] (by decide +kernel) (by decide +kernel)) (goodIn_sub (fun _ h => List.mem_cons_of_mem _ (List.mem_append_left _ (List.mem_append_right _ h))) (by decide +kernel))
set_option maxRecDepth 20000 in
theorem gX0_sendBy_X0_requireWithin : GoodIn wsX0_sendBy (va_wsS RX0 69 yX0_requireWithin wsX0_requireWithin) := goodIn_app (goodIn_of _ (by decide +kernel)) ggX0_sendBy_X0_requireWithin
set_option maxRecDepth 20000 in
theorem ggX0_sendBy_X0_requireRoomForNotice : GoodIn wsX0_sendBy wsX0_requireRoomForNotice := goodIn_ca (goodIn_r _ [10, 11, 12, 13, 98, 99, 100, 101, 102, 103, 104, 105, 106, 107, 108, 109, 110, 111, 112, 113, 114, 115, 116] (by decide +kernel) (by decide +kernel)) (goodIn_sub (fun _ h => List.mem_cons_of_mem _ (List.mem_append_right _ h)) (by decide +kernel))
set_option maxRecDepth 20000 in
theorem gX0_sendBy_X0_requireRoomForNotice : GoodIn wsX0_sendBy (wsV RX0 109 RX0 yX0_requireRoomForNotice wsX0_requireRoomForNotice) := goodIn_app (goodIn_of _ (by decide +kernel)) ggX0_sendBy_X0_requireRoomForNotice
set_option maxRecDepth 20000 in
theorem ggX0_sendBy_X0_devicesThatFulfil : GoodIn wsX0_sendBy wsX0_devicesThatFulfil := goodIn_r _ [17, 18, 98, 99, 100, 101, 102, 103, 104, 105, 106, 107, 108, 109, 110, 111, 112, 113, 114, 115, 116] (by decide +kernel) (by decide +kernel)
set_option maxRecDepth 20000 in
theorem gX0_sendBy_X0_devicesThatFulfil : GoodIn wsX0_sendBy (wsV RX0 120 RX0 yX0_devicesThatFulfil wsX0_devicesThatFulfil) := goodIn_app (goodIn_of _ (by decide +kernel)) ggX0_sendBy_X0_devicesThatFulfil
set_option maxRecDepth 20000 in
theorem ggX0_sendBy_X0_sendTo : GoodIn wsX0_sendBy wsX0_sendTo := goodIn_r _ [22, 13, 23, 24, 25, 26, 27, 28, 29, 30, 3, 31, 32, 33, 34, 35, 36, 37, 38, 39, 40, 41, 42, 43, 44, 45, 46, 47, 48, 49, 50, 51, 52, 53, 54, 55, 56, 57, 58, 59, 60, 61, 62, 63, 64, 65, 66, 67, 68, 69, 70, 71, 72, 73, 74, 75, 76, 77, 78, 79, 80, 81, 82, 83, 84, 85, 86, 87, 88, 89, 90, 91, 92, 93, 94, 95, 96, 97, 98, 99, 100, 101, 102, 103, 104, 105, 106, 107, 108, 109, 110, 111, 112, 113, 114, 115, 116] (by decide +kernel) (by decide +kernel)
set_option maxRecDepth 20000 in
theorem gX0_sendBy_X0_sendTo : GoodIn wsX0_sendBy (wsV RX0 116 RX0 yX0_sendTo wsX0_sendTo) := goodIn_app (goodIn_of _ (by decide +kernel)) ggX0_sendBy_X0_sendTo
theorem dX0_sendBy_0 : decode cX0_sendBy 0 = .ok (.iload_n 1, 1) := by decide +kernel
theorem dX0_sendBy_1 : decode cX0_sendBy 1 = .ok (.iconst 0, 1) := by decide +kernel
theorem dX0_sendBy_2 : decode cX0_sendBy 2 = .ok (.iconst 2, 1) := by decide +kernel
theorem dX0_sendBy_3 : decode cX0_sendBy 3 = .ok (.invokestatic 69, 3) := by decide +kernel
theorem dX0_sendBy_6 : decode cX0_sendBy 6 = .ok (.iload_n 2, 1) := by decide +kernel
theorem dX0_sendBy_7 : decode cX0_sendBy 7 = .ok (.iconst 0, 1) := by decide +kernel
theorem dX0_sendBy_8 : decode cX0_sendBy 8 = .ok (.iconst 5, 1) := by decide +kernel
theorem dX0_sendBy_9 : decode cX0_sendBy 9 = .ok (.invokestatic 69, 3) := by decide +kernel
theorem dX0_sendBy_12 : decode cX0_sendBy 12 = .ok (.iload_n 3, 1) := by decide +kernel
theorem dX0_sendBy_13 : decode cX0_sendBy 13 = .ok (.iconst 0, 1) := by decide +kernel
theorem dX0_sendBy_14 : decode cX0_sendBy 14 = .ok (.iconst 5, 1) := by decide +kernel
theorem dX0_sendBy_15 : decode cX0_sendBy 15 = .ok (.invokestatic 69, 3) := by decide +kernel
theorem dX0_sendBy_18 : decode cX0_sendBy 18 = .ok (.iload 5, 2) := by decide +kernel
theorem dX0_sendBy_20 : decode cX0_sendBy 20 = .ok (.iconst 1, 1) := by decide +kernel
theorem dX0_sendBy_21 : decode cX0_sendBy 21 = .ok (.sipush 10000, 3) := by decide +kernel
theorem dX0_sendBy_24 : decode cX0_sendBy 24 = .ok (.invokestatic 69, 3) := by decide +kernel
theorem dX0_sendBy_27 : decode cX0_sendBy 27 = .ok (.aload_n 0, 1) := by decide +kernel
theorem dX0_sendBy_28 : decode cX0_sendBy 28 = .ok (.invokevirtual 109, 3) := by decide +kernel
theorem dX0_sendBy_31 : decode cX0_sendBy 31 = .ok (.aload_n 0, 1) := by decide +kernel
theorem dX0_sendBy_32 : decode cX0_sendBy 32 = .ok (.aload_n 0, 1) := by decide +kernel
theorem dX0_sendBy_33 : decode cX0_sendBy 33 = .ok (.iload_n 1, 1) := by decide +kernel
theorem dX0_sendBy_34 : decode cX0_sendBy 34 = .ok (.iload_n 2, 1) := by decide +kernel
theorem dX0_sendBy_35 : decode cX0_sendBy 35 = .ok (.iload_n 3, 1) := by decide +kernel
theorem dX0_sendBy_36 : decode cX0_sendBy 36 = .ok (.invokevirtual 120, 3) := by decide +kernel
theorem dX0_sendBy_39 : decode cX0_sendBy 39 = .ok (.iload 4, 2) := by decide +kernel
theorem dX0_sendBy_41 : decode cX0_sendBy 41 = .ok (.iload 5, 2) := by decide +kernel
theorem dX0_sendBy_43 : decode cX0_sendBy 43 = .ok (.invokevirtual 116, 3) := by decide +kernel
theorem dX0_sendBy_46 : decode cX0_sendBy 46 = .ok (.ireturn, 1) := by decide +kernel
set_option maxRecDepth 20000 in
theorem ggX0_read_X0_requireDevice : GoodIn wsX0_read wsX0_requireDevice := goodIn_ca (goodIn_r _ [8, 9, 10, 11, 45, 46, 47, 48, 49, 50, 51, 52, 53, 54, 55, 56, 57, 58, 59, 60, 61, 62, 63] (by decide +kernel) (by decide +kernel)) (goodIn_sub (fun _ h => List.mem_cons_of_mem _ (List.mem_append_right _ h)) (by decide +kernel))
set_option maxRecDepth 20000 in
theorem gX0_read_X0_requireDevice : GoodIn wsX0_read (wsV RX0 84 RX0 yX0_requireDevice wsX0_requireDevice) := goodIn_app (goodIn_of _ (by decide +kernel)) ggX0_read_X0_requireDevice
set_option maxRecDepth 20000 in
theorem ggX0_read_X0_requireNotice : GoodIn wsX0_read wsX0_requireNotice := goodIn_ca (goodIn_r _ [15, 9, 10, 16, 45, 46, 47, 48, 49, 50, 51, 52, 53, 54, 55, 56, 57, 58, 59, 60, 61, 62, 63] (by decide +kernel) (by decide +kernel)) (goodIn_sub (fun _ h => List.mem_cons_of_mem _ (List.mem_append_right _ h)) (by decide +kernel))
set_option maxRecDepth 20000 in
theorem gX0_read_X0_requireNotice : GoodIn wsX0_read (wsV RX0 124 RX0 yX0_requireNotice wsX0_requireNotice) := goodIn_app (goodIn_of _ (by decide +kernel)) ggX0_read_X0_requireNotice
set_option maxRecDepth 20000 in
theorem ggX0_read_X0_has : GoodIn wsX0_read wsX0_has := goodIn_r _ [19, 20, 21, 7, 22] (by decide +kernel) (by decide +kernel)
set_option maxRecDepth 20000 in
theorem gX0_read_X0_has : GoodIn wsX0_read (va_wsS RX0 96 yX0_has wsX0_has) := goodIn_app (goodIn_of _ (by decide +kernel)) ggX0_read_X0_has
set_option maxRecDepth 20000 in
theorem ggX0_read_X0_isStanding : GoodIn wsX0_read wsX0_isStanding := goodIn_r _ [26, 27, 28, 45, 46, 47, 48, 49, 50, 51, 52, 53, 54, 55, 56, 57, 58, 59, 60, 61, 62, 63] (by decide +kernel) (by decide +kernel)
set_option maxRecDepth 20000 in
theorem gX0_read_X0_isStanding : GoodIn wsX0_read (wsV RX0 127 RX0 yX0_isStanding wsX0_isStanding) := goodIn_app (goodIn_of _ (by decide +kernel)) ggX0_read_X0_isStanding
set_option maxRecDepth 20000 in
theorem ggX0_read_X0_waitsNow : GoodIn wsX0_read wsX0_waitsNow := goodIn_r _ [32, 33, 23, 24, 25, 7, 26, 27, 28, 45, 46, 47, 48, 49, 50, 51, 52, 53, 54, 55, 56, 57, 58, 59, 60, 61, 62, 63] (by decide +kernel) (by decide +kernel)
set_option maxRecDepth 20000 in
theorem gX0_read_X0_waitsNow : GoodIn wsX0_read (wsV RX0 132 RX0 yX0_waitsNow wsX0_waitsNow) := goodIn_app (goodIn_of _ (by decide +kernel)) ggX0_read_X0_waitsNow
set_option maxRecDepth 20000 in
theorem ggX0_read_J6_bitCount_0f7a4 : GoodIn wsX0_read wsJ6_bitCount_0f7a4 := goodIn_r _ [37, 38, 39, 40] (by decide +kernel) (by decide +kernel)
set_option maxRecDepth 20000 in
theorem gX0_read_J6_bitCount_0f7a4 : GoodIn wsX0_read (va_wsS RX0 135 yJ6_bitCount_0f7a4 wsJ6_bitCount_0f7a4) := goodIn_app (goodIn_of _ (by decide +kernel)) ggX0_read_J6_bitCount_0f7a4
set_option maxRecDepth 20000 in
theorem ggX0_read_X0_withdraw : GoodIn wsX0_read wsX0_withdraw := goodIn_r _ [44, 28, 27, 45, 46, 47, 48, 49, 50, 51, 52, 53, 54, 55, 56, 57, 58, 59, 60, 61, 62, 63] (by decide +kernel) (by decide +kernel)
set_option maxRecDepth 20000 in
theorem gX0_read_X0_withdraw : GoodIn wsX0_read (wsV RX0 140 RX0 yX0_withdraw wsX0_withdraw) := goodIn_app (goodIn_of _ (by decide +kernel)) ggX0_read_X0_withdraw
theorem dX0_read_0 : decode cX0_read 0 = .ok (.aload_n 0, 1) := by decide +kernel
theorem dX0_read_1 : decode cX0_read 1 = .ok (.iload_n 1, 1) := by decide +kernel
theorem dX0_read_2 : decode cX0_read 2 = .ok (.invokevirtual 84, 3) := by decide +kernel
theorem dX0_read_5 : decode cX0_read 5 = .ok (.aload_n 0, 1) := by decide +kernel
theorem dX0_read_6 : decode cX0_read 6 = .ok (.iload_n 2, 1) := by decide +kernel
theorem dX0_read_7 : decode cX0_read 7 = .ok (.invokevirtual 124, 3) := by decide +kernel
theorem dX0_read_10 : decode cX0_read 10 = .ok (.aload_n 0, 1) := by decide +kernel
theorem dX0_read_11 : decode cX0_read 11 = .ok (.getfield 54, 3) := by decide +kernel
theorem dX0_read_14 : decode cX0_read 14 = .ok (.iload_n 2, 1) := by decide +kernel
theorem dX0_read_15 : decode cX0_read 15 = .ok (.iaload, 1) := by decide +kernel
theorem dX0_read_16 : decode cX0_read 16 = .ok (.iload_n 1, 1) := by decide +kernel
theorem dX0_read_17 : decode cX0_read 17 = .ok (.invokestatic 96, 3) := by decide +kernel
theorem dX0_read_20 : decode cX0_read 20 = .ok (.ifCond .eq 11, 3) := by decide +kernel
theorem dX0_read_23 : decode cX0_read 23 = .ok (.aload_n 0, 1) := by decide +kernel
theorem dX0_read_24 : decode cX0_read 24 = .ok (.iload_n 2, 1) := by decide +kernel
theorem dX0_read_25 : decode cX0_read 25 = .ok (.invokevirtual 127, 3) := by decide +kernel
theorem dX0_read_28 : decode cX0_read 28 = .ok (.ifCond .ne 13, 3) := by decide +kernel
theorem dX0_read_31 : decode cX0_read 31 = .ok (.new 73, 3) := by decide +kernel
theorem dX0_read_34 : decode cX0_read 34 = .ok (.dup, 1) := by decide +kernel
theorem dX0_read_35 : decode cX0_read 35 = .ok (.ldc 130, 2) := by decide +kernel
theorem dX0_read_37 : decode cX0_read 37 = .ok (.invokespecial 77, 3) := by decide +kernel
theorem dX0_read_40 : decode cX0_read 40 = .ok (.athrow, 1) := by decide +kernel
theorem dX0_read_41 : decode cX0_read 41 = .ok (.aload_n 0, 1) := by decide +kernel
theorem dX0_read_42 : decode cX0_read 42 = .ok (.iload_n 2, 1) := by decide +kernel
