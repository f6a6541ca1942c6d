theorem dX1_deliver_65 : decode cX1_deliver 65 = .ok (.iadd, 1) := by decide +kernel
theorem dX1_deliver_66 : decode cX1_deliver 66 = .ok (.iastore, 1) := by decide +kernel
theorem dX1_deliver_67 : decode cX1_deliver 67 = .ok (.aload_n 0, 1) := by decide +kernel
theorem dX1_deliver_68 : decode cX1_deliver 68 = .ok (.getfield 35, 3) := by decide +kernel
theorem dX1_deliver_71 : decode cX1_deliver 71 = .ok (.iload_n 1, 1) := by decide +kernel
theorem dX1_deliver_72 : decode cX1_deliver 72 = .ok (.aload_n 0, 1) := by decide +kernel
theorem dX1_deliver_73 : decode cX1_deliver 73 = .ok (.getfield 76, 3) := by decide +kernel
theorem dX1_deliver_76 : decode cX1_deliver 76 = .ok (.sipush 1440, 3) := by decide +kernel
theorem dX1_deliver_79 : decode cX1_deliver 79 = .ok (.idiv, 1) := by decide +kernel
theorem dX1_deliver_80 : decode cX1_deliver 80 = .ok (.iastore, 1) := by decide +kernel
theorem dX1_deliver_81 : decode cX1_deliver 81 = .ok (.return_, 1) := by decide +kernel
set_option maxRecDepth 20000 in
theorem ggX1_look_X1_can : GoodIn wsX1_look wsX1_can := goodIn_r _ [9, 10, 11, 12, 13, 14, 15, 16, 8, 17, 18, 19, 20, 21, 22, 23, 24, 25, 26, 32, 33, 34, 35, 36, 37, 38, 39, 40, 41, 42, 43, 44, 45, 46, 47, 48, 49, 50, 51, 52, 53] (by decide +kernel) (by decide +kernel)
set_option maxRecDepth 20000 in
theorem gX1_look_X1_can : GoodIn wsX1_look (wsV RX1 90 RX1 yX1_can wsX1_can) := goodIn_app (goodIn_of _ (by decide +kernel)) ggX1_look_X1_can
set_option maxRecDepth 20000 in
theorem ggX1_look_X1_deliver : GoodIn wsX1_look wsX1_deliver := goodIn_r _ [30, 4, 31, 1, 11, 12, 19, 18, 13, 14, 15, 16, 8, 17, 32, 33, 34, 35, 36, 37, 38, 39, 40, 41, 42, 43, 44, 45, 46, 47, 48, 49, 50, 51, 52, 53] (by decide +kernel) (by decide +kernel)
set_option maxRecDepth 20000 in
theorem gX1_look_X1_deliver : GoodIn wsX1_look (wsV RX1 94 RX1 yX1_deliver wsX1_deliver) := goodIn_app (goodIn_of _ (by decide +kernel)) ggX1_look_X1_deliver
theorem dX1_look_0 : decode cX1_look 0 = .ok (.aload_n 0, 1) := by decide +kernel
theorem dX1_look_1 : decode cX1_look 1 = .ok (.getfield 87, 3) := by decide +kernel
theorem dX1_look_4 : decode cX1_look 4 = .ok (.istore_n 1, 1) := by decide +kernel
theorem dX1_look_5 : decode cX1_look 5 = .ok (.iconst 0, 1) := by decide +kernel
theorem dX1_look_6 : decode cX1_look 6 = .ok (.istore_n 2, 1) := by decide +kernel
theorem dX1_look_7 : decode cX1_look 7 = .ok (.iload_n 2, 1) := by decide +kernel
theorem dX1_look_8 : decode cX1_look 8 = .ok (.aload_n 0, 1) := by decide +kernel
theorem dX1_look_9 : decode cX1_look 9 = .ok (.getfield 66, 3) := by decide +kernel
theorem dX1_look_12 : decode cX1_look 12 = .ok (.if_icmp .ge 54, 3) := by decide +kernel
theorem dX1_look_15 : decode cX1_look 15 = .ok (.iconst 0, 1) := by decide +kernel
theorem dX1_look_16 : decode cX1_look 16 = .ok (.istore_n 3, 1) := by decide +kernel
theorem dX1_look_17 : decode cX1_look 17 = .ok (.iload_n 3, 1) := by decide +kernel
theorem dX1_look_18 : decode cX1_look 18 = .ok (.aload_n 0, 1) := by decide +kernel
theorem dX1_look_19 : decode cX1_look 19 = .ok (.getfield 73, 3) := by decide +kernel
theorem dX1_look_22 : decode cX1_look 22 = .ok (.if_icmp .ge 38, 3) := by decide +kernel
theorem dX1_look_25 : decode cX1_look 25 = .ok (.aload_n 0, 1) := by decide +kernel
theorem dX1_look_26 : decode cX1_look 26 = .ok (.getfield 56, 3) := by decide +kernel
theorem dX1_look_29 : decode cX1_look 29 = .ok (.iload_n 3, 1) := by decide +kernel
theorem dX1_look_30 : decode cX1_look 30 = .ok (.iaload, 1) := by decide +kernel
theorem dX1_look_31 : decode cX1_look 31 = .ok (.iload_n 2, 1) := by decide +kernel
theorem dX1_look_32 : decode cX1_look 32 = .ok (.ishr, 1) := by decide +kernel
theorem dX1_look_33 : decode cX1_look 33 = .ok (.iconst 1, 1) := by decide +kernel
theorem dX1_look_34 : decode cX1_look 34 = .ok (.iand, 1) := by decide +kernel
theorem dX1_look_35 : decode cX1_look 35 = .ok (.iconst 1, 1) := by decide +kernel
theorem dX1_look_36 : decode cX1_look 36 = .ok (.if_icmp .ne 18, 3) := by decide +kernel
theorem dX1_look_39 : decode cX1_look 39 = .ok (.aload_n 0, 1) := by decide +kernel
theorem dX1_look_40 : decode cX1_look 40 = .ok (.iload_n 2, 1) := by decide +kernel
theorem dX1_look_41 : decode cX1_look 41 = .ok (.iload_n 3, 1) := by decide +kernel
theorem dX1_look_42 : decode cX1_look 42 = .ok (.invokevirtual 90, 3) := by decide +kernel
theorem dX1_look_45 : decode cX1_look 45 = .ok (.ifCond .eq 9, 3) := by decide +kernel
theorem dX1_look_48 : decode cX1_look 48 = .ok (.aload_n 0, 1) := by decide +kernel
theorem dX1_look_49 : decode cX1_look 49 = .ok (.iload_n 2, 1) := by decide +kernel
theorem dX1_look_50 : decode cX1_look 50 = .ok (.iload_n 3, 1) := by decide +kernel
theorem dX1_look_51 : decode cX1_look 51 = .ok (.invokevirtual 94, 3) := by decide +kernel
theorem dX1_look_54 : decode cX1_look 54 = .ok (.iinc 3 1, 3) := by decide +kernel
theorem dX1_look_57 : decode cX1_look 57 = .ok (.goto (-40), 3) := by decide +kernel
theorem dX1_look_60 : decode cX1_look 60 = .ok (.iinc 2 1, 3) := by decide +kernel
theorem dX1_look_63 : decode cX1_look 63 = .ok (.goto (-56), 3) := by decide +kernel
theorem dX1_look_66 : decode cX1_look 66 = .ok (.aload_n 0, 1) := by decide +kernel
theorem dX1_look_67 : decode cX1_look 67 = .ok (.getfield 87, 3) := by decide +kernel
theorem dX1_look_70 : decode cX1_look 70 = .ok (.iload_n 1, 1) := by decide +kernel
theorem dX1_look_71 : decode cX1_look 71 = .ok (.isub, 1) := by decide +kernel
theorem dX1_look_72 : decode cX1_look 72 = .ok (.ireturn, 1) := by decide +kernel
theorem dX1_end_0 : decode cX1_end 0 = .ok (.aload_n 0, 1) := by decide +kernel
theorem dX1_end_1 : decode cX1_end 1 = .ok (.getfield 53, 3) := by decide +kernel
theorem dX1_end_4 : decode cX1_end 4 = .ok (.iload_n 1, 1) := by decide +kernel
theorem dX1_end_5 : decode cX1_end 5 = .ok (.iconst 1, 1) := by decide +kernel
theorem dX1_end_6 : decode cX1_end 6 = .ok (.bastore, 1) := by decide +kernel
theorem dX1_end_7 : decode cX1_end 7 = .ok (.aload_n 0, 1) := by decide +kernel
theorem dX1_end_8 : decode cX1_end 8 = .ok (.getfield 56, 3) := by decide +kernel
theorem dX1_end_11 : decode cX1_end 11 = .ok (.iload_n 1, 1) := by decide +kernel
theorem dX1_end_12 : decode cX1_end 12 = .ok (.iconst 0, 1) := by decide +kernel
theorem dX1_end_13 : decode cX1_end 13 = .ok (.iastore, 1) := by decide +kernel
theorem dX1_end_14 : decode cX1_end 14 = .ok (.return_, 1) := by decide +kernel
set_option maxRecDepth 20000 in
theorem ggX1_addDevice_X1_in : GoodIn wsX1_addDevice wsX1_in := goodIn_r _ [8] (by decide +kernel) (by decide +kernel)
set_option maxRecDepth 20000 in
theorem gX1_addDevice_X1_in : GoodIn wsX1_addDevice (va_wsS RX1 69 yX1_in wsX1_in) := goodIn_app (goodIn_of _ (by decide +kernel)) ggX1_addDevice_X1_in
set_option maxRecDepth 20000 in
theorem ggX1_addDevice_X1_refused : GoodIn wsX1_addDevice wsX1_refused := goodIn_r _ [12, 13, 14, 15, 16, 17, 18, 19, 20, 21, 22, 23, 24, 25, 26, 27, 28, 29, 30, 31, 32, 33, 34, 35] (by decide +kernel) (by decide +kernel)
set_option maxRecDepth 20000 in
theorem gX1_addDevice_X1_refused : GoodIn wsX1_addDevice (wsV RX1 98 RX1 yX1_refused wsX1_refused) := goodIn_app (goodIn_of _ (by decide +kernel)) ggX1_addDevice_X1_refused
theorem dX1_addDevice_0 : decode cX1_addDevice 0 = .ok (.iload_n 1, 1) := by decide +kernel
theorem dX1_addDevice_1 : decode cX1_addDevice 1 = .ok (.iconst 0, 1) := by decide +kernel
theorem dX1_addDevice_2 : decode cX1_addDevice 2 = .ok (.bipush 7, 2) := by decide +kernel
theorem dX1_addDevice_4 : decode cX1_addDevice 4 = .ok (.invokestatic 69, 3) := by decide +kernel
theorem dX1_addDevice_7 : decode cX1_addDevice 7 = .ok (.ifCond .eq 20, 3) := by decide +kernel
theorem dX1_addDevice_10 : decode cX1_addDevice 10 = .ok (.iload_n 2, 1) := by decide +kernel
theorem dX1_addDevice_11 : decode cX1_addDevice 11 = .ok (.sipush (-720), 3) := by decide +kernel
theorem dX1_addDevice_14 : decode cX1_addDevice 14 = .ok (.sipush 840, 3) := by decide +kernel
theorem dX1_addDevice_17 : decode cX1_addDevice 17 = .ok (.invokestatic 69, 3) := by decide +kernel
theorem dX1_addDevice_20 : decode cX1_addDevice 20 = .ok (.ifCond .eq 7, 3) := by decide +kernel
theorem dX1_addDevice_23 : decode cX1_addDevice 23 = .ok (.iconst 1, 1) := by decide +kernel
theorem dX1_addDevice_24 : decode cX1_addDevice 24 = .ok (.goto 4, 3) := by decide +kernel
theorem dX1_addDevice_27 : decode cX1_addDevice 27 = .ok (.iconst 0, 1) := by decide +kernel
theorem dX1_addDevice_28 : decode cX1_addDevice 28 = .ok (.istore_n 3, 1) := by decide +kernel
theorem dX1_addDevice_29 : decode cX1_addDevice 29 = .ok (.aload_n 0, 1) := by decide +kernel
theorem dX1_addDevice_30 : decode cX1_addDevice 30 = .ok (.iload_n 3, 1) := by decide +kernel
theorem dX1_addDevice_31 : decode cX1_addDevice 31 = .ok (.ifCond .ne 7, 3) := by decide +kernel
theorem dX1_addDevice_34 : decode cX1_addDevice 34 = .ok (.iconst 1, 1) := by decide +kernel
theorem dX1_addDevice_35 : decode cX1_addDevice 35 = .ok (.goto 17, 3) := by decide +kernel
theorem dX1_addDevice_38 : decode cX1_addDevice 38 = .ok (.aload_n 0, 1) := by decide +kernel
theorem dX1_addDevice_39 : decode cX1_addDevice 39 = .ok (.getfield 66, 3) := by decide +kernel
theorem dX1_addDevice_42 : decode cX1_addDevice 42 = .ok (.bipush 16, 2) := by decide +kernel
theorem dX1_addDevice_44 : decode cX1_addDevice 44 = .ok (.if_icmp .ne 7, 3) := by decide +kernel
theorem dX1_addDevice_47 : decode cX1_addDevice 47 = .ok (.iconst 2, 1) := by decide +kernel
theorem dX1_addDevice_48 : decode cX1_addDevice 48 = .ok (.goto 4, 3) := by decide +kernel
theorem dX1_addDevice_51 : decode cX1_addDevice 51 = .ok (.iconst 0, 1) := by decide +kernel
theorem dX1_addDevice_52 : decode cX1_addDevice 52 = .ok (.invokevirtual 98, 3) := by decide +kernel
theorem dX1_addDevice_55 : decode cX1_addDevice 55 = .ok (.ifCond .eq 5, 3) := by decide +kernel
theorem dX1_addDevice_58 : decode cX1_addDevice 58 = .ok (.iconst 0, 1) := by decide +kernel
theorem dX1_addDevice_59 : decode cX1_addDevice 59 = .ok (.ireturn, 1) := by decide +kernel
theorem dX1_addDevice_60 : decode cX1_addDevice 60 = .ok (.aload_n 0, 1) := by decide +kernel
theorem dX1_addDevice_61 : decode cX1_addDevice 61 = .ok (.getfield 7, 3) := by decide +kernel
theorem dX1_addDevice_64 : decode cX1_addDevice 64 = .ok (.aload_n 0, 1) := by decide +kernel
theorem dX1_addDevice_65 : decode cX1_addDevice 65 = .ok (.getfield 66, 3) := by decide +kernel
theorem dX1_addDevice_68 : decode cX1_addDevice 68 = .ok (.iload_n 1, 1) := by decide +kernel
theorem dX1_addDevice_69 : decode cX1_addDevice 69 = .ok (.iastore, 1) := by decide +kernel
theorem dX1_addDevice_70 : decode cX1_addDevice 70 = .ok (.aload_n 0, 1) := by decide +kernel
theorem dX1_addDevice_71 : decode cX1_addDevice 71 = .ok (.getfield 13, 3) := by decide +kernel
theorem dX1_addDevice_74 : decode cX1_addDevice 74 = .ok (.aload_n 0, 1) := by decide +kernel
theorem dX1_addDevice_75 : decode cX1_addDevice 75 = .ok (.getfield 66, 3) := by decide +kernel
theorem dX1_addDevice_78 : decode cX1_addDevice 78 = .ok (.iload_n 2, 1) := by decide +kernel
theorem dX1_addDevice_79 : decode cX1_addDevice 79 = .ok (.iastore, 1) := by decide +kernel
theorem dX1_addDevice_80 : decode cX1_addDevice 80 = .ok (.aload_n 0, 1) := by decide +kernel
theorem dX1_addDevice_81 : decode cX1_addDevice 81 = .ok (.getfield 16, 3) := by decide +kernel
theorem dX1_addDevice_84 : decode cX1_addDevice 84 = .ok (.aload_n 0, 1) := by decide +kernel
theorem dX1_addDevice_85 : decode cX1_addDevice 85 = .ok (.getfield 66, 3) := by decide +kernel
theorem dX1_addDevice_88 : decode cX1_addDevice 88 = .ok (.iconst 1, 1) := by decide +kernel
theorem dX1_addDevice_89 : decode cX1_addDevice 89 = .ok (.bastore, 1) := by decide +kernel
theorem dX1_addDevice_90 : decode cX1_addDevice 90 = .ok (.aload_n 0, 1) := by decide +kernel
theorem dX1_addDevice_91 : decode cX1_addDevice 91 = .ok (.dup, 1) := by decide +kernel
theorem dX1_addDevice_92 : decode cX1_addDevice 92 = .ok (.getfield 66, 3) := by decide +kernel
theorem dX1_addDevice_95 : decode cX1_addDevice 95 = .ok (.iconst 1, 1) := by decide +kernel
theorem dX1_addDevice_96 : decode cX1_addDevice 96 = .ok (.iadd, 1) := by decide +kernel
theorem dX1_addDevice_97 : decode cX1_addDevice 97 = .ok (.putfield 66, 3) := by decide +kernel
theorem dX1_addDevice_100 : decode cX1_addDevice 100 = .ok (.aload_n 0, 1) := by decide +kernel
theorem dX1_addDevice_101 : decode cX1_addDevice 101 = .ok (.getfield 66, 3) := by decide +kernel
theorem dX1_addDevice_104 : decode cX1_addDevice 104 = .ok (.iconst 1, 1) := by decide +kernel
theorem dX1_addDevice_105 : decode cX1_addDevice 105 = .ok (.isub, 1) := by decide +kernel
theorem dX1_addDevice_106 : decode cX1_addDevice 106 = .ok (.ireturn, 1) := by decide +kernel
set_option maxRecDepth 20000 in
theorem ggX1_setOnline_X1_isDevice : GoodIn wsX1_setOnline wsX1_isDevice := goodIn_r _ [6, 7, 8, 9, 5, 10, 48, 49, 50, 51, 52, 53, 54, 55, 56, 57, 58, 59, 60, 61, 62, 63, 64, 65, 66, 67, 68, 69] (by decide +kernel) (by decide +kernel)
set_option maxRecDepth 20000 in
theorem gX1_setOnline_X1_isDevice : GoodIn wsX1_setOnline (wsV RX1 101 RX1 yX1_isDevice wsX1_isDevice) := goodIn_app (goodIn_of _ (by decide +kernel)) ggX1_setOnline_X1_isDevice
set_option maxRecDepth 20000 in
theorem ggX1_setOnline_X1_refused : GoodIn wsX1_setOnline wsX1_refused := goodIn_r _ [14, 15, 48, 49, 50, 51, 52, 53, 54, 55, 56, 57, 58, 59, 60, 61, 62, 63, 64, 65, 66, 67, 68, 69] (by decide +kernel) (by decide +kernel)
set_option maxRecDepth 20000 in
theorem gX1_setOnline_X1_refused : GoodIn wsX1_setOnline (wsV RX1 98 RX1 yX1_refused wsX1_refused) := goodIn_app (goodIn_of _ (by decide +kernel)) ggX1_setOnline_X1_refused
set_option maxRecDepth 20000 in
theorem ggX1_setOnline_X1_look : GoodIn wsX1_setOnline wsX1_look := goodIn_r _ [19, 20, 7, 21, 22, 23, 24, 25, 5, 26, 1, 27, 28, 29, 30, 31, 32, 33, 34, 35, 36, 37, 38, 39, 40, 41, 42, 43, 44, 45, 46, 47, 48, 49, 50, 51, 52, 53, 54, 55, 56, 57, 58, 59, 60, 61, 62, 63, 64, 65, 66, 67, 68, 69] (by decide +kernel) (by decide +kernel)
set_option maxRecDepth 20000 in
theorem gX1_setOnline_X1_look : GoodIn wsX1_setOnline (wsV RX1 104 RX1 yX1_look wsX1_look) := goodIn_app (goodIn_of _ (by decide +kernel)) ggX1_setOnline_X1_look
theorem dX1_setOnline_0 : decode cX1_setOnline 0 = .ok (.aload_n 0, 1) := by decide +kernel
theorem dX1_setOnline_1 : decode cX1_setOnline 1 = .ok (.aload_n 0, 1) := by decide +kernel
theorem dX1_setOnline_2 : decode cX1_setOnline 2 = .ok (.iload_n 1, 1) := by decide +kernel
theorem dX1_setOnline_3 : decode cX1_setOnline 3 = .ok (.invokevirtual 101, 3) := by decide +kernel
theorem dX1_setOnline_6 : decode cX1_setOnline 6 = .ok (.ifCond .eq 7, 3) := by decide +kernel
theorem dX1_setOnline_9 : decode cX1_setOnline 9 = .ok (.iconst 0, 1) := by decide +kernel
theorem dX1_setOnline_10 : decode cX1_setOnline 10 = .ok (.goto 4, 3) := by decide +kernel
theorem dX1_setOnline_13 : decode cX1_setOnline 13 = .ok (.iconst 1, 1) := by decide +kernel
theorem dX1_setOnline_14 : decode cX1_setOnline 14 = .ok (.invokevirtual 98, 3) := by decide +kernel
theorem dX1_setOnline_17 : decode cX1_setOnline 17 = .ok (.ifCond .eq 5, 3) := by decide +kernel
theorem dX1_setOnline_20 : decode cX1_setOnline 20 = .ok (.iconst 0, 1) := by decide +kernel
theorem dX1_setOnline_21 : decode cX1_setOnline 21 = .ok (.ireturn, 1) := by decide +kernel
theorem dX1_setOnline_22 : decode cX1_setOnline 22 = .ok (.aload_n 0, 1) := by decide +kernel
theorem dX1_setOnline_23 : decode cX1_setOnline 23 = .ok (.getfield 16, 3) := by decide +kernel
theorem dX1_setOnline_26 : decode cX1_setOnline 26 = .ok (.iload_n 1, 1) := by decide +kernel
theorem dX1_setOnline_27 : decode cX1_setOnline 27 = .ok (.iload_n 2, 1) := by decide +kernel
theorem dX1_setOnline_28 : decode cX1_setOnline 28 = .ok (.bastore, 1) := by decide +kernel
theorem dX1_setOnline_29 : decode cX1_setOnline 29 = .ok (.aload_n 0, 1) := by decide +kernel
theorem dX1_setOnline_30 : decode cX1_setOnline 30 = .ok (.invokevirtual 104, 3) := by decide +kernel
theorem dX1_setOnline_33 : decode cX1_setOnline 33 = .ok (.ireturn, 1) := by decide +kernel
set_option maxRecDepth 20000 in
theorem ggX1_setDozing_X1_isDevice : GoodIn wsX1_setDozing wsX1_isDevice := goodIn_r _ [6, 7, 8, 9, 5, 10, 48, 49, 50, 51, 52, 53, 54, 55, 56, 57, 58, 59, 60, 61, 62, 63, 64, 65, 66, 67, 68, 69] (by decide +kernel) (by decide +kernel)
set_option maxRecDepth 20000 in
theorem gX1_setDozing_X1_isDevice : GoodIn wsX1_setDozing (wsV RX1 101 RX1 yX1_isDevice wsX1_isDevice) := goodIn_app (goodIn_of _ (by decide +kernel)) ggX1_setDozing_X1_isDevice
set_option maxRecDepth 20000 in
theorem ggX1_setDozing_X1_refused : GoodIn wsX1_setDozing wsX1_refused := goodIn_r _ [14, 15, 48, 49, 50, 51, 52, 53, 54, 55, 56, 57, 58, 59, 60, 61, 62, 63, 64, 65, 66, 67, 68, 69] (by decide +kernel) (by decide +kernel)
set_option maxRecDepth 20000 in
theorem gX1_setDozing_X1_refused : GoodIn wsX1_setDozing (wsV RX1 98 RX1 yX1_refused wsX1_refused) := goodIn_app (goodIn_of _ (by decide +kernel)) ggX1_setDozing_X1_refused
set_option maxRecDepth 20000 in
theorem ggX1_setDozing_X1_look : GoodIn wsX1_setDozing wsX1_look := goodIn_r _ [19, 20, 7, 21, 22, 23, 24, 25, 5, 26, 27, 28, 1, 29, 30, 31, 32, 33, 34, 35, 36, 37, 38, 39, 40, 41, 42, 43, 44, 45, 46, 47, 48, 49, 50, 51, 52, 53, 54, 55, 56, 57, 58, 59, 60, 61, 62, 63, 64, 65, 66, 67, 68, 69] (by decide +kernel) (by decide +kernel)
set_option maxRecDepth 20000 in
theorem gX1_setDozing_X1_look : GoodIn wsX1_setDozing (wsV RX1 104 RX1 yX1_look wsX1_look) := goodIn_app (goodIn_of _ (by decide +kernel)) ggX1_setDozing_X1_look
theorem dX1_setDozing_0 : decode cX1_setDozing 0 = .ok (.aload_n 0, 1) := by decide +kernel
theorem dX1_setDozing_1 : decode cX1_setDozing 1 = .ok (.aload_n 0, 1) := by decide +kernel
theorem dX1_setDozing_2 : decode cX1_setDozing 2 = .ok (.iload_n 1, 1) := by decide +kernel
theorem dX1_setDozing_3 : decode cX1_setDozing 3 = .ok (.invokevirtual 101, 3) := by decide +kernel
theorem dX1_setDozing_6 : decode cX1_setDozing 6 = .ok (.ifCond .eq 7, 3) := by decide +kernel
theorem dX1_setDozing_9 : decode cX1_setDozing 9 = .ok (.iconst 0, 1) := by decide +kernel
theorem dX1_setDozing_10 : decode cX1_setDozing 10 = .ok (.goto 4, 3) := by decide +kernel
theorem dX1_setDozing_13 : decode cX1_setDozing 13 = .ok (.iconst 1, 1) := by decide +kernel
theorem dX1_setDozing_14 : decode cX1_setDozing 14 = .ok (.invokevirtual 98, 3) := by decide +kernel
theorem dX1_setDozing_17 : decode cX1_setDozing 17 = .ok (.ifCond .eq 5, 3) := by decide +kernel
theorem dX1_setDozing_20 : decode cX1_setDozing 20 = .ok (.iconst 0, 1) := by decide +kernel
theorem dX1_setDozing_21 : decode cX1_setDozing 21 = .ok (.ireturn, 1) := by decide +kernel
theorem dX1_setDozing_22 : decode cX1_setDozing 22 = .ok (.aload_n 0, 1) := by decide +kernel
theorem dX1_setDozing_23 : decode cX1_setDozing 23 = .ok (.getfield 20, 3) := by decide +kernel
theorem dX1_setDozing_26 : decode cX1_setDozing 26 = .ok (.iload_n 1, 1) := by decide +kernel
theorem dX1_setDozing_27 : decode cX1_setDozing 27 = .ok (.iload_n 2, 1) := by decide +kernel
theorem dX1_setDozing_28 : decode cX1_setDozing 28 = .ok (.bastore, 1) := by decide +kernel
theorem dX1_setDozing_29 : decode cX1_setDozing 29 = .ok (.aload_n 0, 1) := by decide +kernel
theorem dX1_setDozing_30 : decode cX1_setDozing 30 = .ok (.invokevirtual 104, 3) := by decide +kernel
theorem dX1_setDozing_33 : decode cX1_setDozing 33 = .ok (.ireturn, 1) := by decide +kernel
set_option maxRecDepth 20000 in
theorem ggX1_setQuiet_X1_isDevice : GoodIn wsX1_setQuiet wsX1_isDevice := goodIn_r _ [7, 8, 9, 10, 6, 11, 48, 49, 50, 51, 52, 53, 54, 55, 56, 57, 58, 59, 60, 61, 62, 63, 64, 65, 66, 67, 68, 69] (by decide +kernel) (by decide +kernel)
set_option maxRecDepth 20000 in
theorem gX1_setQuiet_X1_isDevice : GoodIn wsX1_setQuiet (wsV RX1 101 RX1 yX1_isDevice wsX1_isDevice) := goodIn_app (goodIn_of _ (by decide +kernel)) ggX1_setQuiet_X1_isDevice
set_option maxRecDepth 20000 in
theorem ggX1_setQuiet_X1_in : GoodIn wsX1_setQuiet wsX1_in := goodIn_r _ [11] (by decide +kernel) (by decide +kernel)
set_option maxRecDepth 20000 in
theorem gX1_setQuiet_X1_in : GoodIn wsX1_setQuiet (va_wsS RX1 69 yX1_in wsX1_in) := goodIn_app (goodIn_of _ (by decide +kernel)) ggX1_setQuiet_X1_in
set_option maxRecDepth 20000 in
theorem ggX1_setQuiet_X1_refused : GoodIn wsX1_setQuiet wsX1_refused := goodIn_r _ [15, 16, 48, 49, 50, 51, 52, 53, 54, 55, 56, 57, 58, 59, 60, 61, 62, 63, 64, 65, 66, 67, 68, 69] (by decide +kernel) (by decide +kernel)
set_option maxRecDepth 20000 in
theorem gX1_setQuiet_X1_refused : GoodIn wsX1_setQuiet (wsV RX1 98 RX1 yX1_refused wsX1_refused) := goodIn_app (goodIn_of _ (by decide +kernel)) ggX1_setQuiet_X1_refused
set_option maxRecDepth 20000 in
theorem ggX1_setQuiet_X1_look : GoodIn wsX1_setQuiet wsX1_look := goodIn_r _ [20, 21, 8, 22, 23, 24, 25, 26, 6, 27, 28, 29, 30, 31, 32, 33, 34, 35, 36, 37, 38, 39, 40, 41, 42, 1, 2, 43, 44, 45, 46, 47, 48, 49, 50, 51, 52, 53, 54, 55, 56, 57, 58, 59, 60, 61, 62, 63, 64, 65, 66, 67, 68, 69] (by decide +kernel) (by decide +kernel)
set_option maxRecDepth 20000 in
theorem gX1_setQuiet_X1_look : GoodIn wsX1_setQuiet (wsV RX1 104 RX1 yX1_look wsX1_look) := goodIn_app (goodIn_of _ (by decide +kernel)) ggX1_setQuiet_X1_look
theorem dX1_setQuiet_0 : decode cX1_setQuiet 0 = .ok (.aload_n 0, 1) := by decide +kernel
theorem dX1_setQuiet_1 : decode cX1_setQuiet 1 = .ok (.aload_n 0, 1) := by decide +kernel
theorem dX1_setQuiet_2 : decode cX1_setQuiet 2 = .ok (.iload_n 1, 1) := by decide +kernel
theorem dX1_setQuiet_3 : decode cX1_setQuiet 3 = .ok (.invokevirtual 101, 3) := by decide +kernel
theorem dX1_setQuiet_6 : decode cX1_setQuiet 6 = .ok (.ifCond .ne 7, 3) := by decide +kernel
theorem dX1_setQuiet_9 : decode cX1_setQuiet 9 = .ok (.iconst 1, 1) := by decide +kernel
theorem dX1_setQuiet_10 : decode cX1_setQuiet 10 = .ok (.goto 30, 3) := by decide +kernel
theorem dX1_setQuiet_13 : decode cX1_setQuiet 13 = .ok (.iload_n 2, 1) := by decide +kernel
theorem dX1_setQuiet_14 : decode cX1_setQuiet 14 = .ok (.iconst 0, 1) := by decide +kernel
theorem dX1_setQuiet_15 : decode cX1_setQuiet 15 = .ok (.sipush 1439, 3) := by decide +kernel
theorem dX1_setQuiet_18 : decode cX1_setQuiet 18 = .ok (.invokestatic 69, 3) := by decide +kernel
theorem dX1_setQuiet_21 : decode cX1_setQuiet 21 = .ok (.ifCond .eq 18, 3) := by decide +kernel
theorem dX1_setQuiet_24 : decode cX1_setQuiet 24 = .ok (.iload_n 3, 1) := by decide +kernel
theorem dX1_setQuiet_25 : decode cX1_setQuiet 25 = .ok (.iconst 0, 1) := by decide +kernel
theorem dX1_setQuiet_26 : decode cX1_setQuiet 26 = .ok (.sipush 1439, 3) := by decide +kernel
theorem dX1_setQuiet_29 : decode cX1_setQuiet 29 = .ok (.invokestatic 69, 3) := by decide +kernel
theorem dX1_setQuiet_32 : decode cX1_setQuiet 32 = .ok (.ifCond .eq 7, 3) := by decide +kernel
theorem dX1_setQuiet_35 : decode cX1_setQuiet 35 = .ok (.iconst 0, 1) := by decide +kernel
theorem dX1_setQuiet_36 : decode cX1_setQuiet 36 = .ok (.goto 4, 3) := by decide +kernel
theorem dX1_setQuiet_39 : decode cX1_setQuiet 39 = .ok (.iconst 2, 1) := by decide +kernel
theorem dX1_setQuiet_40 : decode cX1_setQuiet 40 = .ok (.invokevirtual 98, 3) := by decide +kernel
theorem dX1_setQuiet_43 : decode cX1_setQuiet 43 = .ok (.ifCond .eq 5, 3) := by decide +kernel
theorem dX1_setQuiet_46 : decode cX1_setQuiet 46 = .ok (.iconst 0, 1) := by decide +kernel
theorem dX1_setQuiet_47 : decode cX1_setQuiet 47 = .ok (.ireturn, 1) := by decide +kernel
theorem dX1_setQuiet_48 : decode cX1_setQuiet 48 = .ok (.aload_n 0, 1) := by decide +kernel
theorem dX1_setQuiet_49 : decode cX1_setQuiet 49 = .ok (.getfield 26, 3) := by decide +kernel
theorem dX1_setQuiet_52 : decode cX1_setQuiet 52 = .ok (.iload_n 1, 1) := by decide +kernel
theorem dX1_setQuiet_53 : decode cX1_setQuiet 53 = .ok (.iload_n 2, 1) := by decide +kernel
theorem dX1_setQuiet_54 : decode cX1_setQuiet 54 = .ok (.iastore, 1) := by decide +kernel
theorem dX1_setQuiet_55 : decode cX1_setQuiet 55 = .ok (.aload_n 0, 1) := by decide +kernel
theorem dX1_setQuiet_56 : decode cX1_setQuiet 56 = .ok (.getfield 29, 3) := by decide +kernel
theorem dX1_setQuiet_59 : decode cX1_setQuiet 59 = .ok (.iload_n 1, 1) := by decide +kernel
theorem dX1_setQuiet_60 : decode cX1_setQuiet 60 = .ok (.iload_n 3, 1) := by decide +kernel
theorem dX1_setQuiet_61 : decode cX1_setQuiet 61 = .ok (.iastore, 1) := by decide +kernel
theorem dX1_setQuiet_62 : decode cX1_setQuiet 62 = .ok (.aload_n 0, 1) := by decide +kernel
theorem dX1_setQuiet_63 : decode cX1_setQuiet 63 = .ok (.invokevirtual 104, 3) := by decide +kernel
theorem dX1_setQuiet_66 : decode cX1_setQuiet 66 = .ok (.ireturn, 1) := by decide +kernel
set_option maxRecDepth 20000 in
theorem ggX1_join_X1_isDevice : GoodIn wsX1_join wsX1_isDevice := goodIn_r _ [6, 7, 8, 9, 5, 10, 16, 17, 18, 19, 20, 21, 22, 23, 24, 25, 26, 27, 28, 29, 30, 31, 32, 33, 34, 35, 36, 37] (by decide +kernel) (by decide +kernel)
set_option maxRecDepth 20000 in
theorem gX1_join_X1_isDevice : GoodIn wsX1_join (wsV RX1 101 RX1 yX1_isDevice wsX1_isDevice) := goodIn_app (goodIn_of _ (by decide +kernel)) ggX1_join_X1_isDevice
set_option maxRecDepth 20000 in
theorem ggX1_join_X1_in : GoodIn wsX1_join wsX1_in := goodIn_r _ [10] (by decide +kernel) (by decide +kernel)
set_option maxRecDepth 20000 in
theorem gX1_join_X1_in : GoodIn wsX1_join (va_wsS RX1 69 yX1_in wsX1_in) := goodIn_app (goodIn_of _ (by decide +kernel)) ggX1_join_X1_in
set_option maxRecDepth 20000 in
theorem ggX1_join_X1_refused : GoodIn wsX1_join wsX1_refused := goodIn_r _ [14, 15, 16, 17, 18, 19, 20, 21, 22, 23, 24, 25, 26, 27, 28, 29, 30, 31, 32, 33, 34, 35, 36, 37] (by decide +kernel) (by decide +kernel)
set_option maxRecDepth 20000 in
theorem gX1_join_X1_refused : GoodIn wsX1_join (wsV RX1 98 RX1 yX1_refused wsX1_refused) := goodIn_app (goodIn_of _ (by decide +kernel)) ggX1_join_X1_refused
theorem dX1_join_0 : decode cX1_join 0 = .ok (.aload_n 0, 1) := by decide +kernel
theorem dX1_join_1 : decode cX1_join 1 = .ok (.aload_n 0, 1) := by decide +kernel
theorem dX1_join_2 : decode cX1_join 2 = .ok (.iload_n 1, 1) := by decide +kernel
theorem dX1_join_3 : decode cX1_join 3 = .ok (.invokevirtual 101, 3) := by decide +kernel
theorem dX1_join_6 : decode cX1_join 6 = .ok (.ifCond .ne 7, 3) := by decide +kernel
theorem dX1_join_9 : decode cX1_join 9 = .ok (.iconst 1, 1) := by decide +kernel
theorem dX1_join_10 : decode cX1_join 10 = .ok (.goto 17, 3) := by decide +kernel
theorem dX1_join_13 : decode cX1_join 13 = .ok (.iload_n 2, 1) := by decide +kernel
theorem dX1_join_14 : decode cX1_join 14 = .ok (.iconst 0, 1) := by decide +kernel
theorem dX1_join_15 : decode cX1_join 15 = .ok (.iconst 5, 1) := by decide +kernel
theorem dX1_join_16 : decode cX1_join 16 = .ok (.invokestatic 69, 3) := by decide +kernel
theorem dX1_join_19 : decode cX1_join 19 = .ok (.ifCond .eq 7, 3) := by decide +kernel
theorem dX1_join_22 : decode cX1_join 22 = .ok (.iconst 0, 1) := by decide +kernel
theorem dX1_join_23 : decode cX1_join 23 = .ok (.goto 4, 3) := by decide +kernel
theorem dX1_join_26 : decode cX1_join 26 = .ok (.iconst 2, 1) := by decide +kernel
theorem dX1_join_27 : decode cX1_join 27 = .ok (.invokevirtual 98, 3) := by decide +kernel
theorem dX1_join_30 : decode cX1_join 30 = .ok (.ifCond .eq 5, 3) := by decide +kernel
theorem dX1_join_33 : decode cX1_join 33 = .ok (.iconst 0, 1) := by decide +kernel
theorem dX1_join_34 : decode cX1_join 34 = .ok (.ireturn, 1) := by decide +kernel
theorem dX1_join_35 : decode cX1_join 35 = .ok (.aload_n 0, 1) := by decide +kernel
theorem dX1_join_36 : decode cX1_join 36 = .ok (.getfield 32, 3) := by decide +kernel
theorem dX1_join_39 : decode cX1_join 39 = .ok (.iload_n 1, 1) := by decide +kernel
theorem dX1_join_40 : decode cX1_join 40 = .ok (.iaload, 1) := by decide +kernel
theorem dX1_join_41 : decode cX1_join 41 = .ok (.iload_n 2, 1) := by decide +kernel
theorem dX1_join_42 : decode cX1_join 42 = .ok (.ishr, 1) := by decide +kernel
theorem dX1_join_43 : decode cX1_join 43 = .ok (.iconst 1, 1) := by decide +kernel
theorem dX1_join_44 : decode cX1_join 44 = .ok (.iand, 1) := by decide +kernel
theorem dX1_join_45 : decode cX1_join 45 = .ok (.iconst 1, 1) := by decide +kernel
theorem dX1_join_46 : decode cX1_join 46 = .ok (.if_icmp .ne 7, 3) := by decide +kernel
theorem dX1_join_49 : decode cX1_join 49 = .ok (.iconst 1, 1) := by decide +kernel
theorem dX1_join_50 : decode cX1_join 50 = .ok (.goto 4, 3) := by decide +kernel
theorem dX1_join_53 : decode cX1_join 53 = .ok (.iconst 0, 1) := by decide +kernel
theorem dX1_join_54 : decode cX1_join 54 = .ok (.istore 4, 2) := by decide +kernel
theorem dX1_join_56 : decode cX1_join 56 = .ok (.aload_n 0, 1) := by decide +kernel
theorem dX1_join_57 : decode cX1_join 57 = .ok (.getfield 32, 3) := by decide +kernel
theorem dX1_join_60 : decode cX1_join 60 = .ok (.iload_n 1, 1) := by decide +kernel
theorem dX1_join_61 : decode cX1_join 61 = .ok (.iload_n 3, 1) := by decide +kernel
theorem dX1_join_62 : decode cX1_join 62 = .ok (.ifCond .eq 16, 3) := by decide +kernel
theorem dX1_join_65 : decode cX1_join 65 = .ok (.aload_n 0, 1) := by decide +kernel
theorem dX1_join_66 : decode cX1_join 66 = .ok (.getfield 32, 3) := by decide +kernel
theorem dX1_join_69 : decode cX1_join 69 = .ok (.iload_n 1, 1) := by decide +kernel
theorem dX1_join_70 : decode cX1_join 70 = .ok (.iaload, 1) := by decide +kernel
theorem dX1_join_71 : decode cX1_join 71 = .ok (.iconst 1, 1) := by decide +kernel
theorem dX1_join_72 : decode cX1_join 72 = .ok (.iload_n 2, 1) := by decide +kernel
theorem dX1_join_73 : decode cX1_join 73 = .ok (.ishl, 1) := by decide +kernel
theorem dX1_join_74 : decode cX1_join 74 = .ok (.ior, 1) := by decide +kernel
theorem dX1_join_75 : decode cX1_join 75 = .ok (.goto 15, 3) := by decide +kernel
theorem dX1_join_78 : decode cX1_join 78 = .ok (.aload_n 0, 1) := by decide +kernel
theorem dX1_join_79 : decode cX1_join 79 = .ok (.getfield 32, 3) := by decide +kernel
theorem dX1_join_82 : decode cX1_join 82 = .ok (.iload_n 1, 1) := by decide +kernel
theorem dX1_join_83 : decode cX1_join 83 = .ok (.iaload, 1) := by decide +kernel
theorem dX1_join_84 : decode cX1_join 84 = .ok (.iconst 1, 1) := by decide +kernel
theorem dX1_join_85 : decode cX1_join 85 = .ok (.iload_n 2, 1) := by decide +kernel
theorem dX1_join_86 : decode cX1_join 86 = .ok (.ishl, 1) := by decide +kernel
theorem dX1_join_87 : decode cX1_join 87 = .ok (.iconst (-1), 1) := by decide +kernel
theorem dX1_join_88 : decode cX1_join 88 = .ok (.ixor, 1) := by decide +kernel
theorem dX1_join_89 : decode cX1_join 89 = .ok (.iand, 1) := by decide +kernel
theorem dX1_join_90 : decode cX1_join 90 = .ok (.iastore, 1) := by decide +kernel
theorem dX1_join_91 : decode cX1_join 91 = .ok (.iload 4, 2) := by decide +kernel
theorem dX1_join_93 : decode cX1_join 93 = .ok (.ireturn, 1) := by decide +kernel
theorem dX1_countWaiting_0 : decode cX1_countWaiting 0 = .ok (.iconst 0, 1) := by decide +kernel
theorem dX1_countWaiting_1 : decode cX1_countWaiting 1 = .ok (.istore_n 2, 1) := by decide +kernel
theorem dX1_countWaiting_2 : decode cX1_countWaiting 2 = .ok (.iconst 0, 1) := by decide +kernel
theorem dX1_countWaiting_3 : decode cX1_countWaiting 3 = .ok (.istore_n 3, 1) := by decide +kernel
theorem dX1_countWaiting_4 : decode cX1_countWaiting 4 = .ok (.iload_n 3, 1) := by decide +kernel
theorem dX1_countWaiting_5 : decode cX1_countWaiting 5 = .ok (.aload_n 0, 1) := by decide +kernel
theorem dX1_countWaiting_6 : decode cX1_countWaiting 6 = .ok (.getfield 73, 3) := by decide +kernel
theorem dX1_countWaiting_9 : decode cX1_countWaiting 9 = .ok (.if_icmp .ge 22, 3) := by decide +kernel
theorem dX1_countWaiting_12 : decode cX1_countWaiting 12 = .ok (.iload_n 2, 1) := by decide +kernel
theorem dX1_countWaiting_13 : decode cX1_countWaiting 13 = .ok (.aload_n 0, 1) := by decide +kernel
theorem dX1_countWaiting_14 : decode cX1_countWaiting 14 = .ok (.getfield 56, 3) := by decide +kernel
theorem dX1_countWaiting_17 : decode cX1_countWaiting 17 = .ok (.iload_n 3, 1) := by decide +kernel
theorem dX1_countWaiting_18 : decode cX1_countWaiting 18 = .ok (.iaload, 1) := by decide +kernel
theorem dX1_countWaiting_19 : decode cX1_countWaiting 19 = .ok (.iload_n 1, 1) := by decide +kernel
theorem dX1_countWaiting_20 : decode cX1_countWaiting 20 = .ok (.ishr, 1) := by decide +kernel
theorem dX1_countWaiting_21 : decode cX1_countWaiting 21 = .ok (.iconst 1, 1) := by decide +kernel
theorem dX1_countWaiting_22 : decode cX1_countWaiting 22 = .ok (.iand, 1) := by decide +kernel
theorem dX1_countWaiting_23 : decode cX1_countWaiting 23 = .ok (.iadd, 1) := by decide +kernel
theorem dX1_countWaiting_24 : decode cX1_countWaiting 24 = .ok (.istore_n 2, 1) := by decide +kernel
theorem dX1_countWaiting_25 : decode cX1_countWaiting 25 = .ok (.iinc 3 1, 3) := by decide +kernel
theorem dX1_countWaiting_28 : decode cX1_countWaiting 28 = .ok (.goto (-24), 3) := by decide +kernel
theorem dX1_countWaiting_31 : decode cX1_countWaiting 31 = .ok (.iload_n 2, 1) := by decide +kernel
theorem dX1_countWaiting_32 : decode cX1_countWaiting 32 = .ok (.ireturn, 1) := by decide +kernel
set_option maxRecDepth 20000 in
theorem ggX1_kill_X1_isDevice : GoodIn wsX1_kill wsX1_isDevice := goodIn_r _ [8, 9, 10, 11, 7, 12, 22, 23, 24, 25, 26, 27, 28, 29, 30, 31, 32, 33, 34, 35, 36, 37, 38, 39, 40, 41, 42, 43] (by decide +kernel) (by decide +kernel)
set_option maxRecDepth 20000 in
theorem gX1_kill_X1_isDevice : GoodIn wsX1_kill (wsV RX1 101 RX1 yX1_isDevice wsX1_isDevice) := goodIn_app (goodIn_of _ (by decide +kernel)) ggX1_kill_X1_isDevice
set_option maxRecDepth 20000 in
theorem ggX1_kill_X1_refused : GoodIn wsX1_kill wsX1_refused := goodIn_r _ [16, 17, 22, 23, 24, 25, 26, 27, 28, 29, 30, 31, 32, 33, 34, 35, 36, 37, 38, 39, 40, 41, 42, 43] (by decide +kernel) (by decide +kernel)
set_option maxRecDepth 20000 in
theorem gX1_kill_X1_refused : GoodIn wsX1_kill (wsV RX1 98 RX1 yX1_refused wsX1_refused) := goodIn_app (goodIn_of _ (by decide +kernel)) ggX1_kill_X1_refused
set_option maxRecDepth 20000 in
theorem ggX1_kill_X1_countWaiting : GoodIn wsX1_kill wsX1_countWaiting := goodIn_r _ [21, 2, 3, 22, 23, 24, 25, 26, 27, 28, 29, 30, 31, 32, 33, 34, 35, 36, 37, 38, 39, 40, 41, 42, 43] (by decide +kernel) (by decide +kernel)
set_option maxRecDepth 20000 in
theorem gX1_kill_X1_countWaiting : GoodIn wsX1_kill (wsV RX1 108 RX1 yX1_countWaiting wsX1_countWaiting) := goodIn_app (goodIn_of _ (by decide +kernel)) ggX1_kill_X1_countWaiting
theorem dX1_kill_0 : decode cX1_kill 0 = .ok (.aload_n 0, 1) := by decide +kernel
theorem dX1_kill_1 : decode cX1_kill 1 = .ok (.aload_n 0, 1) := by decide +kernel
theorem dX1_kill_2 : decode cX1_kill 2 = .ok (.iload_n 1, 1) := by decide +kernel
theorem dX1_kill_3 : decode cX1_kill 3 = .ok (.invokevirtual 101, 3) := by decide +kernel
theorem dX1_kill_6 : decode cX1_kill 6 = .ok (.ifCond .ne 7, 3) := by decide +kernel
theorem dX1_kill_9 : decode cX1_kill 9 = .ok (.iconst 1, 1) := by decide +kernel
theorem dX1_kill_10 : decode cX1_kill 10 = .ok (.goto 17, 3) := by decide +kernel
theorem dX1_kill_13 : decode cX1_kill 13 = .ok (.aload_n 0, 1) := by decide +kernel
theorem dX1_kill_14 : decode cX1_kill 14 = .ok (.getfield 23, 3) := by decide +kernel
theorem dX1_kill_17 : decode cX1_kill 17 = .ok (.iload_n 1, 1) := by decide +kernel
theorem dX1_kill_18 : decode cX1_kill 18 = .ok (.baload, 1) := by decide +kernel
theorem dX1_kill_19 : decode cX1_kill 19 = .ok (.ifCond .eq 7, 3) := by decide +kernel
theorem dX1_kill_22 : decode cX1_kill 22 = .ok (.iconst 2, 1) := by decide +kernel
theorem dX1_kill_23 : decode cX1_kill 23 = .ok (.goto 4, 3) := by decide +kernel
theorem dX1_kill_26 : decode cX1_kill 26 = .ok (.iconst 0, 1) := by decide +kernel
theorem dX1_kill_27 : decode cX1_kill 27 = .ok (.invokevirtual 98, 3) := by decide +kernel
theorem dX1_kill_30 : decode cX1_kill 30 = .ok (.ifCond .eq 5, 3) := by decide +kernel
theorem dX1_kill_33 : decode cX1_kill 33 = .ok (.iconst 0, 1) := by decide +kernel
theorem dX1_kill_34 : decode cX1_kill 34 = .ok (.ireturn, 1) := by decide +kernel
theorem dX1_kill_35 : decode cX1_kill 35 = .ok (.aload_n 0, 1) := by decide +kernel
theorem dX1_kill_36 : decode cX1_kill 36 = .ok (.iload_n 1, 1) := by decide +kernel
theorem dX1_kill_37 : decode cX1_kill 37 = .ok (.invokevirtual 108, 3) := by decide +kernel
theorem dX1_kill_40 : decode cX1_kill 40 = .ok (.istore_n 2, 1) := by decide +kernel
theorem dX1_kill_41 : decode cX1_kill 41 = .ok (.aload_n 0, 1) := by decide +kernel
theorem dX1_kill_42 : decode cX1_kill 42 = .ok (.getfield 23, 3) := by decide +kernel
theorem dX1_kill_45 : decode cX1_kill 45 = .ok (.iload_n 1, 1) := by decide +kernel
theorem dX1_kill_46 : decode cX1_kill 46 = .ok (.iconst 1, 1) := by decide +kernel
theorem dX1_kill_47 : decode cX1_kill 47 = .ok (.bastore, 1) := by decide +kernel
theorem dX1_kill_48 : decode cX1_kill 48 = .ok (.iconst 0, 1) := by decide +kernel
theorem dX1_kill_49 : decode cX1_kill 49 = .ok (.istore_n 3, 1) := by decide +kernel
theorem dX1_kill_50 : decode cX1_kill 50 = .ok (.iload_n 3, 1) := by decide +kernel
theorem dX1_kill_51 : decode cX1_kill 51 = .ok (.aload_n 0, 1) := by decide +kernel
theorem dX1_kill_52 : decode cX1_kill 52 = .ok (.getfield 73, 3) := by decide +kernel
theorem dX1_kill_55 : decode cX1_kill 55 = .ok (.if_icmp .ge 23, 3) := by decide +kernel
theorem dX1_kill_58 : decode cX1_kill 58 = .ok (.aload_n 0, 1) := by decide +kernel
theorem dX1_kill_59 : decode cX1_kill 59 = .ok (.getfield 56, 3) := by decide +kernel
theorem dX1_kill_62 : decode cX1_kill 62 = .ok (.iload_n 3, 1) := by decide +kernel
theorem dX1_kill_63 : decode cX1_kill 63 = .ok (.dup2, 1) := by decide +kernel
theorem dX1_kill_64 : decode cX1_kill 64 = .ok (.iaload, 1) := by decide +kernel
theorem dX1_kill_65 : decode cX1_kill 65 = .ok (.iconst 1, 1) := by decide +kernel
theorem dX1_kill_66 : decode cX1_kill 66 = .ok (.iload_n 1, 1) := by decide +kernel
theorem dX1_kill_67 : decode cX1_kill 67 = .ok (.ishl, 1) := by decide +kernel
theorem dX1_kill_68 : decode cX1_kill 68 = .ok (.iconst (-1), 1) := by decide +kernel
theorem dX1_kill_69 : decode cX1_kill 69 = .ok (.ixor, 1) := by decide +kernel
theorem dX1_kill_70 : decode cX1_kill 70 = .ok (.iand, 1) := by decide +kernel
theorem dX1_kill_71 : decode cX1_kill 71 = .ok (.iastore, 1) := by decide +kernel
theorem dX1_kill_72 : decode cX1_kill 72 = .ok (.iinc 3 1, 3) := by decide +kernel
theorem dX1_kill_75 : decode cX1_kill 75 = .ok (.goto (-25), 3) := by decide +kernel
theorem dX1_kill_78 : decode cX1_kill 78 = .ok (.iload_n 2, 1) := by decide +kernel
theorem dX1_kill_79 : decode cX1_kill 79 = .ok (.ireturn, 1) := by decide +kernel
set_option maxRecDepth 20000 in
theorem ggX1_devices_X1_fine : GoodIn wsX1_devices wsX1_fine := goodIn_r _ [6, 7, 8, 9, 10, 11, 12, 13, 14, 15, 16, 17, 18, 19, 20, 21, 22, 23, 24, 25, 26, 27, 28, 29] (by decide +kernel) (by decide +kernel)
set_option maxRecDepth 20000 in
theorem gX1_devices_X1_fine : GoodIn wsX1_devices (wsV RX1 111 RX1 yX1_fine wsX1_fine) := goodIn_app (goodIn_of _ (by decide +kernel)) ggX1_devices_X1_fine
theorem dX1_devices_0 : decode cX1_devices 0 = .ok (.aload_n 0, 1) := by decide +kernel
theorem dX1_devices_1 : decode cX1_devices 1 = .ok (.aload_n 0, 1) := by decide +kernel
theorem dX1_devices_2 : decode cX1_devices 2 = .ok (.getfield 66, 3) := by decide +kernel
theorem dX1_devices_5 : decode cX1_devices 5 = .ok (.invokevirtual 111, 3) := by decide +kernel
theorem dX1_devices_8 : decode cX1_devices 8 = .ok (.ireturn, 1) := by decide +kernel
set_option maxRecDepth 20000 in
theorem ggX1_isQuiet_X1_isDevice : GoodIn wsX1_isQuiet wsX1_isDevice := goodIn_r _ [5, 6, 7, 8, 4, 9, 23, 24, 25, 26, 27, 28, 29, 30, 31, 32, 33, 34, 35, 36, 37, 38, 39, 40, 41, 42, 43, 44] (by decide +kernel) (by decide +kernel)
set_option maxRecDepth 20000 in
theorem gX1_isQuiet_X1_isDevice : GoodIn wsX1_isQuiet (wsV RX1 101 RX1 yX1_isDevice wsX1_isDevice) := goodIn_app (goodIn_of _ (by decide +kernel)) ggX1_isQuiet_X1_isDevice
set_option maxRecDepth 20000 in
theorem ggX1_isQuiet_X1_refused : GoodIn wsX1_isQuiet wsX1_refused := goodIn_r _ [13, 14, 23, 24, 25, 26, 27, 28, 29, 30, 31, 32, 33, 34, 35, 36, 37, 38, 39, 40, 41, 42, 43, 44] (by decide +kernel) (by decide +kernel)
set_option maxRecDepth 20000 in
theorem gX1_isQuiet_X1_refused : GoodIn wsX1_isQuiet (wsV RX1 98 RX1 yX1_refused wsX1_refused) := goodIn_app (goodIn_of _ (by decide +kernel)) ggX1_isQuiet_X1_refused
set_option maxRecDepth 20000 in
theorem ggX1_isQuiet_X1_isQuietNow : GoodIn wsX1_isQuiet wsX1_isQuietNow := goodIn_r _ [18, 19, 20, 21, 22, 23, 24, 25, 26, 27, 28, 29, 30, 31, 32, 33, 34, 35, 36, 37, 38, 39, 40, 41, 42, 43, 44] (by decide +kernel) (by decide +kernel)
set_option maxRecDepth 20000 in
theorem gX1_isQuiet_X1_isQuietNow : GoodIn wsX1_isQuiet (wsV RX1 83 RX1 yX1_isQuietNow wsX1_isQuietNow) := goodIn_app (goodIn_of _ (by decide +kernel)) ggX1_isQuiet_X1_isQuietNow
theorem dX1_isQuiet_0 : decode cX1_isQuiet 0 = .ok (.aload_n 0, 1) := by decide +kernel
theorem dX1_isQuiet_1 : decode cX1_isQuiet 1 = .ok (.aload_n 0, 1) := by decide +kernel
theorem dX1_isQuiet_2 : decode cX1_isQuiet 2 = .ok (.iload_n 1, 1) := by decide +kernel
theorem dX1_isQuiet_3 : decode cX1_isQuiet 3 = .ok (.invokevirtual 101, 3) := by decide +kernel
theorem dX1_isQuiet_6 : decode cX1_isQuiet 6 = .ok (.ifCond .eq 7, 3) := by decide +kernel
theorem dX1_isQuiet_9 : decode cX1_isQuiet 9 = .ok (.iconst 0, 1) := by decide +kernel
theorem dX1_isQuiet_10 : decode cX1_isQuiet 10 = .ok (.goto 4, 3) := by decide +kernel
theorem dX1_isQuiet_13 : decode cX1_isQuiet 13 = .ok (.iconst 1, 1) := by decide +kernel
theorem dX1_isQuiet_14 : decode cX1_isQuiet 14 = .ok (.invokevirtual 98, 3) := by decide +kernel
theorem dX1_isQuiet_17 : decode cX1_isQuiet 17 = .ok (.ifCond .ne 15, 3) := by decide +kernel
theorem dX1_isQuiet_20 : decode cX1_isQuiet 20 = .ok (.aload_n 0, 1) := by decide +kernel
theorem dX1_isQuiet_21 : decode cX1_isQuiet 21 = .ok (.iload_n 1, 1) := by decide +kernel
theorem dX1_isQuiet_22 : decode cX1_isQuiet 22 = .ok (.invokevirtual 83, 3) := by decide +kernel
theorem dX1_isQuiet_25 : decode cX1_isQuiet 25 = .ok (.ifCond .eq 7, 3) := by decide +kernel
theorem dX1_isQuiet_28 : decode cX1_isQuiet 28 = .ok (.iconst 1, 1) := by decide +kernel
theorem dX1_isQuiet_29 : decode cX1_isQuiet 29 = .ok (.goto 4, 3) := by decide +kernel
theorem dX1_isQuiet_32 : decode cX1_isQuiet 32 = .ok (.iconst 0, 1) := by decide +kernel
theorem dX1_isQuiet_33 : decode cX1_isQuiet 33 = .ok (.ireturn, 1) := by decide +kernel
theorem dX1_standingNow_0 : decode cX1_standingNow 0 = .ok (.iconst (-1), 1) := by decide +kernel
theorem dX1_standingNow_1 : decode cX1_standingNow 1 = .ok (.istore_n 3, 1) := by decide +kernel
theorem dX1_standingNow_2 : decode cX1_standingNow 2 = .ok (.iconst 0, 1) := by decide +kernel
theorem dX1_standingNow_3 : decode cX1_standingNow 3 = .ok (.istore 4, 2) := by decide +kernel
theorem dX1_standingNow_5 : decode cX1_standingNow 5 = .ok (.iload 4, 2) := by decide +kernel
theorem dX1_standingNow_7 : decode cX1_standingNow 7 = .ok (.aload_n 0, 1) := by decide +kernel
theorem dX1_standingNow_8 : decode cX1_standingNow 8 = .ok (.getfield 73, 3) := by decide +kernel
theorem dX1_standingNow_11 : decode cX1_standingNow 11 = .ok (.if_icmp .ge 48, 3) := by decide +kernel
theorem dX1_standingNow_14 : decode cX1_standingNow 14 = .ok (.aload_n 0, 1) := by decide +kernel
theorem dX1_standingNow_15 : decode cX1_standingNow 15 = .ok (.getfield 47, 3) := by decide +kernel
theorem dX1_standingNow_18 : decode cX1_standingNow 18 = .ok (.iload 4, 2) := by decide +kernel
theorem dX1_standingNow_20 : decode cX1_standingNow 20 = .ok (.iaload, 1) := by decide +kernel
theorem dX1_standingNow_21 : decode cX1_standingNow 21 = .ok (.iload_n 1, 1) := by decide +kernel
theorem dX1_standingNow_22 : decode cX1_standingNow 22 = .ok (.if_icmp .ne 29, 3) := by decide +kernel
theorem dX1_standingNow_25 : decode cX1_standingNow 25 = .ok (.aload_n 0, 1) := by decide +kernel
theorem dX1_standingNow_26 : decode cX1_standingNow 26 = .ok (.getfield 50, 3) := by decide +kernel
theorem dX1_standingNow_29 : decode cX1_standingNow 29 = .ok (.iload 4, 2) := by decide +kernel
theorem dX1_standingNow_31 : decode cX1_standingNow 31 = .ok (.iaload, 1) := by decide +kernel
theorem dX1_standingNow_32 : decode cX1_standingNow 32 = .ok (.iload_n 2, 1) := by decide +kernel
theorem dX1_standingNow_33 : decode cX1_standingNow 33 = .ok (.if_icmp .ne 18, 3) := by decide +kernel
theorem dX1_standingNow_36 : decode cX1_standingNow 36 = .ok (.aload_n 0, 1) := by decide +kernel
theorem dX1_standingNow_37 : decode cX1_standingNow 37 = .ok (.getfield 53, 3) := by decide +kernel
theorem dX1_standingNow_40 : decode cX1_standingNow 40 = .ok (.iload 4, 2) := by decide +kernel
theorem dX1_standingNow_42 : decode cX1_standingNow 42 = .ok (.baload, 1) := by decide +kernel
theorem dX1_standingNow_43 : decode cX1_standingNow 43 = .ok (.ifCond .ne 8, 3) := by decide +kernel
theorem dX1_standingNow_46 : decode cX1_standingNow 46 = .ok (.iload 4, 2) := by decide +kernel
theorem dX1_standingNow_48 : decode cX1_standingNow 48 = .ok (.goto 4, 3) := by decide +kernel
theorem dX1_standingNow_51 : decode cX1_standingNow 51 = .ok (.iload_n 3, 1) := by decide +kernel
theorem dX1_standingNow_52 : decode cX1_standingNow 52 = .ok (.istore_n 3, 1) := by decide +kernel
theorem dX1_standingNow_53 : decode cX1_standingNow 53 = .ok (.iinc 4 1, 3) := by decide +kernel
theorem dX1_standingNow_56 : decode cX1_standingNow 56 = .ok (.goto (-51), 3) := by decide +kernel
theorem dX1_standingNow_59 : decode cX1_standingNow 59 = .ok (.iload_n 3, 1) := by decide +kernel
theorem dX1_standingNow_60 : decode cX1_standingNow 60 = .ok (.ireturn, 1) := by decide +kernel
set_option maxRecDepth 20000 in
theorem ggX1_add_X1_look : GoodIn wsX1_add wsX1_look := goodIn_r _ [12, 13, 14, 2, 7, 15, 16, 17, 11, 18, 19, 4, 20, 6, 21, 22, 23, 24, 25, 26, 27, 28, 29, 30, 31, 32, 33, 34, 35, 36, 37, 38, 39, 40, 41, 42, 43, 44, 45, 46, 47, 48, 49, 50, 51, 52, 53, 54, 55, 56, 57, 58, 59, 60] (by decide +kernel) (by decide +kernel)
set_option maxRecDepth 20000 in
theorem gX1_add_X1_look : GoodIn wsX1_add (wsV RX1 104 RX1 yX1_look wsX1_look) := goodIn_app (goodIn_of _ (by decide +kernel)) ggX1_add_X1_look
theorem dX1_add_0 : decode cX1_add 0 = .ok (.aload_n 0, 1) := by decide +kernel
theorem dX1_add_1 : decode cX1_add 1 = .ok (.getfield 47, 3) := by decide +kernel
theorem dX1_add_4 : decode cX1_add 4 = .ok (.aload_n 0, 1) := by decide +kernel
theorem dX1_add_5 : decode cX1_add 5 = .ok (.getfield 73, 3) := by decide +kernel
theorem dX1_add_8 : decode cX1_add 8 = .ok (.iload_n 1, 1) := by decide +kernel
theorem dX1_add_9 : decode cX1_add 9 = .ok (.iastore, 1) := by decide +kernel
theorem dX1_add_10 : decode cX1_add 10 = .ok (.aload_n 0, 1) := by decide +kernel
theorem dX1_add_11 : decode cX1_add 11 = .ok (.getfield 50, 3) := by decide +kernel
theorem dX1_add_14 : decode cX1_add 14 = .ok (.aload_n 0, 1) := by decide +kernel
theorem dX1_add_15 : decode cX1_add 15 = .ok (.getfield 73, 3) := by decide +kernel
theorem dX1_add_18 : decode cX1_add 18 = .ok (.iload_n 2, 1) := by decide +kernel
theorem dX1_add_19 : decode cX1_add 19 = .ok (.iastore, 1) := by decide +kernel
theorem dX1_add_20 : decode cX1_add 20 = .ok (.aload_n 0, 1) := by decide +kernel
theorem dX1_add_21 : decode cX1_add 21 = .ok (.getfield 41, 3) := by decide +kernel
theorem dX1_add_24 : decode cX1_add 24 = .ok (.aload_n 0, 1) := by decide +kernel
theorem dX1_add_25 : decode cX1_add 25 = .ok (.getfield 73, 3) := by decide +kernel
theorem dX1_add_28 : decode cX1_add 28 = .ok (.iload_n 3, 1) := by decide +kernel
theorem dX1_add_29 : decode cX1_add 29 = .ok (.bastore, 1) := by decide +kernel
theorem dX1_add_30 : decode cX1_add 30 = .ok (.aload_n 0, 1) := by decide +kernel
theorem dX1_add_31 : decode cX1_add 31 = .ok (.getfield 44, 3) := by decide +kernel
theorem dX1_add_34 : decode cX1_add 34 = .ok (.aload_n 0, 1) := by decide +kernel
theorem dX1_add_35 : decode cX1_add 35 = .ok (.getfield 73, 3) := by decide +kernel
theorem dX1_add_38 : decode cX1_add 38 = .ok (.aload_n 0, 1) := by decide +kernel
theorem dX1_add_39 : decode cX1_add 39 = .ok (.getfield 76, 3) := by decide +kernel
theorem dX1_add_42 : decode cX1_add 42 = .ok (.iload 4, 2) := by decide +kernel
theorem dX1_add_44 : decode cX1_add 44 = .ok (.iadd, 1) := by decide +kernel
theorem dX1_add_45 : decode cX1_add 45 = .ok (.iastore, 1) := by decide +kernel
theorem dX1_add_46 : decode cX1_add 46 = .ok (.aload_n 0, 1) := by decide +kernel
theorem dX1_add_47 : decode cX1_add 47 = .ok (.getfield 56, 3) := by decide +kernel
theorem dX1_add_50 : decode cX1_add 50 = .ok (.aload_n 0, 1) := by decide +kernel
theorem dX1_add_51 : decode cX1_add 51 = .ok (.getfield 73, 3) := by decide +kernel
theorem dX1_add_54 : decode cX1_add 54 = .ok (.iload 5, 2) := by decide +kernel
theorem dX1_add_56 : decode cX1_add 56 = .ok (.iastore, 1) := by decide +kernel
theorem dX1_add_57 : decode cX1_add 57 = .ok (.aload_n 0, 1) := by decide +kernel
theorem dX1_add_58 : decode cX1_add 58 = .ok (.dup, 1) := by decide +kernel
theorem dX1_add_59 : decode cX1_add 59 = .ok (.getfield 73, 3) := by decide +kernel
theorem dX1_add_62 : decode cX1_add 62 = .ok (.iconst 1, 1) := by decide +kernel
theorem dX1_add_63 : decode cX1_add 63 = .ok (.iadd, 1) := by decide +kernel
theorem dX1_add_64 : decode cX1_add 64 = .ok (.putfield 73, 3) := by decide +kernel
theorem dX1_add_67 : decode cX1_add 67 = .ok (.aload_n 0, 1) := by decide +kernel
