set_option maxRecDepth 20000 in
theorem ggX11_init_X11_begins : GoodIn wsX11_init wsX11_begins := goodIn_r _ [26, 5, 27, 28, 29, 25, 30, 39, 40, 41, 42, 43, 44, 45, 46, 47, 48, 49, 50, 51, 52, 53, 54, 55, 56, 57, 58, 59, 60, 61, 62, 63, 64, 65, 66, 67] (by decide +kernel) (by decide +kernel)
set_option maxRecDepth 20000 in
theorem gX11_init_X11_begins : GoodIn wsX11_init (wsV RX11 58 RX11 yX11_begins wsX11_begins) := goodIn_app (goodIn_of _ (by decide +kernel)) ggX11_init_X11_begins
set_option maxRecDepth 20000 in
theorem ggX11_init_X11_beginsDay : GoodIn wsX11_init wsX11_beginsDay := goodIn_r _ [34, 6, 5, 35, 8, 36, 37, 38, 39, 40, 41, 42, 43, 44, 45, 46, 47, 48, 49, 50, 51, 52, 53, 54, 55, 56, 57, 58, 59, 60, 61, 62, 63, 64, 65, 66, 67] (by decide +kernel) (by decide +kernel)
set_option maxRecDepth 20000 in
theorem gX11_init_X11_beginsDay : GoodIn wsX11_init (wsV RX11 62 RX11 yX11_beginsDay wsX11_beginsDay) := goodIn_app (goodIn_of _ (by decide +kernel)) ggX11_init_X11_beginsDay
theorem dX11_init_0 : decode cX11_init 0 = .ok (.aload_n 0, 1) := by decide +kernel
theorem dX11_init_1 : decode cX11_init 1 = .ok (.invokespecial 1, 3) := by decide +kernel
theorem dX11_init_4 : decode cX11_init 4 = .ok (.aload_n 0, 1) := by decide +kernel
theorem dX11_init_5 : decode cX11_init 5 = .ok (.bipush 122, 2) := by decide +kernel
theorem dX11_init_7 : decode cX11_init 7 = .ok (.newarray .int, 2) := by decide +kernel
theorem dX11_init_9 : decode cX11_init 9 = .ok (.putfield 7, 3) := by decide +kernel
theorem dX11_init_12 : decode cX11_init 12 = .ok (.aload_n 0, 1) := by decide +kernel
theorem dX11_init_13 : decode cX11_init 13 = .ok (.sipush 242, 3) := by decide +kernel
theorem dX11_init_16 : decode cX11_init 16 = .ok (.newarray .int, 2) := by decide +kernel
theorem dX11_init_18 : decode cX11_init 18 = .ok (.putfield 13, 3) := by decide +kernel
theorem dX11_init_21 : decode cX11_init 21 = .ok (.aload_n 0, 1) := by decide +kernel
theorem dX11_init_22 : decode cX11_init 22 = .ok (.iconst 2, 1) := by decide +kernel
theorem dX11_init_23 : decode cX11_init 23 = .ok (.newarray .boolean, 2) := by decide +kernel
theorem dX11_init_25 : decode cX11_init 25 = .ok (.putfield 16, 3) := by decide +kernel
theorem dX11_init_28 : decode cX11_init 28 = .ok (.aload_n 0, 1) := by decide +kernel
theorem dX11_init_29 : decode cX11_init 29 = .ok (.sipush 160, 3) := by decide +kernel
theorem dX11_init_32 : decode cX11_init 32 = .ok (.newarray .int, 2) := by decide +kernel
theorem dX11_init_34 : decode cX11_init 34 = .ok (.putfield 20, 3) := by decide +kernel
theorem dX11_init_37 : decode cX11_init 37 = .ok (.aload_n 0, 1) := by decide +kernel
theorem dX11_init_38 : decode cX11_init 38 = .ok (.iconst 5, 1) := by decide +kernel
theorem dX11_init_39 : decode cX11_init 39 = .ok (.newarray .int, 2) := by decide +kernel
theorem dX11_init_41 : decode cX11_init 41 = .ok (.putfield 23, 3) := by decide +kernel
theorem dX11_init_44 : decode cX11_init 44 = .ok (.aload_n 0, 1) := by decide +kernel
theorem dX11_init_45 : decode cX11_init 45 = .ok (.iconst 4, 1) := by decide +kernel
theorem dX11_init_46 : decode cX11_init 46 = .ok (.newarray .long, 2) := by decide +kernel
theorem dX11_init_48 : decode cX11_init 48 = .ok (.putfield 26, 3) := by decide +kernel
theorem dX11_init_51 : decode cX11_init 51 = .ok (.aload_n 0, 1) := by decide +kernel
theorem dX11_init_52 : decode cX11_init 52 = .ok (.iconst 4, 1) := by decide +kernel
theorem dX11_init_53 : decode cX11_init 53 = .ok (.newarray .long, 2) := by decide +kernel
theorem dX11_init_55 : decode cX11_init 55 = .ok (.putfield 30, 3) := by decide +kernel
theorem dX11_init_58 : decode cX11_init 58 = .ok (.aload_n 0, 1) := by decide +kernel
theorem dX11_init_59 : decode cX11_init 59 = .ok (.lconst 1, 1) := by decide +kernel
theorem dX11_init_60 : decode cX11_init 60 = .ok (.putfield 33, 3) := by decide +kernel
theorem dX11_init_63 : decode cX11_init 63 = .ok (.aload_n 0, 1) := by decide +kernel
theorem dX11_init_64 : decode cX11_init 64 = .ok (.bipush 6, 2) := by decide +kernel
theorem dX11_init_66 : decode cX11_init 66 = .ok (.newarray .int, 2) := by decide +kernel
theorem dX11_init_68 : decode cX11_init 68 = .ok (.putfield 37, 3) := by decide +kernel
theorem dX11_init_71 : decode cX11_init 71 = .ok (.aload_n 0, 1) := by decide +kernel
theorem dX11_init_72 : decode cX11_init 72 = .ok (.bipush 6, 2) := by decide +kernel
theorem dX11_init_74 : decode cX11_init 74 = .ok (.newarray .int, 2) := by decide +kernel
theorem dX11_init_76 : decode cX11_init 76 = .ok (.putfield 40, 3) := by decide +kernel
theorem dX11_init_79 : decode cX11_init 79 = .ok (.aload_n 0, 1) := by decide +kernel
theorem dX11_init_80 : decode cX11_init 80 = .ok (.bipush 6, 2) := by decide +kernel
theorem dX11_init_82 : decode cX11_init 82 = .ok (.newarray .int, 2) := by decide +kernel
theorem dX11_init_84 : decode cX11_init 84 = .ok (.putfield 43, 3) := by decide +kernel
theorem dX11_init_87 : decode cX11_init 87 = .ok (.aload_n 0, 1) := by decide +kernel
theorem dX11_init_88 : decode cX11_init 88 = .ok (.bipush 6, 2) := by decide +kernel
theorem dX11_init_90 : decode cX11_init 90 = .ok (.newarray .int, 2) := by decide +kernel
theorem dX11_init_92 : decode cX11_init 92 = .ok (.putfield 46, 3) := by decide +kernel
theorem dX11_init_95 : decode cX11_init 95 = .ok (.aload_n 0, 1) := by decide +kernel
theorem dX11_init_96 : decode cX11_init 96 = .ok (.bipush 10, 2) := by decide +kernel
theorem dX11_init_98 : decode cX11_init 98 = .ok (.newarray .int, 2) := by decide +kernel
theorem dX11_init_100 : decode cX11_init 100 = .ok (.putfield 49, 3) := by decide +kernel
theorem dX11_init_103 : decode cX11_init 103 = .ok (.aload_n 0, 1) := by decide +kernel
theorem dX11_init_104 : decode cX11_init 104 = .ok (.bipush 10, 2) := by decide +kernel
theorem dX11_init_106 : decode cX11_init 106 = .ok (.newarray .int, 2) := by decide +kernel
theorem dX11_init_108 : decode cX11_init 108 = .ok (.putfield 52, 3) := by decide +kernel
theorem dX11_init_111 : decode cX11_init 111 = .ok (.aload_n 0, 1) := by decide +kernel
theorem dX11_init_112 : decode cX11_init 112 = .ok (.bipush 45, 2) := by decide +kernel
theorem dX11_init_114 : decode cX11_init 114 = .ok (.newarray .int, 2) := by decide +kernel
theorem dX11_init_116 : decode cX11_init 116 = .ok (.putfield 55, 3) := by decide +kernel
theorem dX11_init_119 : decode cX11_init 119 = .ok (.aload_n 0, 1) := by decide +kernel
theorem dX11_init_120 : decode cX11_init 120 = .ok (.iconst 0, 1) := by decide +kernel
theorem dX11_init_121 : decode cX11_init 121 = .ok (.invokevirtual 58, 3) := by decide +kernel
theorem dX11_init_124 : decode cX11_init 124 = .ok (.aload_n 0, 1) := by decide +kernel
theorem dX11_init_125 : decode cX11_init 125 = .ok (.invokevirtual 62, 3) := by decide +kernel
theorem dX11_init_128 : decode cX11_init 128 = .ok (.return_, 1) := by decide +kernel
theorem dX11_in_0 : decode cX11_in 0 = .ok (.lload_n 0, 1) := by decide +kernel
theorem dX11_in_1 : decode cX11_in 1 = .ok (.lload_n 2, 1) := by decide +kernel
theorem dX11_in_2 : decode cX11_in 2 = .ok (.lcmp, 1) := by decide +kernel
theorem dX11_in_3 : decode cX11_in 3 = .ok (.ifCond .lt 14, 3) := by decide +kernel
theorem dX11_in_6 : decode cX11_in 6 = .ok (.lload_n 0, 1) := by decide +kernel
theorem dX11_in_7 : decode cX11_in 7 = .ok (.lload 4, 2) := by decide +kernel
theorem dX11_in_9 : decode cX11_in 9 = .ok (.lcmp, 1) := by decide +kernel
theorem dX11_in_10 : decode cX11_in 10 = .ok (.ifCond .gt 7, 3) := by decide +kernel
theorem dX11_in_13 : decode cX11_in 13 = .ok (.iconst 1, 1) := by decide +kernel
theorem dX11_in_14 : decode cX11_in 14 = .ok (.goto 4, 3) := by decide +kernel
theorem dX11_in_17 : decode cX11_in 17 = .ok (.iconst 0, 1) := by decide +kernel
theorem dX11_in_18 : decode cX11_in 18 = .ok (.ireturn, 1) := by decide +kernel
theorem dX11_has_0 : decode cX11_has 0 = .ok (.iload_n 0, 1) := by decide +kernel
theorem dX11_has_1 : decode cX11_has 1 = .ok (.iload_n 1, 1) := by decide +kernel
theorem dX11_has_2 : decode cX11_has 2 = .ok (.ishr, 1) := by decide +kernel
theorem dX11_has_3 : decode cX11_has 3 = .ok (.iconst 1, 1) := by decide +kernel
theorem dX11_has_4 : decode cX11_has 4 = .ok (.iand, 1) := by decide +kernel
theorem dX11_has_5 : decode cX11_has 5 = .ok (.iconst 1, 1) := by decide +kernel
theorem dX11_has_6 : decode cX11_has 6 = .ok (.if_icmp .ne 7, 3) := by decide +kernel
theorem dX11_has_9 : decode cX11_has 9 = .ok (.iconst 1, 1) := by decide +kernel
theorem dX11_has_10 : decode cX11_has 10 = .ok (.goto 4, 3) := by decide +kernel
theorem dX11_has_13 : decode cX11_has 13 = .ok (.iconst 0, 1) := by decide +kernel
theorem dX11_has_14 : decode cX11_has 14 = .ok (.ireturn, 1) := by decide +kernel
theorem dX11_ones_0 : decode cX11_ones 0 = .ok (.iconst 0, 1) := by decide +kernel
theorem dX11_ones_1 : decode cX11_ones 1 = .ok (.istore_n 1, 1) := by decide +kernel
theorem dX11_ones_2 : decode cX11_ones 2 = .ok (.iconst 0, 1) := by decide +kernel
theorem dX11_ones_3 : decode cX11_ones 3 = .ok (.istore_n 2, 1) := by decide +kernel
theorem dX11_ones_4 : decode cX11_ones 4 = .ok (.iload_n 2, 1) := by decide +kernel
theorem dX11_ones_5 : decode cX11_ones 5 = .ok (.bipush 9, 2) := by decide +kernel
theorem dX11_ones_7 : decode cX11_ones 7 = .ok (.if_icmp .ge 17, 3) := by decide +kernel
theorem dX11_ones_10 : decode cX11_ones 10 = .ok (.iload_n 1, 1) := by decide +kernel
theorem dX11_ones_11 : decode cX11_ones 11 = .ok (.iload_n 0, 1) := by decide +kernel
theorem dX11_ones_12 : decode cX11_ones 12 = .ok (.iload_n 2, 1) := by decide +kernel
theorem dX11_ones_13 : decode cX11_ones 13 = .ok (.ishr, 1) := by decide +kernel
theorem dX11_ones_14 : decode cX11_ones 14 = .ok (.iconst 1, 1) := by decide +kernel
theorem dX11_ones_15 : decode cX11_ones 15 = .ok (.iand, 1) := by decide +kernel
theorem dX11_ones_16 : decode cX11_ones 16 = .ok (.iadd, 1) := by decide +kernel
theorem dX11_ones_17 : decode cX11_ones 17 = .ok (.istore_n 1, 1) := by decide +kernel
theorem dX11_ones_18 : decode cX11_ones 18 = .ok (.iinc 2 1, 3) := by decide +kernel
theorem dX11_ones_21 : decode cX11_ones 21 = .ok (.goto (-17), 3) := by decide +kernel
theorem dX11_ones_24 : decode cX11_ones 24 = .ok (.iload_n 1, 1) := by decide +kernel
theorem dX11_ones_25 : decode cX11_ones 25 = .ok (.ireturn, 1) := by decide +kernel
set_option maxRecDepth 20000 in
theorem ggX11_isOne_X11_in : GoodIn wsX11_isOne wsX11_in := goodIn_r _ [5] (by decide +kernel) (by decide +kernel)
set_option maxRecDepth 20000 in
theorem gX11_isOne_X11_in : GoodIn wsX11_isOne (va_wsS RX11 65 yX11_in wsX11_in) := goodIn_app (goodIn_of _ (by decide +kernel)) ggX11_isOne_X11_in
theorem dX11_isOne_0 : decode cX11_isOne 0 = .ok (.iload_n 1, 1) := by decide +kernel
theorem dX11_isOne_1 : decode cX11_isOne 1 = .ok (.i2l, 1) := by decide +kernel
theorem dX11_isOne_2 : decode cX11_isOne 2 = .ok (.lconst 0, 1) := by decide +kernel
theorem dX11_isOne_3 : decode cX11_isOne 3 = .ok (.aload_n 0, 1) := by decide +kernel
theorem dX11_isOne_4 : decode cX11_isOne 4 = .ok (.getfield 7, 3) := by decide +kernel
theorem dX11_isOne_7 : decode cX11_isOne 7 = .ok (.iconst 0, 1) := by decide +kernel
theorem dX11_isOne_8 : decode cX11_isOne 8 = .ok (.iaload, 1) := by decide +kernel
theorem dX11_isOne_9 : decode cX11_isOne 9 = .ok (.iconst 1, 1) := by decide +kernel
theorem dX11_isOne_10 : decode cX11_isOne 10 = .ok (.isub, 1) := by decide +kernel
theorem dX11_isOne_11 : decode cX11_isOne 11 = .ok (.i2l, 1) := by decide +kernel
theorem dX11_isOne_12 : decode cX11_isOne 12 = .ok (.invokestatic 65, 3) := by decide +kernel
theorem dX11_isOne_15 : decode cX11_isOne 15 = .ok (.ireturn, 1) := by decide +kernel
set_option maxRecDepth 20000 in
theorem ggX11_isWork_X11_in : GoodIn wsX11_isWork wsX11_in := goodIn_r _ [5] (by decide +kernel) (by decide +kernel)
set_option maxRecDepth 20000 in
theorem gX11_isWork_X11_in : GoodIn wsX11_isWork (va_wsS RX11 65 yX11_in wsX11_in) := goodIn_app (goodIn_of _ (by decide +kernel)) ggX11_isWork_X11_in
theorem dX11_isWork_0 : decode cX11_isWork 0 = .ok (.iload_n 1, 1) := by decide +kernel
theorem dX11_isWork_1 : decode cX11_isWork 1 = .ok (.i2l, 1) := by decide +kernel
theorem dX11_isWork_2 : decode cX11_isWork 2 = .ok (.lconst 0, 1) := by decide +kernel
theorem dX11_isWork_3 : decode cX11_isWork 3 = .ok (.aload_n 0, 1) := by decide +kernel
theorem dX11_isWork_4 : decode cX11_isWork 4 = .ok (.getfield 7, 3) := by decide +kernel
theorem dX11_isWork_7 : decode cX11_isWork 7 = .ok (.bipush 11, 2) := by decide +kernel
theorem dX11_isWork_9 : decode cX11_isWork 9 = .ok (.iaload, 1) := by decide +kernel
theorem dX11_isWork_10 : decode cX11_isWork 10 = .ok (.iconst 1, 1) := by decide +kernel
theorem dX11_isWork_11 : decode cX11_isWork 11 = .ok (.isub, 1) := by decide +kernel
theorem dX11_isWork_12 : decode cX11_isWork 12 = .ok (.i2l, 1) := by decide +kernel
theorem dX11_isWork_13 : decode cX11_isWork 13 = .ok (.invokestatic 65, 3) := by decide +kernel
theorem dX11_isWork_16 : decode cX11_isWork 16 = .ok (.ireturn, 1) := by decide +kernel
set_option maxRecDepth 20000 in
theorem ggX11_isGood_X11_in : GoodIn wsX11_isGood wsX11_in := goodIn_r _ [5] (by decide +kernel) (by decide +kernel)
set_option maxRecDepth 20000 in
theorem gX11_isGood_X11_in : GoodIn wsX11_isGood (va_wsS RX11 65 yX11_in wsX11_in) := goodIn_app (goodIn_of _ (by decide +kernel)) ggX11_isGood_X11_in
theorem dX11_isGood_0 : decode cX11_isGood 0 = .ok (.iload_n 1, 1) := by decide +kernel
theorem dX11_isGood_1 : decode cX11_isGood 1 = .ok (.i2l, 1) := by decide +kernel
theorem dX11_isGood_2 : decode cX11_isGood 2 = .ok (.lconst 0, 1) := by decide +kernel
theorem dX11_isGood_3 : decode cX11_isGood 3 = .ok (.aload_n 0, 1) := by decide +kernel
theorem dX11_isGood_4 : decode cX11_isGood 4 = .ok (.getfield 7, 3) := by decide +kernel
theorem dX11_isGood_7 : decode cX11_isGood 7 = .ok (.bipush 37, 2) := by decide +kernel
theorem dX11_isGood_9 : decode cX11_isGood 9 = .ok (.iaload, 1) := by decide +kernel
theorem dX11_isGood_10 : decode cX11_isGood 10 = .ok (.iconst 1, 1) := by decide +kernel
theorem dX11_isGood_11 : decode cX11_isGood 11 = .ok (.isub, 1) := by decide +kernel
theorem dX11_isGood_12 : decode cX11_isGood 12 = .ok (.i2l, 1) := by decide +kernel
theorem dX11_isGood_13 : decode cX11_isGood 13 = .ok (.invokestatic 65, 3) := by decide +kernel
theorem dX11_isGood_16 : decode cX11_isGood 16 = .ok (.ireturn, 1) := by decide +kernel
set_option maxRecDepth 20000 in
theorem ggX11_isWorld_X11_in : GoodIn wsX11_isWorld wsX11_in := goodIn_r _ [5] (by decide +kernel) (by decide +kernel)
set_option maxRecDepth 20000 in
theorem gX11_isWorld_X11_in : GoodIn wsX11_isWorld (va_wsS RX11 65 yX11_in wsX11_in) := goodIn_app (goodIn_of _ (by decide +kernel)) ggX11_isWorld_X11_in
theorem dX11_isWorld_0 : decode cX11_isWorld 0 = .ok (.iload_n 0, 1) := by decide +kernel
theorem dX11_isWorld_1 : decode cX11_isWorld 1 = .ok (.i2l, 1) := by decide +kernel
theorem dX11_isWorld_2 : decode cX11_isWorld 2 = .ok (.lconst 0, 1) := by decide +kernel
theorem dX11_isWorld_3 : decode cX11_isWorld 3 = .ok (.ldc2_w 69, 3) := by decide +kernel
theorem dX11_isWorld_6 : decode cX11_isWorld 6 = .ok (.invokestatic 65, 3) := by decide +kernel
theorem dX11_isWorld_9 : decode cX11_isWorld 9 = .ok (.ireturn, 1) := by decide +kernel
set_option maxRecDepth 20000 in
theorem ggX11_isFlag_X11_in : GoodIn wsX11_isFlag wsX11_in := goodIn_r _ [4] (by decide +kernel) (by decide +kernel)
set_option maxRecDepth 20000 in
theorem gX11_isFlag_X11_in : GoodIn wsX11_isFlag (va_wsS RX11 65 yX11_in wsX11_in) := goodIn_app (goodIn_of _ (by decide +kernel)) ggX11_isFlag_X11_in
theorem dX11_isFlag_0 : decode cX11_isFlag 0 = .ok (.iload_n 0, 1) := by decide +kernel
theorem dX11_isFlag_1 : decode cX11_isFlag 1 = .ok (.i2l, 1) := by decide +kernel
theorem dX11_isFlag_2 : decode cX11_isFlag 2 = .ok (.lconst 0, 1) := by decide +kernel
theorem dX11_isFlag_3 : decode cX11_isFlag 3 = .ok (.lconst 1, 1) := by decide +kernel
theorem dX11_isFlag_4 : decode cX11_isFlag 4 = .ok (.invokestatic 65, 3) := by decide +kernel
theorem dX11_isFlag_7 : decode cX11_isFlag 7 = .ok (.ireturn, 1) := by decide +kernel
set_option maxRecDepth 20000 in
theorem ggX11_begins_X11_stills : GoodIn wsX11_begins wsX11_stills := goodIn_r _ [6, 1, 7, 8, 9, 10, 11, 12, 13, 14, 15, 16, 17, 18, 19, 20, 21, 22, 23, 24, 25, 26, 27, 28, 29, 30, 31, 32, 33, 34, 35] (by decide +kernel) (by decide +kernel)
set_option maxRecDepth 20000 in
theorem gX11_begins_X11_stills : GoodIn wsX11_begins (wsV RX11 71 RX11 yX11_stills wsX11_stills) := goodIn_app (goodIn_of _ (by decide +kernel)) ggX11_begins_X11_stills
theorem dX11_begins_0 : decode cX11_begins 0 = .ok (.iconst 0, 1) := by decide +kernel
theorem dX11_begins_1 : decode cX11_begins 1 = .ok (.istore_n 2, 1) := by decide +kernel
theorem dX11_begins_2 : decode cX11_begins 2 = .ok (.iload_n 2, 1) := by decide +kernel
theorem dX11_begins_3 : decode cX11_begins 3 = .ok (.bipush 61, 2) := by decide +kernel
theorem dX11_begins_5 : decode cX11_begins 5 = .ok (.if_icmp .ge 18, 3) := by decide +kernel
theorem dX11_begins_8 : decode cX11_begins 8 = .ok (.aload_n 0, 1) := by decide +kernel
theorem dX11_begins_9 : decode cX11_begins 9 = .ok (.getfield 7, 3) := by decide +kernel
theorem dX11_begins_12 : decode cX11_begins 12 = .ok (.iload_n 1, 1) := by decide +kernel
theorem dX11_begins_13 : decode cX11_begins 13 = .ok (.iload_n 2, 1) := by decide +kernel
theorem dX11_begins_14 : decode cX11_begins 14 = .ok (.iadd, 1) := by decide +kernel
theorem dX11_begins_15 : decode cX11_begins 15 = .ok (.iconst 0, 1) := by decide +kernel
theorem dX11_begins_16 : decode cX11_begins 16 = .ok (.iastore, 1) := by decide +kernel
theorem dX11_begins_17 : decode cX11_begins 17 = .ok (.iinc 2 1, 3) := by decide +kernel
theorem dX11_begins_20 : decode cX11_begins 20 = .ok (.goto (-18), 3) := by decide +kernel
theorem dX11_begins_23 : decode cX11_begins 23 = .ok (.aload_n 0, 1) := by decide +kernel
theorem dX11_begins_24 : decode cX11_begins 24 = .ok (.getfield 7, 3) := by decide +kernel
theorem dX11_begins_27 : decode cX11_begins 27 = .ok (.iload_n 1, 1) := by decide +kernel
theorem dX11_begins_28 : decode cX11_begins 28 = .ok (.bipush 36, 2) := by decide +kernel
theorem dX11_begins_30 : decode cX11_begins 30 = .ok (.iadd, 1) := by decide +kernel
theorem dX11_begins_31 : decode cX11_begins 31 = .ok (.bipush 60, 2) := by decide +kernel
theorem dX11_begins_33 : decode cX11_begins 33 = .ok (.iastore, 1) := by decide +kernel
theorem dX11_begins_34 : decode cX11_begins 34 = .ok (.aload_n 0, 1) := by decide +kernel
theorem dX11_begins_35 : decode cX11_begins 35 = .ok (.iload_n 1, 1) := by decide +kernel
theorem dX11_begins_36 : decode cX11_begins 36 = .ok (.invokevirtual 71, 3) := by decide +kernel
theorem dX11_begins_39 : decode cX11_begins 39 = .ok (.return_, 1) := by decide +kernel
theorem dX11_stills_0 : decode cX11_stills 0 = .ok (.iconst 0, 1) := by decide +kernel
theorem dX11_stills_1 : decode cX11_stills 1 = .ok (.istore_n 2, 1) := by decide +kernel
theorem dX11_stills_2 : decode cX11_stills 2 = .ok (.iload_n 2, 1) := by decide +kernel
theorem dX11_stills_3 : decode cX11_stills 3 = .ok (.iconst 4, 1) := by decide +kernel
theorem dX11_stills_4 : decode cX11_stills 4 = .ok (.if_icmp .ge 33, 3) := by decide +kernel
theorem dX11_stills_7 : decode cX11_stills 7 = .ok (.aload_n 0, 1) := by decide +kernel
theorem dX11_stills_8 : decode cX11_stills 8 = .ok (.getfield 7, 3) := by decide +kernel
theorem dX11_stills_11 : decode cX11_stills 11 = .ok (.iload_n 1, 1) := by decide +kernel
theorem dX11_stills_12 : decode cX11_stills 12 = .ok (.bipush 53, 2) := by decide +kernel
theorem dX11_stills_14 : decode cX11_stills 14 = .ok (.iadd, 1) := by decide +kernel
theorem dX11_stills_15 : decode cX11_stills 15 = .ok (.iload_n 2, 1) := by decide +kernel
theorem dX11_stills_16 : decode cX11_stills 16 = .ok (.iadd, 1) := by decide +kernel
theorem dX11_stills_17 : decode cX11_stills 17 = .ok (.iload_n 2, 1) := by decide +kernel
theorem dX11_stills_18 : decode cX11_stills 18 = .ok (.iastore, 1) := by decide +kernel
theorem dX11_stills_19 : decode cX11_stills 19 = .ok (.aload_n 0, 1) := by decide +kernel
theorem dX11_stills_20 : decode cX11_stills 20 = .ok (.getfield 7, 3) := by decide +kernel
theorem dX11_stills_23 : decode cX11_stills 23 = .ok (.iload_n 1, 1) := by decide +kernel
theorem dX11_stills_24 : decode cX11_stills 24 = .ok (.bipush 57, 2) := by decide +kernel
theorem dX11_stills_26 : decode cX11_stills 26 = .ok (.iadd, 1) := by decide +kernel
theorem dX11_stills_27 : decode cX11_stills 27 = .ok (.iload_n 2, 1) := by decide +kernel
theorem dX11_stills_28 : decode cX11_stills 28 = .ok (.iadd, 1) := by decide +kernel
theorem dX11_stills_29 : decode cX11_stills 29 = .ok (.iconst 0, 1) := by decide +kernel
theorem dX11_stills_30 : decode cX11_stills 30 = .ok (.iastore, 1) := by decide +kernel
theorem dX11_stills_31 : decode cX11_stills 31 = .ok (.iinc 2 1, 3) := by decide +kernel
theorem dX11_stills_34 : decode cX11_stills 34 = .ok (.goto (-32), 3) := by decide +kernel
theorem dX11_stills_37 : decode cX11_stills 37 = .ok (.return_, 1) := by decide +kernel
theorem dX11_beginsDay_0 : decode cX11_beginsDay 0 = .ok (.iconst 0, 1) := by decide +kernel
theorem dX11_beginsDay_1 : decode cX11_beginsDay 1 = .ok (.istore_n 1, 1) := by decide +kernel
theorem dX11_beginsDay_2 : decode cX11_beginsDay 2 = .ok (.iload_n 1, 1) := by decide +kernel
theorem dX11_beginsDay_3 : decode cX11_beginsDay 3 = .ok (.bipush 22, 2) := by decide +kernel
theorem dX11_beginsDay_5 : decode cX11_beginsDay 5 = .ok (.if_icmp .ge 16, 3) := by decide +kernel
theorem dX11_beginsDay_8 : decode cX11_beginsDay 8 = .ok (.aload_n 0, 1) := by decide +kernel
theorem dX11_beginsDay_9 : decode cX11_beginsDay 9 = .ok (.getfield 13, 3) := by decide +kernel
theorem dX11_beginsDay_12 : decode cX11_beginsDay 12 = .ok (.iload_n 1, 1) := by decide +kernel
theorem dX11_beginsDay_13 : decode cX11_beginsDay 13 = .ok (.iconst 0, 1) := by decide +kernel
theorem dX11_beginsDay_14 : decode cX11_beginsDay 14 = .ok (.iastore, 1) := by decide +kernel
theorem dX11_beginsDay_15 : decode cX11_beginsDay 15 = .ok (.iinc 1 1, 3) := by decide +kernel
theorem dX11_beginsDay_18 : decode cX11_beginsDay 18 = .ok (.goto (-16), 3) := by decide +kernel
theorem dX11_beginsDay_21 : decode cX11_beginsDay 21 = .ok (.iconst 0, 1) := by decide +kernel
theorem dX11_beginsDay_22 : decode cX11_beginsDay 22 = .ok (.istore_n 1, 1) := by decide +kernel
theorem dX11_beginsDay_23 : decode cX11_beginsDay 23 = .ok (.iload_n 1, 1) := by decide +kernel
theorem dX11_beginsDay_24 : decode cX11_beginsDay 24 = .ok (.iconst 5, 1) := by decide +kernel
theorem dX11_beginsDay_25 : decode cX11_beginsDay 25 = .ok (.if_icmp .ge 34, 3) := by decide +kernel
theorem dX11_beginsDay_28 : decode cX11_beginsDay 28 = .ok (.aload_n 0, 1) := by decide +kernel
theorem dX11_beginsDay_29 : decode cX11_beginsDay 29 = .ok (.getfield 13, 3) := by decide +kernel
theorem dX11_beginsDay_32 : decode cX11_beginsDay 32 = .ok (.iconst 0, 1) := by decide +kernel
theorem dX11_beginsDay_33 : decode cX11_beginsDay 33 = .ok (.iload_n 1, 1) := by decide +kernel
theorem dX11_beginsDay_34 : decode cX11_beginsDay 34 = .ok (.iadd, 1) := by decide +kernel
theorem dX11_beginsDay_35 : decode cX11_beginsDay 35 = .ok (.aload_n 0, 1) := by decide +kernel
theorem dX11_beginsDay_36 : decode cX11_beginsDay 36 = .ok (.getfield 7, 3) := by decide +kernel
theorem dX11_beginsDay_39 : decode cX11_beginsDay 39 = .ok (.bipush 36, 2) := by decide +kernel
theorem dX11_beginsDay_41 : decode cX11_beginsDay 41 = .ok (.iaload, 1) := by decide +kernel
theorem dX11_beginsDay_42 : decode cX11_beginsDay 42 = .ok (.iastore, 1) := by decide +kernel
theorem dX11_beginsDay_43 : decode cX11_beginsDay 43 = .ok (.aload_n 0, 1) := by decide +kernel
theorem dX11_beginsDay_44 : decode cX11_beginsDay 44 = .ok (.getfield 13, 3) := by decide +kernel
theorem dX11_beginsDay_47 : decode cX11_beginsDay 47 = .ok (.bipush 11, 2) := by decide +kernel
theorem dX11_beginsDay_49 : decode cX11_beginsDay 49 = .ok (.iload_n 1, 1) := by decide +kernel
theorem dX11_beginsDay_50 : decode cX11_beginsDay 50 = .ok (.iadd, 1) := by decide +kernel
theorem dX11_beginsDay_51 : decode cX11_beginsDay 51 = .ok (.iconst (-1), 1) := by decide +kernel
theorem dX11_beginsDay_52 : decode cX11_beginsDay 52 = .ok (.iastore, 1) := by decide +kernel
theorem dX11_beginsDay_53 : decode cX11_beginsDay 53 = .ok (.iinc 1 1, 3) := by decide +kernel
theorem dX11_beginsDay_56 : decode cX11_beginsDay 56 = .ok (.goto (-33), 3) := by decide +kernel
theorem dX11_beginsDay_59 : decode cX11_beginsDay 59 = .ok (.aload_n 0, 1) := by decide +kernel
theorem dX11_beginsDay_60 : decode cX11_beginsDay 60 = .ok (.iconst 0, 1) := by decide +kernel
theorem dX11_beginsDay_61 : decode cX11_beginsDay 61 = .ok (.putfield 74, 3) := by decide +kernel
theorem dX11_beginsDay_64 : decode cX11_beginsDay 64 = .ok (.aload_n 0, 1) := by decide +kernel
theorem dX11_beginsDay_65 : decode cX11_beginsDay 65 = .ok (.getfield 16, 3) := by decide +kernel
theorem dX11_beginsDay_68 : decode cX11_beginsDay 68 = .ok (.iconst 0, 1) := by decide +kernel
theorem dX11_beginsDay_69 : decode cX11_beginsDay 69 = .ok (.iconst 0, 1) := by decide +kernel
theorem dX11_beginsDay_70 : decode cX11_beginsDay 70 = .ok (.bastore, 1) := by decide +kernel
theorem dX11_beginsDay_71 : decode cX11_beginsDay 71 = .ok (.aload_n 0, 1) := by decide +kernel
theorem dX11_beginsDay_72 : decode cX11_beginsDay 72 = .ok (.getfield 16, 3) := by decide +kernel
theorem dX11_beginsDay_75 : decode cX11_beginsDay 75 = .ok (.iconst 1, 1) := by decide +kernel
theorem dX11_beginsDay_76 : decode cX11_beginsDay 76 = .ok (.iconst 0, 1) := by decide +kernel
theorem dX11_beginsDay_77 : decode cX11_beginsDay 77 = .ok (.bastore, 1) := by decide +kernel
theorem dX11_beginsDay_78 : decode cX11_beginsDay 78 = .ok (.aload_n 0, 1) := by decide +kernel
theorem dX11_beginsDay_79 : decode cX11_beginsDay 79 = .ok (.iconst 0, 1) := by decide +kernel
theorem dX11_beginsDay_80 : decode cX11_beginsDay 80 = .ok (.putfield 78, 3) := by decide +kernel
theorem dX11_beginsDay_83 : decode cX11_beginsDay 83 = .ok (.aload_n 0, 1) := by decide +kernel
theorem dX11_beginsDay_84 : decode cX11_beginsDay 84 = .ok (.iconst 0, 1) := by decide +kernel
theorem dX11_beginsDay_85 : decode cX11_beginsDay 85 = .ok (.putfield 81, 3) := by decide +kernel
theorem dX11_beginsDay_88 : decode cX11_beginsDay 88 = .ok (.aload_n 0, 1) := by decide +kernel
theorem dX11_beginsDay_89 : decode cX11_beginsDay 89 = .ok (.iconst 0, 1) := by decide +kernel
theorem dX11_beginsDay_90 : decode cX11_beginsDay 90 = .ok (.putfield 84, 3) := by decide +kernel
theorem dX11_beginsDay_93 : decode cX11_beginsDay 93 = .ok (.return_, 1) := by decide +kernel
set_option maxRecDepth 20000 in
theorem ggX11_write_X11_in : GoodIn wsX11_write wsX11_in := goodIn_r _ [7] (by decide +kernel) (by decide +kernel)
set_option maxRecDepth 20000 in
theorem gX11_write_X11_in : GoodIn wsX11_write (va_wsS RX11 65 yX11_in wsX11_in) := goodIn_app (goodIn_of _ (by decide +kernel)) ggX11_write_X11_in
theorem dX11_write_0 : decode cX11_write 0 = .ok (.iload_n 1, 1) := by decide +kernel
theorem dX11_write_1 : decode cX11_write 1 = .ok (.i2l, 1) := by decide +kernel
theorem dX11_write_2 : decode cX11_write 2 = .ok (.lconst 0, 1) := by decide +kernel
theorem dX11_write_3 : decode cX11_write 3 = .ok (.ldc2_w 87, 3) := by decide +kernel
theorem dX11_write_6 : decode cX11_write 6 = .ok (.invokestatic 65, 3) := by decide +kernel
theorem dX11_write_9 : decode cX11_write 9 = .ok (.ifCond .ne 6, 3) := by decide +kernel
theorem dX11_write_12 : decode cX11_write 12 = .ok (.bipush (-3), 2) := by decide +kernel
theorem dX11_write_14 : decode cX11_write 14 = .ok (.ireturn, 1) := by decide +kernel
theorem dX11_write_15 : decode cX11_write 15 = .ok (.aload_n 0, 1) := by decide +kernel
theorem dX11_write_16 : decode cX11_write 16 = .ok (.getfield 89, 3) := by decide +kernel
theorem dX11_write_19 : decode cX11_write 19 = .ok (.sipush 160, 3) := by decide +kernel
theorem dX11_write_22 : decode cX11_write 22 = .ok (.if_icmp .ne 6, 3) := by decide +kernel
theorem dX11_write_25 : decode cX11_write 25 = .ok (.bipush (-5), 2) := by decide +kernel
theorem dX11_write_27 : decode cX11_write 27 = .ok (.ireturn, 1) := by decide +kernel
theorem dX11_write_28 : decode cX11_write 28 = .ok (.aload_n 0, 1) := by decide +kernel
theorem dX11_write_29 : decode cX11_write 29 = .ok (.getfield 20, 3) := by decide +kernel
theorem dX11_write_32 : decode cX11_write 32 = .ok (.aload_n 0, 1) := by decide +kernel
theorem dX11_write_33 : decode cX11_write 33 = .ok (.getfield 89, 3) := by decide +kernel
theorem dX11_write_36 : decode cX11_write 36 = .ok (.iload_n 1, 1) := by decide +kernel
theorem dX11_write_37 : decode cX11_write 37 = .ok (.iastore, 1) := by decide +kernel
theorem dX11_write_38 : decode cX11_write 38 = .ok (.aload_n 0, 1) := by decide +kernel
theorem dX11_write_39 : decode cX11_write 39 = .ok (.dup, 1) := by decide +kernel
theorem dX11_write_40 : decode cX11_write 40 = .ok (.getfield 89, 3) := by decide +kernel
theorem dX11_write_43 : decode cX11_write 43 = .ok (.iconst 1, 1) := by decide +kernel
theorem dX11_write_44 : decode cX11_write 44 = .ok (.iadd, 1) := by decide +kernel
theorem dX11_write_45 : decode cX11_write 45 = .ok (.putfield 89, 3) := by decide +kernel
theorem dX11_write_48 : decode cX11_write 48 = .ok (.aload_n 0, 1) := by decide +kernel
theorem dX11_write_49 : decode cX11_write 49 = .ok (.getfield 89, 3) := by decide +kernel
theorem dX11_write_52 : decode cX11_write 52 = .ok (.ireturn, 1) := by decide +kernel
theorem dX11_erase_0 : decode cX11_erase 0 = .ok (.aload_n 0, 1) := by decide +kernel
theorem dX11_erase_1 : decode cX11_erase 1 = .ok (.getfield 89, 3) := by decide +kernel
theorem dX11_erase_4 : decode cX11_erase 4 = .ok (.istore_n 1, 1) := by decide +kernel
theorem dX11_erase_5 : decode cX11_erase 5 = .ok (.aload_n 0, 1) := by decide +kernel
theorem dX11_erase_6 : decode cX11_erase 6 = .ok (.iconst 0, 1) := by decide +kernel
theorem dX11_erase_7 : decode cX11_erase 7 = .ok (.putfield 89, 3) := by decide +kernel
theorem dX11_erase_10 : decode cX11_erase 10 = .ok (.iload_n 1, 1) := by decide +kernel
theorem dX11_erase_11 : decode cX11_erase 11 = .ok (.ireturn, 1) := by decide +kernel
theorem dX11_letterAt_0 : decode cX11_letterAt 0 = .ok (.iload_n 1, 1) := by decide +kernel
theorem dX11_letterAt_1 : decode cX11_letterAt 1 = .ok (.aload_n 0, 1) := by decide +kernel
theorem dX11_letterAt_2 : decode cX11_letterAt 2 = .ok (.getfield 89, 3) := by decide +kernel
theorem dX11_letterAt_5 : decode cX11_letterAt 5 = .ok (.if_icmp .ge 12, 3) := by decide +kernel
theorem dX11_letterAt_8 : decode cX11_letterAt 8 = .ok (.aload_n 0, 1) := by decide +kernel
theorem dX11_letterAt_9 : decode cX11_letterAt 9 = .ok (.getfield 20, 3) := by decide +kernel
theorem dX11_letterAt_12 : decode cX11_letterAt 12 = .ok (.iload_n 1, 1) := by decide +kernel
theorem dX11_letterAt_13 : decode cX11_letterAt 13 = .ok (.iaload, 1) := by decide +kernel
theorem dX11_letterAt_14 : decode cX11_letterAt 14 = .ok (.goto 4, 3) := by decide +kernel
theorem dX11_letterAt_17 : decode cX11_letterAt 17 = .ok (.iconst (-1), 1) := by decide +kernel
theorem dX11_letterAt_18 : decode cX11_letterAt 18 = .ok (.ireturn, 1) := by decide +kernel
set_option maxRecDepth 20000 in
theorem ggX11_token_X11_letterAt : GoodIn wsX11_token wsX11_letterAt := goodIn_r _ [14, 9, 15, 19, 20, 21, 22, 23, 24, 25, 26, 27, 28, 29, 30, 31, 32, 33, 34, 35, 36, 37, 38, 39, 40, 41, 42, 43, 44, 45, 46, 47] (by decide +kernel) (by decide +kernel)
set_option maxRecDepth 20000 in
theorem gX11_token_X11_letterAt : GoodIn wsX11_token (wsV RX11 95 RX11 yX11_letterAt wsX11_letterAt) := goodIn_app (goodIn_of _ (by decide +kernel)) ggX11_token_X11_letterAt
set_option maxRecDepth 20000 in
theorem ggX11_token_X11_in : GoodIn wsX11_token wsX11_in := goodIn_r _ [18] (by decide +kernel) (by decide +kernel)
set_option maxRecDepth 20000 in
theorem gX11_token_X11_in : GoodIn wsX11_token (va_wsS RX11 65 yX11_in wsX11_in) := goodIn_app (goodIn_of _ (by decide +kernel)) ggX11_token_X11_in
theorem dX11_token_0 : decode cX11_token 0 = .ok (.aload_n 0, 1) := by decide +kernel
theorem dX11_token_1 : decode cX11_token 1 = .ok (.aload_n 0, 1) := by decide +kernel
theorem dX11_token_2 : decode cX11_token 2 = .ok (.getfield 92, 3) := by decide +kernel
theorem dX11_token_5 : decode cX11_token 5 = .ok (.invokevirtual 95, 3) := by decide +kernel
theorem dX11_token_8 : decode cX11_token 8 = .ok (.bipush 32, 2) := by decide +kernel
theorem dX11_token_10 : decode cX11_token 10 = .ok (.if_icmp .ne 16, 3) := by decide +kernel
theorem dX11_token_13 : decode cX11_token 13 = .ok (.aload_n 0, 1) := by decide +kernel
theorem dX11_token_14 : decode cX11_token 14 = .ok (.dup, 1) := by decide +kernel
theorem dX11_token_15 : decode cX11_token 15 = .ok (.getfield 92, 3) := by decide +kernel
theorem dX11_token_18 : decode cX11_token 18 = .ok (.iconst 1, 1) := by decide +kernel
theorem dX11_token_19 : decode cX11_token 19 = .ok (.iadd, 1) := by decide +kernel
theorem dX11_token_20 : decode cX11_token 20 = .ok (.putfield 92, 3) := by decide +kernel
theorem dX11_token_23 : decode cX11_token 23 = .ok (.goto (-23), 3) := by decide +kernel
theorem dX11_token_26 : decode cX11_token 26 = .ok (.aload_n 0, 1) := by decide +kernel
theorem dX11_token_27 : decode cX11_token 27 = .ok (.aload_n 0, 1) := by decide +kernel
theorem dX11_token_28 : decode cX11_token 28 = .ok (.getfield 92, 3) := by decide +kernel
theorem dX11_token_31 : decode cX11_token 31 = .ok (.putfield 99, 3) := by decide +kernel
theorem dX11_token_34 : decode cX11_token 34 = .ok (.aload_n 0, 1) := by decide +kernel
theorem dX11_token_35 : decode cX11_token 35 = .ok (.aload_n 0, 1) := by decide +kernel
theorem dX11_token_36 : decode cX11_token 36 = .ok (.aload_n 0, 1) := by decide +kernel
theorem dX11_token_37 : decode cX11_token 37 = .ok (.getfield 92, 3) := by decide +kernel
theorem dX11_token_40 : decode cX11_token 40 = .ok (.invokevirtual 95, 3) := by decide +kernel
theorem dX11_token_43 : decode cX11_token 43 = .ok (.i2l, 1) := by decide +kernel
theorem dX11_token_44 : decode cX11_token 44 = .ok (.ldc2_w 102, 3) := by decide +kernel
theorem dX11_token_47 : decode cX11_token 47 = .ok (.ldc2_w 104, 3) := by decide +kernel
theorem dX11_token_50 : decode cX11_token 50 = .ok (.invokestatic 65, 3) := by decide +kernel
theorem dX11_token_53 : decode cX11_token 53 = .ok (.putfield 106, 3) := by decide +kernel
theorem dX11_token_56 : decode cX11_token 56 = .ok (.aload_n 0, 1) := by decide +kernel
theorem dX11_token_57 : decode cX11_token 57 = .ok (.aload_n 0, 1) := by decide +kernel
theorem dX11_token_58 : decode cX11_token 58 = .ok (.aload_n 0, 1) := by decide +kernel
theorem dX11_token_59 : decode cX11_token 59 = .ok (.getfield 92, 3) := by decide +kernel
theorem dX11_token_62 : decode cX11_token 62 = .ok (.invokevirtual 95, 3) := by decide +kernel
theorem dX11_token_65 : decode cX11_token 65 = .ok (.i2l, 1) := by decide +kernel
theorem dX11_token_66 : decode cX11_token 66 = .ok (.ldc2_w 110, 3) := by decide +kernel
theorem dX11_token_69 : decode cX11_token 69 = .ok (.ldc2_w 112, 3) := by decide +kernel
theorem dX11_token_72 : decode cX11_token 72 = .ok (.invokestatic 65, 3) := by decide +kernel
theorem dX11_token_75 : decode cX11_token 75 = .ok (.putfield 114, 3) := by decide +kernel
theorem dX11_token_78 : decode cX11_token 78 = .ok (.aload_n 0, 1) := by decide +kernel
theorem dX11_token_79 : decode cX11_token 79 = .ok (.dup, 1) := by decide +kernel
theorem dX11_token_80 : decode cX11_token 80 = .ok (.getfield 92, 3) := by decide +kernel
theorem dX11_token_83 : decode cX11_token 83 = .ok (.aload_n 0, 1) := by decide +kernel
theorem dX11_token_84 : decode cX11_token 84 = .ok (.getfield 92, 3) := by decide +kernel
theorem dX11_token_87 : decode cX11_token 87 = .ok (.aload_n 0, 1) := by decide +kernel
theorem dX11_token_88 : decode cX11_token 88 = .ok (.getfield 89, 3) := by decide +kernel
theorem dX11_token_91 : decode cX11_token 91 = .ok (.if_icmp .ge 7, 3) := by decide +kernel
theorem dX11_token_94 : decode cX11_token 94 = .ok (.iconst 1, 1) := by decide +kernel
theorem dX11_token_95 : decode cX11_token 95 = .ok (.goto 4, 3) := by decide +kernel
theorem dX11_token_98 : decode cX11_token 98 = .ok (.iconst 0, 1) := by decide +kernel
theorem dX11_token_99 : decode cX11_token 99 = .ok (.iadd, 1) := by decide +kernel
theorem dX11_token_100 : decode cX11_token 100 = .ok (.putfield 92, 3) := by decide +kernel
theorem dX11_token_103 : decode cX11_token 103 = .ok (.aload_n 0, 1) := by decide +kernel
theorem dX11_token_104 : decode cX11_token 104 = .ok (.getfield 106, 3) := by decide +kernel
theorem dX11_token_107 : decode cX11_token 107 = .ok (.ifCond .eq 24, 3) := by decide +kernel
theorem dX11_token_110 : decode cX11_token 110 = .ok (.aload_n 0, 1) := by decide +kernel
theorem dX11_token_111 : decode cX11_token 111 = .ok (.aload_n 0, 1) := by decide +kernel
theorem dX11_token_112 : decode cX11_token 112 = .ok (.getfield 92, 3) := by decide +kernel
theorem dX11_token_115 : decode cX11_token 115 = .ok (.invokevirtual 95, 3) := by decide +kernel
theorem dX11_token_118 : decode cX11_token 118 = .ok (.i2l, 1) := by decide +kernel
theorem dX11_token_119 : decode cX11_token 119 = .ok (.ldc2_w 102, 3) := by decide +kernel
theorem dX11_token_122 : decode cX11_token 122 = .ok (.ldc2_w 104, 3) := by decide +kernel
theorem dX11_token_125 : decode cX11_token 125 = .ok (.invokestatic 65, 3) := by decide +kernel
theorem dX11_token_128 : decode cX11_token 128 = .ok (.ifCond .ne 31, 3) := by decide +kernel
theorem dX11_token_131 : decode cX11_token 131 = .ok (.aload_n 0, 1) := by decide +kernel
theorem dX11_token_132 : decode cX11_token 132 = .ok (.getfield 114, 3) := by decide +kernel
theorem dX11_token_135 : decode cX11_token 135 = .ok (.ifCond .eq 37, 3) := by decide +kernel
theorem dX11_token_138 : decode cX11_token 138 = .ok (.aload_n 0, 1) := by decide +kernel
theorem dX11_token_139 : decode cX11_token 139 = .ok (.aload_n 0, 1) := by decide +kernel
theorem dX11_token_140 : decode cX11_token 140 = .ok (.getfield 92, 3) := by decide +kernel
theorem dX11_token_143 : decode cX11_token 143 = .ok (.invokevirtual 95, 3) := by decide +kernel
theorem dX11_token_146 : decode cX11_token 146 = .ok (.i2l, 1) := by decide +kernel
theorem dX11_token_147 : decode cX11_token 147 = .ok (.ldc2_w 110, 3) := by decide +kernel
theorem dX11_token_150 : decode cX11_token 150 = .ok (.ldc2_w 112, 3) := by decide +kernel
theorem dX11_token_153 : decode cX11_token 153 = .ok (.invokestatic 65, 3) := by decide +kernel
theorem dX11_token_156 : decode cX11_token 156 = .ok (.ifCond .eq 16, 3) := by decide +kernel
theorem dX11_token_159 : decode cX11_token 159 = .ok (.aload_n 0, 1) := by decide +kernel
theorem dX11_token_160 : decode cX11_token 160 = .ok (.dup, 1) := by decide +kernel
theorem dX11_token_161 : decode cX11_token 161 = .ok (.getfield 92, 3) := by decide +kernel
theorem dX11_token_164 : decode cX11_token 164 = .ok (.iconst 1, 1) := by decide +kernel
theorem dX11_token_165 : decode cX11_token 165 = .ok (.iadd, 1) := by decide +kernel
theorem dX11_token_166 : decode cX11_token 166 = .ok (.putfield 92, 3) := by decide +kernel
theorem dX11_token_169 : decode cX11_token 169 = .ok (.goto (-66), 3) := by decide +kernel
theorem dX11_token_172 : decode cX11_token 172 = .ok (.return_, 1) := by decide +kernel
set_option maxRecDepth 20000 in
theorem ggX11_takes_X11_token : GoodIn wsX11_takes wsX11_token := goodIn_r _ [9, 3, 2, 10, 11, 12, 13, 14, 4, 15, 16, 17, 18, 8, 19, 20, 21, 22, 23, 24, 25, 26, 27, 28, 29, 30, 31, 32, 33, 34, 35, 36, 37, 38, 39, 40, 41, 42, 43, 44, 45, 46, 47, 48, 49, 50, 51, 52] (by decide +kernel) (by decide +kernel)
set_option maxRecDepth 20000 in
theorem gX11_takes_X11_token : GoodIn wsX11_takes (wsV RX11 117 RX11 yX11_token wsX11_token) := goodIn_app (goodIn_of _ (by decide +kernel)) ggX11_takes_X11_token
set_option maxRecDepth 20000 in
theorem ggX11_takes_X11_letterAt : GoodIn wsX11_takes wsX11_letterAt := goodIn_r _ [19, 15, 20, 24, 25, 26, 27, 28, 29, 30, 31, 32, 33, 34, 35, 36, 37, 38, 39, 40, 41, 42, 43, 44, 45, 46, 47, 48, 49, 50, 51, 52] (by decide +kernel) (by decide +kernel)
set_option maxRecDepth 20000 in
theorem gX11_takes_X11_letterAt : GoodIn wsX11_takes (wsV RX11 95 RX11 yX11_letterAt wsX11_letterAt) := goodIn_app (goodIn_of _ (by decide +kernel)) ggX11_takes_X11_letterAt
set_option maxRecDepth 20000 in
theorem ggX11_takes_X11_in : GoodIn wsX11_takes wsX11_in := goodIn_r _ [23] (by decide +kernel) (by decide +kernel)
set_option maxRecDepth 20000 in
theorem gX11_takes_X11_in : GoodIn wsX11_takes (va_wsS RX11 65 yX11_in wsX11_in) := goodIn_app (goodIn_of _ (by decide +kernel)) ggX11_takes_X11_in
theorem dX11_takes_0 : decode cX11_takes 0 = .ok (.aload_n 0, 1) := by decide +kernel
theorem dX11_takes_1 : decode cX11_takes 1 = .ok (.invokevirtual 117, 3) := by decide +kernel
theorem dX11_takes_4 : decode cX11_takes 4 = .ok (.aload_n 0, 1) := by decide +kernel
theorem dX11_takes_5 : decode cX11_takes 5 = .ok (.iconst 0, 1) := by decide +kernel
theorem dX11_takes_6 : decode cX11_takes 6 = .ok (.putfield 120, 3) := by decide +kernel
theorem dX11_takes_9 : decode cX11_takes 9 = .ok (.aload_n 0, 1) := by decide +kernel
theorem dX11_takes_10 : decode cX11_takes 10 = .ok (.getfield 99, 3) := by decide +kernel
theorem dX11_takes_13 : decode cX11_takes 13 = .ok (.istore_n 3, 1) := by decide +kernel
theorem dX11_takes_14 : decode cX11_takes 14 = .ok (.iload_n 3, 1) := by decide +kernel
theorem dX11_takes_15 : decode cX11_takes 15 = .ok (.aload_n 0, 1) := by decide +kernel
theorem dX11_takes_16 : decode cX11_takes 16 = .ok (.getfield 92, 3) := by decide +kernel
theorem dX11_takes_19 : decode cX11_takes 19 = .ok (.if_icmp .ge 49, 3) := by decide +kernel
theorem dX11_takes_22 : decode cX11_takes 22 = .ok (.aload_n 0, 1) := by decide +kernel
theorem dX11_takes_23 : decode cX11_takes 23 = .ok (.getfield 114, 3) := by decide +kernel
theorem dX11_takes_26 : decode cX11_takes 26 = .ok (.ifCond .eq 42, 3) := by decide +kernel
theorem dX11_takes_29 : decode cX11_takes 29 = .ok (.aload_n 0, 1) := by decide +kernel
theorem dX11_takes_30 : decode cX11_takes 30 = .ok (.getfield 92, 3) := by decide +kernel
theorem dX11_takes_33 : decode cX11_takes 33 = .ok (.aload_n 0, 1) := by decide +kernel
theorem dX11_takes_34 : decode cX11_takes 34 = .ok (.getfield 99, 3) := by decide +kernel
theorem dX11_takes_37 : decode cX11_takes 37 = .ok (.isub, 1) := by decide +kernel
theorem dX11_takes_38 : decode cX11_takes 38 = .ok (.iconst 3, 1) := by decide +kernel
theorem dX11_takes_39 : decode cX11_takes 39 = .ok (.if_icmp .ge 29, 3) := by decide +kernel
theorem dX11_takes_42 : decode cX11_takes 42 = .ok (.aload_n 0, 1) := by decide +kernel
theorem dX11_takes_43 : decode cX11_takes 43 = .ok (.bipush 10, 2) := by decide +kernel
theorem dX11_takes_45 : decode cX11_takes 45 = .ok (.aload_n 0, 1) := by decide +kernel
theorem dX11_takes_46 : decode cX11_takes 46 = .ok (.getfield 120, 3) := by decide +kernel
theorem dX11_takes_49 : decode cX11_takes 49 = .ok (.imul, 1) := by decide +kernel
theorem dX11_takes_50 : decode cX11_takes 50 = .ok (.aload_n 0, 1) := by decide +kernel
theorem dX11_takes_51 : decode cX11_takes 51 = .ok (.iload_n 3, 1) := by decide +kernel
theorem dX11_takes_52 : decode cX11_takes 52 = .ok (.invokevirtual 95, 3) := by decide +kernel
theorem dX11_takes_55 : decode cX11_takes 55 = .ok (.iadd, 1) := by decide +kernel
theorem dX11_takes_56 : decode cX11_takes 56 = .ok (.bipush 48, 2) := by decide +kernel
theorem dX11_takes_58 : decode cX11_takes 58 = .ok (.isub, 1) := by decide +kernel
theorem dX11_takes_59 : decode cX11_takes 59 = .ok (.putfield 120, 3) := by decide +kernel
theorem dX11_takes_62 : decode cX11_takes 62 = .ok (.iinc 3 1, 3) := by decide +kernel
theorem dX11_takes_65 : decode cX11_takes 65 = .ok (.goto (-51), 3) := by decide +kernel
theorem dX11_takes_68 : decode cX11_takes 68 = .ok (.aload_n 0, 1) := by decide +kernel
theorem dX11_takes_69 : decode cX11_takes 69 = .ok (.getfield 114, 3) := by decide +kernel
theorem dX11_takes_72 : decode cX11_takes 72 = .ok (.ifCond .eq 35, 3) := by decide +kernel
theorem dX11_takes_75 : decode cX11_takes 75 = .ok (.aload_n 0, 1) := by decide +kernel
theorem dX11_takes_76 : decode cX11_takes 76 = .ok (.getfield 92, 3) := by decide +kernel
theorem dX11_takes_79 : decode cX11_takes 79 = .ok (.aload_n 0, 1) := by decide +kernel
theorem dX11_takes_80 : decode cX11_takes 80 = .ok (.getfield 99, 3) := by decide +kernel
theorem dX11_takes_83 : decode cX11_takes 83 = .ok (.isub, 1) := by decide +kernel
theorem dX11_takes_84 : decode cX11_takes 84 = .ok (.iconst 3, 1) := by decide +kernel
theorem dX11_takes_85 : decode cX11_takes 85 = .ok (.if_icmp .ge 22, 3) := by decide +kernel
theorem dX11_takes_88 : decode cX11_takes 88 = .ok (.aload_n 0, 1) := by decide +kernel
theorem dX11_takes_89 : decode cX11_takes 89 = .ok (.getfield 120, 3) := by decide +kernel
theorem dX11_takes_92 : decode cX11_takes 92 = .ok (.i2l, 1) := by decide +kernel
theorem dX11_takes_93 : decode cX11_takes 93 = .ok (.iload_n 1, 1) := by decide +kernel
theorem dX11_takes_94 : decode cX11_takes 94 = .ok (.i2l, 1) := by decide +kernel
theorem dX11_takes_95 : decode cX11_takes 95 = .ok (.iload_n 2, 1) := by decide +kernel
theorem dX11_takes_96 : decode cX11_takes 96 = .ok (.i2l, 1) := by decide +kernel
theorem dX11_takes_97 : decode cX11_takes 97 = .ok (.invokestatic 65, 3) := by decide +kernel
theorem dX11_takes_100 : decode cX11_takes 100 = .ok (.ifCond .eq 7, 3) := by decide +kernel
theorem dX11_takes_103 : decode cX11_takes 103 = .ok (.iconst 1, 1) := by decide +kernel
theorem dX11_takes_104 : decode cX11_takes 104 = .ok (.goto 4, 3) := by decide +kernel
theorem dX11_takes_107 : decode cX11_takes 107 = .ok (.iconst 0, 1) := by decide +kernel
theorem dX11_takes_108 : decode cX11_takes 108 = .ok (.ireturn, 1) := by decide +kernel
set_option maxRecDepth 20000 in
theorem ggX11_isNamed_X11_letterAt : GoodIn wsX11_isNamed wsX11_letterAt := goodIn_r _ [8, 9, 10, 11, 12, 13, 14, 15, 16, 17, 18, 19, 20, 21, 22, 23, 24, 25, 26, 27, 28, 29, 30, 31, 32, 33, 34, 35, 36, 37, 38, 39] (by decide +kernel) (by decide +kernel)
set_option maxRecDepth 20000 in
theorem gX11_isNamed_X11_letterAt : GoodIn wsX11_isNamed (wsV RX11 95 RX11 yX11_letterAt wsX11_letterAt) := goodIn_app (goodIn_of _ (by decide +kernel)) ggX11_isNamed_X11_letterAt
theorem dX11_isNamed_0 : decode cX11_isNamed 0 = .ok (.iload 5, 2) := by decide +kernel
theorem dX11_isNamed_2 : decode cX11_isNamed 2 = .ok (.ifCond .ne 7, 3) := by decide +kernel
theorem dX11_isNamed_5 : decode cX11_isNamed 5 = .ok (.iconst 4, 1) := by decide +kernel
theorem dX11_isNamed_6 : decode cX11_isNamed 6 = .ok (.goto 14, 3) := by decide +kernel
theorem dX11_isNamed_9 : decode cX11_isNamed 9 = .ok (.iload 6, 2) := by decide +kernel
theorem dX11_isNamed_11 : decode cX11_isNamed 11 = .ok (.ifCond .ne 7, 3) := by decide +kernel
theorem dX11_isNamed_14 : decode cX11_isNamed 14 = .ok (.iconst 5, 1) := by decide +kernel
theorem dX11_isNamed_15 : decode cX11_isNamed 15 = .ok (.goto 5, 3) := by decide +kernel
theorem dX11_isNamed_18 : decode cX11_isNamed 18 = .ok (.bipush 6, 2) := by decide +kernel
theorem dX11_isNamed_20 : decode cX11_isNamed 20 = .ok (.istore 7, 2) := by decide +kernel
theorem dX11_isNamed_22 : decode cX11_isNamed 22 = .ok (.aload_n 0, 1) := by decide +kernel
theorem dX11_isNamed_23 : decode cX11_isNamed 23 = .ok (.getfield 106, 3) := by decide +kernel
theorem dX11_isNamed_26 : decode cX11_isNamed 26 = .ok (.ifCond .eq 76, 3) := by decide +kernel
theorem dX11_isNamed_29 : decode cX11_isNamed 29 = .ok (.aload_n 0, 1) := by decide +kernel
theorem dX11_isNamed_30 : decode cX11_isNamed 30 = .ok (.getfield 92, 3) := by decide +kernel
theorem dX11_isNamed_33 : decode cX11_isNamed 33 = .ok (.aload_n 0, 1) := by decide +kernel
theorem dX11_isNamed_34 : decode cX11_isNamed 34 = .ok (.getfield 99, 3) := by decide +kernel
theorem dX11_isNamed_37 : decode cX11_isNamed 37 = .ok (.isub, 1) := by decide +kernel
theorem dX11_isNamed_38 : decode cX11_isNamed 38 = .ok (.iload 7, 2) := by decide +kernel
theorem dX11_isNamed_40 : decode cX11_isNamed 40 = .ok (.if_icmp .ne 62, 3) := by decide +kernel
theorem dX11_isNamed_43 : decode cX11_isNamed 43 = .ok (.aload_n 0, 1) := by decide +kernel
theorem dX11_isNamed_44 : decode cX11_isNamed 44 = .ok (.aload_n 0, 1) := by decide +kernel
theorem dX11_isNamed_45 : decode cX11_isNamed 45 = .ok (.getfield 99, 3) := by decide +kernel
theorem dX11_isNamed_48 : decode cX11_isNamed 48 = .ok (.invokevirtual 95, 3) := by decide +kernel
theorem dX11_isNamed_51 : decode cX11_isNamed 51 = .ok (.iload_n 1, 1) := by decide +kernel
theorem dX11_isNamed_52 : decode cX11_isNamed 52 = .ok (.if_icmp .ne 50, 3) := by decide +kernel
theorem dX11_isNamed_55 : decode cX11_isNamed 55 = .ok (.aload_n 0, 1) := by decide +kernel
theorem dX11_isNamed_56 : decode cX11_isNamed 56 = .ok (.aload_n 0, 1) := by decide +kernel
theorem dX11_isNamed_57 : decode cX11_isNamed 57 = .ok (.getfield 99, 3) := by decide +kernel
theorem dX11_isNamed_60 : decode cX11_isNamed 60 = .ok (.iconst 1, 1) := by decide +kernel
theorem dX11_isNamed_61 : decode cX11_isNamed 61 = .ok (.iadd, 1) := by decide +kernel
theorem dX11_isNamed_62 : decode cX11_isNamed 62 = .ok (.invokevirtual 95, 3) := by decide +kernel
theorem dX11_isNamed_65 : decode cX11_isNamed 65 = .ok (.iload_n 2, 1) := by decide +kernel
theorem dX11_isNamed_66 : decode cX11_isNamed 66 = .ok (.if_icmp .ne 36, 3) := by decide +kernel
theorem dX11_isNamed_69 : decode cX11_isNamed 69 = .ok (.aload_n 0, 1) := by decide +kernel
theorem dX11_isNamed_70 : decode cX11_isNamed 70 = .ok (.aload_n 0, 1) := by decide +kernel
theorem dX11_isNamed_71 : decode cX11_isNamed 71 = .ok (.getfield 99, 3) := by decide +kernel
theorem dX11_isNamed_74 : decode cX11_isNamed 74 = .ok (.iconst 2, 1) := by decide +kernel
theorem dX11_isNamed_75 : decode cX11_isNamed 75 = .ok (.iadd, 1) := by decide +kernel
theorem dX11_isNamed_76 : decode cX11_isNamed 76 = .ok (.invokevirtual 95, 3) := by decide +kernel
theorem dX11_isNamed_79 : decode cX11_isNamed 79 = .ok (.iload_n 3, 1) := by decide +kernel
theorem dX11_isNamed_80 : decode cX11_isNamed 80 = .ok (.if_icmp .ne 22, 3) := by decide +kernel
theorem dX11_isNamed_83 : decode cX11_isNamed 83 = .ok (.aload_n 0, 1) := by decide +kernel
theorem dX11_isNamed_84 : decode cX11_isNamed 84 = .ok (.aload_n 0, 1) := by decide +kernel
theorem dX11_isNamed_85 : decode cX11_isNamed 85 = .ok (.getfield 99, 3) := by decide +kernel
theorem dX11_isNamed_88 : decode cX11_isNamed 88 = .ok (.iconst 3, 1) := by decide +kernel
theorem dX11_isNamed_89 : decode cX11_isNamed 89 = .ok (.iadd, 1) := by decide +kernel
theorem dX11_isNamed_90 : decode cX11_isNamed 90 = .ok (.invokevirtual 95, 3) := by decide +kernel
theorem dX11_isNamed_93 : decode cX11_isNamed 93 = .ok (.iload 4, 2) := by decide +kernel
theorem dX11_isNamed_95 : decode cX11_isNamed 95 = .ok (.if_icmp .ne 7, 3) := by decide +kernel
theorem dX11_isNamed_98 : decode cX11_isNamed 98 = .ok (.iconst 1, 1) := by decide +kernel
theorem dX11_isNamed_99 : decode cX11_isNamed 99 = .ok (.goto 4, 3) := by decide +kernel
theorem dX11_isNamed_102 : decode cX11_isNamed 102 = .ok (.iconst 0, 1) := by decide +kernel
theorem dX11_isNamed_103 : decode cX11_isNamed 103 = .ok (.istore 8, 2) := by decide +kernel
theorem dX11_isNamed_105 : decode cX11_isNamed 105 = .ok (.iload 8, 2) := by decide +kernel
theorem dX11_isNamed_107 : decode cX11_isNamed 107 = .ok (.ifCond .eq 47, 3) := by decide +kernel
theorem dX11_isNamed_110 : decode cX11_isNamed 110 = .ok (.iload 5, 2) := by decide +kernel
theorem dX11_isNamed_112 : decode cX11_isNamed 112 = .ok (.ifCond .eq 18, 3) := by decide +kernel
theorem dX11_isNamed_115 : decode cX11_isNamed 115 = .ok (.aload_n 0, 1) := by decide +kernel
theorem dX11_isNamed_116 : decode cX11_isNamed 116 = .ok (.aload_n 0, 1) := by decide +kernel
theorem dX11_isNamed_117 : decode cX11_isNamed 117 = .ok (.getfield 99, 3) := by decide +kernel
theorem dX11_isNamed_120 : decode cX11_isNamed 120 = .ok (.iconst 4, 1) := by decide +kernel
theorem dX11_isNamed_121 : decode cX11_isNamed 121 = .ok (.iadd, 1) := by decide +kernel
theorem dX11_isNamed_122 : decode cX11_isNamed 122 = .ok (.invokevirtual 95, 3) := by decide +kernel
theorem dX11_isNamed_125 : decode cX11_isNamed 125 = .ok (.iload 5, 2) := by decide +kernel
theorem dX11_isNamed_127 : decode cX11_isNamed 127 = .ok (.if_icmp .ne 27, 3) := by decide +kernel
theorem dX11_isNamed_130 : decode cX11_isNamed 130 = .ok (.iload 6, 2) := by decide +kernel
theorem dX11_isNamed_132 : decode cX11_isNamed 132 = .ok (.ifCond .eq 18, 3) := by decide +kernel
theorem dX11_isNamed_135 : decode cX11_isNamed 135 = .ok (.aload_n 0, 1) := by decide +kernel
theorem dX11_isNamed_136 : decode cX11_isNamed 136 = .ok (.aload_n 0, 1) := by decide +kernel
theorem dX11_isNamed_137 : decode cX11_isNamed 137 = .ok (.getfield 99, 3) := by decide +kernel
theorem dX11_isNamed_140 : decode cX11_isNamed 140 = .ok (.iconst 5, 1) := by decide +kernel
theorem dX11_isNamed_141 : decode cX11_isNamed 141 = .ok (.iadd, 1) := by decide +kernel
theorem dX11_isNamed_142 : decode cX11_isNamed 142 = .ok (.invokevirtual 95, 3) := by decide +kernel
theorem dX11_isNamed_145 : decode cX11_isNamed 145 = .ok (.iload 6, 2) := by decide +kernel
theorem dX11_isNamed_147 : decode cX11_isNamed 147 = .ok (.if_icmp .ne 7, 3) := by decide +kernel
theorem dX11_isNamed_150 : decode cX11_isNamed 150 = .ok (.iconst 1, 1) := by decide +kernel
theorem dX11_isNamed_151 : decode cX11_isNamed 151 = .ok (.goto 4, 3) := by decide +kernel
theorem dX11_isNamed_154 : decode cX11_isNamed 154 = .ok (.iconst 0, 1) := by decide +kernel
theorem dX11_isNamed_155 : decode cX11_isNamed 155 = .ok (.ireturn, 1) := by decide +kernel
set_option maxRecDepth 20000 in
theorem ggX11_wordNow_X11_isNamed : GoodIn wsX11_wordNow wsX11_isNamed := goodIn_r _ [5, 6, 7, 8, 9, 10, 11, 4, 12, 13, 14, 15, 16, 17, 18, 19, 20, 21, 22, 23, 24, 25, 26, 27, 28, 29, 30, 31, 32, 33, 34, 35, 36, 37, 38, 39, 40, 41, 42, 43] (by decide +kernel) (by decide +kernel)
set_option maxRecDepth 20000 in
theorem gX11_wordNow_X11_isNamed : GoodIn wsX11_wordNow (wsV RX11 123 RX11 yX11_isNamed wsX11_isNamed) := goodIn_app (goodIn_of _ (by decide +kernel)) ggX11_wordNow_X11_isNamed
theorem dX11_wordNow_0 : decode cX11_wordNow 0 = .ok (.aload_n 0, 1) := by decide +kernel
theorem dX11_wordNow_1 : decode cX11_wordNow 1 = .ok (.bipush 115, 2) := by decide +kernel
theorem dX11_wordNow_3 : decode cX11_wordNow 3 = .ok (.bipush 109, 2) := by decide +kernel
theorem dX11_wordNow_5 : decode cX11_wordNow 5 = .ok (.bipush 105, 2) := by decide +kernel
theorem dX11_wordNow_7 : decode cX11_wordNow 7 = .ok (.bipush 116, 2) := by decide +kernel
theorem dX11_wordNow_9 : decode cX11_wordNow 9 = .ok (.bipush 104, 2) := by decide +kernel
theorem dX11_wordNow_11 : decode cX11_wordNow 11 = .ok (.iconst 0, 1) := by decide +kernel
theorem dX11_wordNow_12 : decode cX11_wordNow 12 = .ok (.invokevirtual 123, 3) := by decide +kernel
theorem dX11_wordNow_15 : decode cX11_wordNow 15 = .ok (.ifCond .eq 5, 3) := by decide +kernel
theorem dX11_wordNow_18 : decode cX11_wordNow 18 = .ok (.iconst 0, 1) := by decide +kernel
theorem dX11_wordNow_19 : decode cX11_wordNow 19 = .ok (.ireturn, 1) := by decide +kernel
theorem dX11_wordNow_20 : decode cX11_wordNow 20 = .ok (.aload_n 0, 1) := by decide +kernel
theorem dX11_wordNow_21 : decode cX11_wordNow 21 = .ok (.bipush 109, 2) := by decide +kernel
theorem dX11_wordNow_23 : decode cX11_wordNow 23 = .ok (.bipush 97, 2) := by decide +kernel
theorem dX11_wordNow_25 : decode cX11_wordNow 25 = .ok (.bipush 115, 2) := by decide +kernel
theorem dX11_wordNow_27 : decode cX11_wordNow 27 = .ok (.bipush 111, 2) := by decide +kernel
theorem dX11_wordNow_29 : decode cX11_wordNow 29 = .ok (.bipush 110, 2) := by decide +kernel
theorem dX11_wordNow_31 : decode cX11_wordNow 31 = .ok (.iconst 0, 1) := by decide +kernel
theorem dX11_wordNow_32 : decode cX11_wordNow 32 = .ok (.invokevirtual 123, 3) := by decide +kernel
theorem dX11_wordNow_35 : decode cX11_wordNow 35 = .ok (.ifCond .eq 5, 3) := by decide +kernel
theorem dX11_wordNow_38 : decode cX11_wordNow 38 = .ok (.iconst 1, 1) := by decide +kernel
theorem dX11_wordNow_39 : decode cX11_wordNow 39 = .ok (.ireturn, 1) := by decide +kernel
theorem dX11_wordNow_40 : decode cX11_wordNow 40 = .ok (.aload_n 0, 1) := by decide +kernel
theorem dX11_wordNow_41 : decode cX11_wordNow 41 = .ok (.bipush 115, 2) := by decide +kernel
theorem dX11_wordNow_43 : decode cX11_wordNow 43 = .ok (.bipush 99, 2) := by decide +kernel
theorem dX11_wordNow_45 : decode cX11_wordNow 45 = .ok (.bipush 114, 2) := by decide +kernel
theorem dX11_wordNow_47 : decode cX11_wordNow 47 = .ok (.bipush 105, 2) := by decide +kernel
theorem dX11_wordNow_49 : decode cX11_wordNow 49 = .ok (.bipush 98, 2) := by decide +kernel
theorem dX11_wordNow_51 : decode cX11_wordNow 51 = .ok (.bipush 101, 2) := by decide +kernel
theorem dX11_wordNow_53 : decode cX11_wordNow 53 = .ok (.invokevirtual 123, 3) := by decide +kernel
theorem dX11_wordNow_56 : decode cX11_wordNow 56 = .ok (.ifCond .eq 5, 3) := by decide +kernel
theorem dX11_wordNow_59 : decode cX11_wordNow 59 = .ok (.iconst 2, 1) := by decide +kernel
theorem dX11_wordNow_60 : decode cX11_wordNow 60 = .ok (.ireturn, 1) := by decide +kernel
theorem dX11_wordNow_61 : decode cX11_wordNow 61 = .ok (.aload_n 0, 1) := by decide +kernel
theorem dX11_wordNow_62 : decode cX11_wordNow 62 = .ok (.bipush 114, 2) := by decide +kernel
theorem dX11_wordNow_64 : decode cX11_wordNow 64 = .ok (.bipush 101, 2) := by decide +kernel
theorem dX11_wordNow_66 : decode cX11_wordNow 66 = .ok (.bipush 101, 2) := by decide +kernel
theorem dX11_wordNow_68 : decode cX11_wordNow 68 = .ok (.bipush 118, 2) := by decide +kernel
theorem dX11_wordNow_70 : decode cX11_wordNow 70 = .ok (.bipush 101, 2) := by decide +kernel
theorem dX11_wordNow_72 : decode cX11_wordNow 72 = .ok (.iconst 0, 1) := by decide +kernel
theorem dX11_wordNow_73 : decode cX11_wordNow 73 = .ok (.invokevirtual 123, 3) := by decide +kernel
theorem dX11_wordNow_76 : decode cX11_wordNow 76 = .ok (.ifCond .eq 5, 3) := by decide +kernel
theorem dX11_wordNow_79 : decode cX11_wordNow 79 = .ok (.iconst 3, 1) := by decide +kernel
theorem dX11_wordNow_80 : decode cX11_wordNow 80 = .ok (.ireturn, 1) := by decide +kernel
theorem dX11_wordNow_81 : decode cX11_wordNow 81 = .ok (.aload_n 0, 1) := by decide +kernel
theorem dX11_wordNow_82 : decode cX11_wordNow 82 = .ok (.bipush 116, 2) := by decide +kernel
theorem dX11_wordNow_84 : decode cX11_wordNow 84 = .ok (.bipush 111, 2) := by decide +kernel
theorem dX11_wordNow_86 : decode cX11_wordNow 86 = .ok (.bipush 119, 2) := by decide +kernel
theorem dX11_wordNow_88 : decode cX11_wordNow 88 = .ok (.bipush 110, 2) := by decide +kernel
theorem dX11_wordNow_90 : decode cX11_wordNow 90 = .ok (.iconst 0, 1) := by decide +kernel
theorem dX11_wordNow_91 : decode cX11_wordNow 91 = .ok (.iconst 0, 1) := by decide +kernel
theorem dX11_wordNow_92 : decode cX11_wordNow 92 = .ok (.invokevirtual 123, 3) := by decide +kernel
theorem dX11_wordNow_95 : decode cX11_wordNow 95 = .ok (.ifCond .eq 5, 3) := by decide +kernel
theorem dX11_wordNow_98 : decode cX11_wordNow 98 = .ok (.iconst 4, 1) := by decide +kernel
theorem dX11_wordNow_99 : decode cX11_wordNow 99 = .ok (.ireturn, 1) := by decide +kernel
theorem dX11_wordNow_100 : decode cX11_wordNow 100 = .ok (.aload_n 0, 1) := by decide +kernel
theorem dX11_wordNow_101 : decode cX11_wordNow 101 = .ok (.bipush 108, 2) := by decide +kernel
theorem dX11_wordNow_103 : decode cX11_wordNow 103 = .ok (.bipush 105, 2) := by decide +kernel
theorem dX11_wordNow_105 : decode cX11_wordNow 105 = .ok (.bipush 107, 2) := by decide +kernel
theorem dX11_wordNow_107 : decode cX11_wordNow 107 = .ok (.bipush 101, 2) := by decide +kernel
theorem dX11_wordNow_109 : decode cX11_wordNow 109 = .ok (.bipush 115, 2) := by decide +kernel
theorem dX11_wordNow_111 : decode cX11_wordNow 111 = .ok (.iconst 0, 1) := by decide +kernel
theorem dX11_wordNow_112 : decode cX11_wordNow 112 = .ok (.invokevirtual 123, 3) := by decide +kernel
theorem dX11_wordNow_115 : decode cX11_wordNow 115 = .ok (.ifCond .eq 5, 3) := by decide +kernel
theorem dX11_wordNow_118 : decode cX11_wordNow 118 = .ok (.iconst 5, 1) := by decide +kernel
theorem dX11_wordNow_119 : decode cX11_wordNow 119 = .ok (.ireturn, 1) := by decide +kernel
theorem dX11_wordNow_120 : decode cX11_wordNow 120 = .ok (.aload_n 0, 1) := by decide +kernel
theorem dX11_wordNow_121 : decode cX11_wordNow 121 = .ok (.bipush 119, 2) := by decide +kernel
theorem dX11_wordNow_123 : decode cX11_wordNow 123 = .ok (.bipush 111, 2) := by decide +kernel
theorem dX11_wordNow_125 : decode cX11_wordNow 125 = .ok (.bipush 114, 2) := by decide +kernel
theorem dX11_wordNow_127 : decode cX11_wordNow 127 = .ok (.bipush 107, 2) := by decide +kernel
theorem dX11_wordNow_129 : decode cX11_wordNow 129 = .ok (.iconst 0, 1) := by decide +kernel
theorem dX11_wordNow_130 : decode cX11_wordNow 130 = .ok (.iconst 0, 1) := by decide +kernel
theorem dX11_wordNow_131 : decode cX11_wordNow 131 = .ok (.invokevirtual 123, 3) := by decide +kernel
theorem dX11_wordNow_134 : decode cX11_wordNow 134 = .ok (.ifCond .eq 6, 3) := by decide +kernel
theorem dX11_wordNow_137 : decode cX11_wordNow 137 = .ok (.bipush 6, 2) := by decide +kernel
theorem dX11_wordNow_139 : decode cX11_wordNow 139 = .ok (.ireturn, 1) := by decide +kernel
theorem dX11_wordNow_140 : decode cX11_wordNow 140 = .ok (.aload_n 0, 1) := by decide +kernel
theorem dX11_wordNow_141 : decode cX11_wordNow 141 = .ok (.bipush 103, 2) := by decide +kernel
theorem dX11_wordNow_143 : decode cX11_wordNow 143 = .ok (.bipush 114, 2) := by decide +kernel
theorem dX11_wordNow_145 : decode cX11_wordNow 145 = .ok (.bipush 111, 2) := by decide +kernel
theorem dX11_wordNow_147 : decode cX11_wordNow 147 = .ok (.bipush 119, 2) := by decide +kernel
theorem dX11_wordNow_149 : decode cX11_wordNow 149 = .ok (.iconst 0, 1) := by decide +kernel
theorem dX11_wordNow_150 : decode cX11_wordNow 150 = .ok (.iconst 0, 1) := by decide +kernel
theorem dX11_wordNow_151 : decode cX11_wordNow 151 = .ok (.invokevirtual 123, 3) := by decide +kernel
theorem dX11_wordNow_154 : decode cX11_wordNow 154 = .ok (.ifCond .eq 6, 3) := by decide +kernel
theorem dX11_wordNow_157 : decode cX11_wordNow 157 = .ok (.bipush 7, 2) := by decide +kernel
theorem dX11_wordNow_159 : decode cX11_wordNow 159 = .ok (.ireturn, 1) := by decide +kernel
theorem dX11_wordNow_160 : decode cX11_wordNow 160 = .ok (.aload_n 0, 1) := by decide +kernel
theorem dX11_wordNow_161 : decode cX11_wordNow 161 = .ok (.bipush 119, 2) := by decide +kernel
theorem dX11_wordNow_163 : decode cX11_wordNow 163 = .ok (.bipush 105, 2) := by decide +kernel
theorem dX11_wordNow_165 : decode cX11_wordNow 165 = .ok (.bipush 116, 2) := by decide +kernel
theorem dX11_wordNow_167 : decode cX11_wordNow 167 = .ok (.bipush 104, 2) := by decide +kernel
theorem dX11_wordNow_169 : decode cX11_wordNow 169 = .ok (.bipush 101, 2) := by decide +kernel
theorem dX11_wordNow_171 : decode cX11_wordNow 171 = .ok (.bipush 114, 2) := by decide +kernel
theorem dX11_wordNow_173 : decode cX11_wordNow 173 = .ok (.invokevirtual 123, 3) := by decide +kernel
theorem dX11_wordNow_176 : decode cX11_wordNow 176 = .ok (.ifCond .eq 6, 3) := by decide +kernel
theorem dX11_wordNow_179 : decode cX11_wordNow 179 = .ok (.bipush 8, 2) := by decide +kernel
theorem dX11_wordNow_181 : decode cX11_wordNow 181 = .ok (.ireturn, 1) := by decide +kernel
theorem dX11_wordNow_182 : decode cX11_wordNow 182 = .ok (.aload_n 0, 1) := by decide +kernel
theorem dX11_wordNow_183 : decode cX11_wordNow 183 = .ok (.bipush 108, 2) := by decide +kernel
theorem dX11_wordNow_185 : decode cX11_wordNow 185 = .ok (.bipush 101, 2) := by decide +kernel
theorem dX11_wordNow_187 : decode cX11_wordNow 187 = .ok (.bipush 110, 2) := by decide +kernel
theorem dX11_wordNow_189 : decode cX11_wordNow 189 = .ok (.bipush 103, 2) := by decide +kernel
theorem dX11_wordNow_191 : decode cX11_wordNow 191 = .ok (.bipush 116, 2) := by decide +kernel
theorem dX11_wordNow_193 : decode cX11_wordNow 193 = .ok (.bipush 104, 2) := by decide +kernel
theorem dX11_wordNow_195 : decode cX11_wordNow 195 = .ok (.invokevirtual 123, 3) := by decide +kernel
theorem dX11_wordNow_198 : decode cX11_wordNow 198 = .ok (.ifCond .eq 6, 3) := by decide +kernel
theorem dX11_wordNow_201 : decode cX11_wordNow 201 = .ok (.bipush 9, 2) := by decide +kernel
theorem dX11_wordNow_203 : decode cX11_wordNow 203 = .ok (.ireturn, 1) := by decide +kernel
theorem dX11_wordNow_204 : decode cX11_wordNow 204 = .ok (.aload_n 0, 1) := by decide +kernel
theorem dX11_wordNow_205 : decode cX11_wordNow 205 = .ok (.bipush 119, 2) := by decide +kernel
theorem dX11_wordNow_207 : decode cX11_wordNow 207 = .ok (.bipush 111, 2) := by decide +kernel
theorem dX11_wordNow_209 : decode cX11_wordNow 209 = .ok (.bipush 114, 2) := by decide +kernel
theorem dX11_wordNow_211 : decode cX11_wordNow 211 = .ok (.bipush 108, 2) := by decide +kernel
theorem dX11_wordNow_213 : decode cX11_wordNow 213 = .ok (.bipush 100, 2) := by decide +kernel
theorem dX11_wordNow_215 : decode cX11_wordNow 215 = .ok (.iconst 0, 1) := by decide +kernel
theorem dX11_wordNow_216 : decode cX11_wordNow 216 = .ok (.invokevirtual 123, 3) := by decide +kernel
theorem dX11_wordNow_219 : decode cX11_wordNow 219 = .ok (.ifCond .eq 8, 3) := by decide +kernel
theorem dX11_wordNow_222 : decode cX11_wordNow 222 = .ok (.bipush 10, 2) := by decide +kernel
theorem dX11_wordNow_224 : decode cX11_wordNow 224 = .ok (.goto 27, 3) := by decide +kernel
theorem dX11_wordNow_227 : decode cX11_wordNow 227 = .ok (.aload_n 0, 1) := by decide +kernel
theorem dX11_wordNow_228 : decode cX11_wordNow 228 = .ok (.bipush 115, 2) := by decide +kernel
theorem dX11_wordNow_230 : decode cX11_wordNow 230 = .ok (.bipush 116, 2) := by decide +kernel
theorem dX11_wordNow_232 : decode cX11_wordNow 232 = .ok (.bipush 105, 2) := by decide +kernel
theorem dX11_wordNow_234 : decode cX11_wordNow 234 = .ok (.bipush 108, 2) := by decide +kernel
theorem dX11_wordNow_236 : decode cX11_wordNow 236 = .ok (.bipush 108, 2) := by decide +kernel
theorem dX11_wordNow_238 : decode cX11_wordNow 238 = .ok (.iconst 0, 1) := by decide +kernel
theorem dX11_wordNow_239 : decode cX11_wordNow 239 = .ok (.invokevirtual 123, 3) := by decide +kernel
theorem dX11_wordNow_242 : decode cX11_wordNow 242 = .ok (.ifCond .eq 8, 3) := by decide +kernel
theorem dX11_wordNow_245 : decode cX11_wordNow 245 = .ok (.bipush 11, 2) := by decide +kernel
theorem dX11_wordNow_247 : decode cX11_wordNow 247 = .ok (.goto 4, 3) := by decide +kernel
theorem dX11_wordNow_250 : decode cX11_wordNow 250 = .ok (.iconst (-1), 1) := by decide +kernel
theorem dX11_wordNow_251 : decode cX11_wordNow 251 = .ok (.ireturn, 1) := by decide +kernel
theorem dX11_takesOne_0 : decode cX11_takesOne 0 = .ok (.aload_n 0, 1) := by decide +kernel
theorem dX11_takesOne_1 : decode cX11_takesOne 1 = .ok (.getfield 7, 3) := by decide +kernel
theorem dX11_takesOne_4 : decode cX11_takesOne 4 = .ok (.bipush 61, 2) := by decide +kernel
theorem dX11_takesOne_6 : decode cX11_takesOne 6 = .ok (.iaload, 1) := by decide +kernel
theorem dX11_takesOne_7 : decode cX11_takesOne 7 = .ok (.iconst 5, 1) := by decide +kernel
theorem dX11_takesOne_8 : decode cX11_takesOne 8 = .ok (.if_icmp .ne 5, 3) := by decide +kernel
theorem dX11_takesOne_11 : decode cX11_takesOne 11 = .ok (.iconst 0, 1) := by decide +kernel
theorem dX11_takesOne_12 : decode cX11_takesOne 12 = .ok (.ireturn, 1) := by decide +kernel
theorem dX11_takesOne_13 : decode cX11_takesOne 13 = .ok (.aload_n 0, 1) := by decide +kernel
theorem dX11_takesOne_14 : decode cX11_takesOne 14 = .ok (.getfield 7, 3) := by decide +kernel
theorem dX11_takesOne_17 : decode cX11_takesOne 17 = .ok (.bipush 62, 2) := by decide +kernel
theorem dX11_takesOne_19 : decode cX11_takesOne 19 = .ok (.aload_n 0, 1) := by decide +kernel
theorem dX11_takesOne_20 : decode cX11_takesOne 20 = .ok (.getfield 7, 3) := by decide +kernel
theorem dX11_takesOne_23 : decode cX11_takesOne 23 = .ok (.bipush 61, 2) := by decide +kernel
theorem dX11_takesOne_25 : decode cX11_takesOne 25 = .ok (.iaload, 1) := by decide +kernel
theorem dX11_takesOne_26 : decode cX11_takesOne 26 = .ok (.iadd, 1) := by decide +kernel
theorem dX11_takesOne_27 : decode cX11_takesOne 27 = .ok (.iload_n 1, 1) := by decide +kernel
theorem dX11_takesOne_28 : decode cX11_takesOne 28 = .ok (.iastore, 1) := by decide +kernel
theorem dX11_takesOne_29 : decode cX11_takesOne 29 = .ok (.aload_n 0, 1) := by decide +kernel
theorem dX11_takesOne_30 : decode cX11_takesOne 30 = .ok (.getfield 7, 3) := by decide +kernel
theorem dX11_takesOne_33 : decode cX11_takesOne 33 = .ok (.bipush 67, 2) := by decide +kernel
theorem dX11_takesOne_35 : decode cX11_takesOne 35 = .ok (.aload_n 0, 1) := by decide +kernel
theorem dX11_takesOne_36 : decode cX11_takesOne 36 = .ok (.getfield 7, 3) := by decide +kernel
theorem dX11_takesOne_39 : decode cX11_takesOne 39 = .ok (.bipush 61, 2) := by decide +kernel
theorem dX11_takesOne_41 : decode cX11_takesOne 41 = .ok (.iaload, 1) := by decide +kernel
theorem dX11_takesOne_42 : decode cX11_takesOne 42 = .ok (.iadd, 1) := by decide +kernel
theorem dX11_takesOne_43 : decode cX11_takesOne 43 = .ok (.iconst 0, 1) := by decide +kernel
theorem dX11_takesOne_44 : decode cX11_takesOne 44 = .ok (.iastore, 1) := by decide +kernel
theorem dX11_takesOne_45 : decode cX11_takesOne 45 = .ok (.aload_n 0, 1) := by decide +kernel
theorem dX11_takesOne_46 : decode cX11_takesOne 46 = .ok (.getfield 7, 3) := by decide +kernel
theorem dX11_takesOne_49 : decode cX11_takesOne 49 = .ok (.bipush 61, 2) := by decide +kernel
theorem dX11_takesOne_51 : decode cX11_takesOne 51 = .ok (.dup2, 1) := by decide +kernel
theorem dX11_takesOne_52 : decode cX11_takesOne 52 = .ok (.iaload, 1) := by decide +kernel
theorem dX11_takesOne_53 : decode cX11_takesOne 53 = .ok (.iconst 1, 1) := by decide +kernel
theorem dX11_takesOne_54 : decode cX11_takesOne 54 = .ok (.iadd, 1) := by decide +kernel
theorem dX11_takesOne_55 : decode cX11_takesOne 55 = .ok (.iastore, 1) := by decide +kernel
theorem dX11_takesOne_56 : decode cX11_takesOne 56 = .ok (.iconst 1, 1) := by decide +kernel
theorem dX11_takesOne_57 : decode cX11_takesOne 57 = .ok (.ireturn, 1) := by decide +kernel
set_option maxRecDepth 20000 in
theorem ggX11_takesLikes_X11_takes : GoodIn wsX11_takesLikes wsX11_takes := goodIn_r _ [7, 2, 8, 9, 10, 11, 12, 13, 6, 14, 15, 16, 17, 18, 19, 20, 21, 22, 23, 24, 25, 26, 27, 28, 29, 30, 31, 32, 33, 34, 35, 36, 37, 38, 39, 40, 41, 42, 43, 44, 45, 46, 47, 48, 49, 50, 51, 52, 53, 54, 55, 56, 57] (by decide +kernel) (by decide +kernel)
set_option maxRecDepth 20000 in
theorem gX11_takesLikes_X11_takes : GoodIn wsX11_takesLikes (wsV RX11 127 RX11 yX11_takes wsX11_takes) := goodIn_app (goodIn_of _ (by decide +kernel)) ggX11_takesLikes_X11_takes
theorem dX11_takesLikes_0 : decode cX11_takesLikes 0 = .ok (.aload_n 0, 1) := by decide +kernel
theorem dX11_takesLikes_1 : decode cX11_takesLikes 1 = .ok (.iconst 0, 1) := by decide +kernel
theorem dX11_takesLikes_2 : decode cX11_takesLikes 2 = .ok (.aload_n 0, 1) := by decide +kernel
theorem dX11_takesLikes_3 : decode cX11_takesLikes 3 = .ok (.getfield 7, 3) := by decide +kernel
theorem dX11_takesLikes_6 : decode cX11_takesLikes 6 = .ok (.bipush 61, 2) := by decide +kernel
theorem dX11_takesLikes_8 : decode cX11_takesLikes 8 = .ok (.iaload, 1) := by decide +kernel
theorem dX11_takesLikes_9 : decode cX11_takesLikes 9 = .ok (.iconst 1, 1) := by decide +kernel
theorem dX11_takesLikes_10 : decode cX11_takesLikes 10 = .ok (.isub, 1) := by decide +kernel
theorem dX11_takesLikes_11 : decode cX11_takesLikes 11 = .ok (.invokevirtual 127, 3) := by decide +kernel
theorem dX11_takesLikes_14 : decode cX11_takesLikes 14 = .ok (.ifCond .ne 5, 3) := by decide +kernel
theorem dX11_takesLikes_17 : decode cX11_takesLikes 17 = .ok (.iconst 0, 1) := by decide +kernel
theorem dX11_takesLikes_18 : decode cX11_takesLikes 18 = .ok (.ireturn, 1) := by decide +kernel
theorem dX11_takesLikes_19 : decode cX11_takesLikes 19 = .ok (.aload_n 0, 1) := by decide +kernel
theorem dX11_takesLikes_20 : decode cX11_takesLikes 20 = .ok (.getfield 120, 3) := by decide +kernel
theorem dX11_takesLikes_23 : decode cX11_takesLikes 23 = .ok (.istore_n 1, 1) := by decide +kernel
theorem dX11_takesLikes_24 : decode cX11_takesLikes 24 = .ok (.aload_n 0, 1) := by decide +kernel
theorem dX11_takesLikes_25 : decode cX11_takesLikes 25 = .ok (.iconst 0, 1) := by decide +kernel
theorem dX11_takesLikes_26 : decode cX11_takesLikes 26 = .ok (.aload_n 0, 1) := by decide +kernel
theorem dX11_takesLikes_27 : decode cX11_takesLikes 27 = .ok (.getfield 7, 3) := by decide +kernel
theorem dX11_takesLikes_30 : decode cX11_takesLikes 30 = .ok (.bipush 61, 2) := by decide +kernel
theorem dX11_takesLikes_32 : decode cX11_takesLikes 32 = .ok (.iaload, 1) := by decide +kernel
theorem dX11_takesLikes_33 : decode cX11_takesLikes 33 = .ok (.iconst 1, 1) := by decide +kernel
theorem dX11_takesLikes_34 : decode cX11_takesLikes 34 = .ok (.isub, 1) := by decide +kernel
theorem dX11_takesLikes_35 : decode cX11_takesLikes 35 = .ok (.invokevirtual 127, 3) := by decide +kernel
theorem dX11_takesLikes_38 : decode cX11_takesLikes 38 = .ok (.ifCond .eq 11, 3) := by decide +kernel
theorem dX11_takesLikes_41 : decode cX11_takesLikes 41 = .ok (.aload_n 0, 1) := by decide +kernel
theorem dX11_takesLikes_42 : decode cX11_takesLikes 42 = .ok (.getfield 120, 3) := by decide +kernel
theorem dX11_takesLikes_45 : decode cX11_takesLikes 45 = .ok (.iload_n 1, 1) := by decide +kernel
theorem dX11_takesLikes_46 : decode cX11_takesLikes 46 = .ok (.if_icmp .ne 5, 3) := by decide +kernel
theorem dX11_takesLikes_49 : decode cX11_takesLikes 49 = .ok (.iconst 0, 1) := by decide +kernel
theorem dX11_takesLikes_50 : decode cX11_takesLikes 50 = .ok (.ireturn, 1) := by decide +kernel
theorem dX11_takesLikes_51 : decode cX11_takesLikes 51 = .ok (.aload_n 0, 1) := by decide +kernel
theorem dX11_takesLikes_52 : decode cX11_takesLikes 52 = .ok (.getfield 7, 3) := by decide +kernel
theorem dX11_takesLikes_55 : decode cX11_takesLikes 55 = .ok (.bipush 67, 2) := by decide +kernel
theorem dX11_takesLikes_57 : decode cX11_takesLikes 57 = .ok (.iload_n 1, 1) := by decide +kernel
theorem dX11_takesLikes_58 : decode cX11_takesLikes 58 = .ok (.iadd, 1) := by decide +kernel
theorem dX11_takesLikes_59 : decode cX11_takesLikes 59 = .ok (.dup2, 1) := by decide +kernel
theorem dX11_takesLikes_60 : decode cX11_takesLikes 60 = .ok (.iaload, 1) := by decide +kernel
theorem dX11_takesLikes_61 : decode cX11_takesLikes 61 = .ok (.iconst 1, 1) := by decide +kernel
theorem dX11_takesLikes_62 : decode cX11_takesLikes 62 = .ok (.aload_n 0, 1) := by decide +kernel
theorem dX11_takesLikes_63 : decode cX11_takesLikes 63 = .ok (.getfield 120, 3) := by decide +kernel
theorem dX11_takesLikes_66 : decode cX11_takesLikes 66 = .ok (.ishl, 1) := by decide +kernel
theorem dX11_takesLikes_67 : decode cX11_takesLikes 67 = .ok (.ior, 1) := by decide +kernel
theorem dX11_takesLikes_68 : decode cX11_takesLikes 68 = .ok (.iastore, 1) := by decide +kernel
theorem dX11_takesLikes_69 : decode cX11_takesLikes 69 = .ok (.iconst 1, 1) := by decide +kernel
theorem dX11_takesLikes_70 : decode cX11_takesLikes 70 = .ok (.ireturn, 1) := by decide +kernel
set_option maxRecDepth 20000 in
theorem ggX11_takesWork_X11_takes : GoodIn wsX11_takesWork wsX11_takes := goodIn_r _ [7, 2, 8, 9, 10, 11, 12, 13, 6, 14, 15, 16, 17, 18, 19, 20, 21, 22, 23, 24, 25, 26, 27, 28, 29, 30, 31, 32, 33, 34, 35, 36, 37, 38, 39, 40, 41, 42, 43, 44, 45, 46, 47, 48, 49, 50, 51, 52, 53, 54, 55, 56, 57] (by decide +kernel) (by decide +kernel)
set_option maxRecDepth 20000 in
theorem gX11_takesWork_X11_takes : GoodIn wsX11_takesWork (wsV RX11 127 RX11 yX11_takes wsX11_takes) := goodIn_app (goodIn_of _ (by decide +kernel)) ggX11_takesWork_X11_takes
theorem dX11_takesWork_0 : decode cX11_takesWork 0 = .ok (.aload_n 0, 1) := by decide +kernel
theorem dX11_takesWork_1 : decode cX11_takesWork 1 = .ok (.getfield 7, 3) := by decide +kernel
theorem dX11_takesWork_4 : decode cX11_takesWork 4 = .ok (.bipush 72, 2) := by decide +kernel
theorem dX11_takesWork_6 : decode cX11_takesWork 6 = .ok (.iaload, 1) := by decide +kernel
theorem dX11_takesWork_7 : decode cX11_takesWork 7 = .ok (.istore_n 1, 1) := by decide +kernel
theorem dX11_takesWork_8 : decode cX11_takesWork 8 = .ok (.iload_n 1, 1) := by decide +kernel
theorem dX11_takesWork_9 : decode cX11_takesWork 9 = .ok (.bipush 6, 2) := by decide +kernel
theorem dX11_takesWork_11 : decode cX11_takesWork 11 = .ok (.if_icmp .eq 12, 3) := by decide +kernel
theorem dX11_takesWork_14 : decode cX11_takesWork 14 = .ok (.aload_n 0, 1) := by decide +kernel
theorem dX11_takesWork_15 : decode cX11_takesWork 15 = .ok (.iconst 0, 1) := by decide +kernel
theorem dX11_takesWork_16 : decode cX11_takesWork 16 = .ok (.iconst 2, 1) := by decide +kernel
theorem dX11_takesWork_17 : decode cX11_takesWork 17 = .ok (.invokevirtual 127, 3) := by decide +kernel
theorem dX11_takesWork_20 : decode cX11_takesWork 20 = .ok (.ifCond .ne 5, 3) := by decide +kernel
theorem dX11_takesWork_23 : decode cX11_takesWork 23 = .ok (.iconst 0, 1) := by decide +kernel
theorem dX11_takesWork_24 : decode cX11_takesWork 24 = .ok (.ireturn, 1) := by decide +kernel
theorem dX11_takesWork_25 : decode cX11_takesWork 25 = .ok (.aload_n 0, 1) := by decide +kernel
theorem dX11_takesWork_26 : decode cX11_takesWork 26 = .ok (.getfield 7, 3) := by decide +kernel
theorem dX11_takesWork_29 : decode cX11_takesWork 29 = .ok (.bipush 73, 2) := by decide +kernel
theorem dX11_takesWork_31 : decode cX11_takesWork 31 = .ok (.iload_n 1, 1) := by decide +kernel
theorem dX11_takesWork_32 : decode cX11_takesWork 32 = .ok (.iadd, 1) := by decide +kernel
theorem dX11_takesWork_33 : decode cX11_takesWork 33 = .ok (.aload_n 0, 1) := by decide +kernel
theorem dX11_takesWork_34 : decode cX11_takesWork 34 = .ok (.getfield 120, 3) := by decide +kernel
theorem dX11_takesWork_37 : decode cX11_takesWork 37 = .ok (.iastore, 1) := by decide +kernel
theorem dX11_takesWork_38 : decode cX11_takesWork 38 = .ok (.aload_n 0, 1) := by decide +kernel
theorem dX11_takesWork_39 : decode cX11_takesWork 39 = .ok (.iconst 1, 1) := by decide +kernel
theorem dX11_takesWork_40 : decode cX11_takesWork 40 = .ok (.bipush 60, 2) := by decide +kernel
theorem dX11_takesWork_42 : decode cX11_takesWork 42 = .ok (.invokevirtual 127, 3) := by decide +kernel
theorem dX11_takesWork_45 : decode cX11_takesWork 45 = .ok (.ifCond .ne 5, 3) := by decide +kernel
theorem dX11_takesWork_48 : decode cX11_takesWork 48 = .ok (.iconst 0, 1) := by decide +kernel
theorem dX11_takesWork_49 : decode cX11_takesWork 49 = .ok (.ireturn, 1) := by decide +kernel
theorem dX11_takesWork_50 : decode cX11_takesWork 50 = .ok (.aload_n 0, 1) := by decide +kernel
theorem dX11_takesWork_51 : decode cX11_takesWork 51 = .ok (.getfield 7, 3) := by decide +kernel
theorem dX11_takesWork_54 : decode cX11_takesWork 54 = .ok (.bipush 79, 2) := by decide +kernel
theorem dX11_takesWork_56 : decode cX11_takesWork 56 = .ok (.iload_n 1, 1) := by decide +kernel
theorem dX11_takesWork_57 : decode cX11_takesWork 57 = .ok (.iadd, 1) := by decide +kernel
theorem dX11_takesWork_58 : decode cX11_takesWork 58 = .ok (.aload_n 0, 1) := by decide +kernel
theorem dX11_takesWork_59 : decode cX11_takesWork 59 = .ok (.getfield 120, 3) := by decide +kernel
theorem dX11_takesWork_62 : decode cX11_takesWork 62 = .ok (.iastore, 1) := by decide +kernel
theorem dX11_takesWork_63 : decode cX11_takesWork 63 = .ok (.aload_n 0, 1) := by decide +kernel
theorem dX11_takesWork_64 : decode cX11_takesWork 64 = .ok (.iconst 1, 1) := by decide +kernel
theorem dX11_takesWork_65 : decode cX11_takesWork 65 = .ok (.bipush 9, 2) := by decide +kernel
theorem dX11_takesWork_67 : decode cX11_takesWork 67 = .ok (.invokevirtual 127, 3) := by decide +kernel
theorem dX11_takesWork_70 : decode cX11_takesWork 70 = .ok (.ifCond .ne 5, 3) := by decide +kernel
theorem dX11_takesWork_73 : decode cX11_takesWork 73 = .ok (.iconst 0, 1) := by decide +kernel
theorem dX11_takesWork_74 : decode cX11_takesWork 74 = .ok (.ireturn, 1) := by decide +kernel
theorem dX11_takesWork_75 : decode cX11_takesWork 75 = .ok (.aload_n 0, 1) := by decide +kernel
theorem dX11_takesWork_76 : decode cX11_takesWork 76 = .ok (.getfield 7, 3) := by decide +kernel
theorem dX11_takesWork_79 : decode cX11_takesWork 79 = .ok (.bipush 85, 2) := by decide +kernel
theorem dX11_takesWork_81 : decode cX11_takesWork 81 = .ok (.iload_n 1, 1) := by decide +kernel
theorem dX11_takesWork_82 : decode cX11_takesWork 82 = .ok (.iadd, 1) := by decide +kernel
theorem dX11_takesWork_83 : decode cX11_takesWork 83 = .ok (.aload_n 0, 1) := by decide +kernel
theorem dX11_takesWork_84 : decode cX11_takesWork 84 = .ok (.getfield 120, 3) := by decide +kernel
theorem dX11_takesWork_87 : decode cX11_takesWork 87 = .ok (.iastore, 1) := by decide +kernel
theorem dX11_takesWork_88 : decode cX11_takesWork 88 = .ok (.aload_n 0, 1) := by decide +kernel
theorem dX11_takesWork_89 : decode cX11_takesWork 89 = .ok (.iconst 0, 1) := by decide +kernel
theorem dX11_takesWork_90 : decode cX11_takesWork 90 = .ok (.bipush 50, 2) := by decide +kernel
theorem dX11_takesWork_92 : decode cX11_takesWork 92 = .ok (.invokevirtual 127, 3) := by decide +kernel
theorem dX11_takesWork_95 : decode cX11_takesWork 95 = .ok (.ifCond .ne 5, 3) := by decide +kernel
theorem dX11_takesWork_98 : decode cX11_takesWork 98 = .ok (.iconst 0, 1) := by decide +kernel
theorem dX11_takesWork_99 : decode cX11_takesWork 99 = .ok (.ireturn, 1) := by decide +kernel
theorem dX11_takesWork_100 : decode cX11_takesWork 100 = .ok (.aload_n 0, 1) := by decide +kernel
theorem dX11_takesWork_101 : decode cX11_takesWork 101 = .ok (.getfield 7, 3) := by decide +kernel
theorem dX11_takesWork_104 : decode cX11_takesWork 104 = .ok (.bipush 91, 2) := by decide +kernel
theorem dX11_takesWork_106 : decode cX11_takesWork 106 = .ok (.iload_n 1, 1) := by decide +kernel
theorem dX11_takesWork_107 : decode cX11_takesWork 107 = .ok (.iadd, 1) := by decide +kernel
theorem dX11_takesWork_108 : decode cX11_takesWork 108 = .ok (.aload_n 0, 1) := by decide +kernel
theorem dX11_takesWork_109 : decode cX11_takesWork 109 = .ok (.getfield 120, 3) := by decide +kernel
theorem dX11_takesWork_112 : decode cX11_takesWork 112 = .ok (.iastore, 1) := by decide +kernel
theorem dX11_takesWork_113 : decode cX11_takesWork 113 = .ok (.aload_n 0, 1) := by decide +kernel
theorem dX11_takesWork_114 : decode cX11_takesWork 114 = .ok (.getfield 7, 3) := by decide +kernel
theorem dX11_takesWork_117 : decode cX11_takesWork 117 = .ok (.bipush 72, 2) := by decide +kernel
theorem dX11_takesWork_119 : decode cX11_takesWork 119 = .ok (.dup2, 1) := by decide +kernel
theorem dX11_takesWork_120 : decode cX11_takesWork 120 = .ok (.iaload, 1) := by decide +kernel
theorem dX11_takesWork_121 : decode cX11_takesWork 121 = .ok (.iconst 1, 1) := by decide +kernel
theorem dX11_takesWork_122 : decode cX11_takesWork 122 = .ok (.iadd, 1) := by decide +kernel
theorem dX11_takesWork_123 : decode cX11_takesWork 123 = .ok (.iastore, 1) := by decide +kernel
theorem dX11_takesWork_124 : decode cX11_takesWork 124 = .ok (.iconst 1, 1) := by decide +kernel
theorem dX11_takesWork_125 : decode cX11_takesWork 125 = .ok (.ireturn, 1) := by decide +kernel
set_option maxRecDepth 20000 in
theorem ggX11_takesGood_X11_takes : GoodIn wsX11_takesGood wsX11_takes := goodIn_r _ [7, 2, 8, 9, 10, 11, 12, 13, 6, 14, 15, 16, 17, 18, 19, 20, 21, 22, 23, 24, 25, 26, 27, 28, 29, 30, 31, 32, 33, 34, 35, 36, 37, 38, 39, 40, 41, 42, 43, 44, 45, 46, 47, 48, 49, 50, 51, 52, 53, 54, 55, 56, 57] (by decide +kernel) (by decide +kernel)
set_option maxRecDepth 20000 in
theorem gX11_takesGood_X11_takes : GoodIn wsX11_takesGood (wsV RX11 127 RX11 yX11_takes wsX11_takes) := goodIn_app (goodIn_of _ (by decide +kernel)) ggX11_takesGood_X11_takes
theorem dX11_takesGood_0 : decode cX11_takesGood 0 = .ok (.aload_n 0, 1) := by decide +kernel
theorem dX11_takesGood_1 : decode cX11_takesGood 1 = .ok (.getfield 7, 3) := by decide +kernel
theorem dX11_takesGood_4 : decode cX11_takesGood 4 = .ok (.bipush 98, 2) := by decide +kernel
theorem dX11_takesGood_6 : decode cX11_takesGood 6 = .ok (.iaload, 1) := by decide +kernel
theorem dX11_takesGood_7 : decode cX11_takesGood 7 = .ok (.istore_n 2, 1) := by decide +kernel
theorem dX11_takesGood_8 : decode cX11_takesGood 8 = .ok (.iload_n 2, 1) := by decide +kernel
theorem dX11_takesGood_9 : decode cX11_takesGood 9 = .ok (.iconst 5, 1) := by decide +kernel
theorem dX11_takesGood_10 : decode cX11_takesGood 10 = .ok (.if_icmp .eq 13, 3) := by decide +kernel
theorem dX11_takesGood_13 : decode cX11_takesGood 13 = .ok (.aload_n 0, 1) := by decide +kernel
theorem dX11_takesGood_14 : decode cX11_takesGood 14 = .ok (.iconst 0, 1) := by decide +kernel
theorem dX11_takesGood_15 : decode cX11_takesGood 15 = .ok (.bipush 99, 2) := by decide +kernel
theorem dX11_takesGood_17 : decode cX11_takesGood 17 = .ok (.invokevirtual 127, 3) := by decide +kernel
theorem dX11_takesGood_20 : decode cX11_takesGood 20 = .ok (.ifCond .ne 5, 3) := by decide +kernel
theorem dX11_takesGood_23 : decode cX11_takesGood 23 = .ok (.iconst 0, 1) := by decide +kernel
theorem dX11_takesGood_24 : decode cX11_takesGood 24 = .ok (.ireturn, 1) := by decide +kernel
theorem dX11_takesGood_25 : decode cX11_takesGood 25 = .ok (.aload_n 0, 1) := by decide +kernel
theorem dX11_takesGood_26 : decode cX11_takesGood 26 = .ok (.getfield 7, 3) := by decide +kernel
theorem dX11_takesGood_29 : decode cX11_takesGood 29 = .ok (.bipush 99, 2) := by decide +kernel
theorem dX11_takesGood_31 : decode cX11_takesGood 31 = .ok (.iload_n 2, 1) := by decide +kernel
theorem dX11_takesGood_32 : decode cX11_takesGood 32 = .ok (.iadd, 1) := by decide +kernel
theorem dX11_takesGood_33 : decode cX11_takesGood 33 = .ok (.aload_n 0, 1) := by decide +kernel
theorem dX11_takesGood_34 : decode cX11_takesGood 34 = .ok (.getfield 120, 3) := by decide +kernel
theorem dX11_takesGood_37 : decode cX11_takesGood 37 = .ok (.iastore, 1) := by decide +kernel
theorem dX11_takesGood_38 : decode cX11_takesGood 38 = .ok (.aload_n 0, 1) := by decide +kernel
theorem dX11_takesGood_39 : decode cX11_takesGood 39 = .ok (.iconst 0, 1) := by decide +kernel
theorem dX11_takesGood_40 : decode cX11_takesGood 40 = .ok (.bipush 9, 2) := by decide +kernel
theorem dX11_takesGood_42 : decode cX11_takesGood 42 = .ok (.invokevirtual 127, 3) := by decide +kernel
theorem dX11_takesGood_45 : decode cX11_takesGood 45 = .ok (.ifCond .ne 5, 3) := by decide +kernel
theorem dX11_takesGood_48 : decode cX11_takesGood 48 = .ok (.iconst 0, 1) := by decide +kernel
theorem dX11_takesGood_49 : decode cX11_takesGood 49 = .ok (.ireturn, 1) := by decide +kernel
theorem dX11_takesGood_50 : decode cX11_takesGood 50 = .ok (.aload_n 0, 1) := by decide +kernel
theorem dX11_takesGood_51 : decode cX11_takesGood 51 = .ok (.getfield 7, 3) := by decide +kernel
theorem dX11_takesGood_54 : decode cX11_takesGood 54 = .ok (.bipush 104, 2) := by decide +kernel
theorem dX11_takesGood_56 : decode cX11_takesGood 56 = .ok (.iload_n 2, 1) := by decide +kernel
theorem dX11_takesGood_57 : decode cX11_takesGood 57 = .ok (.iadd, 1) := by decide +kernel
theorem dX11_takesGood_58 : decode cX11_takesGood 58 = .ok (.aload_n 0, 1) := by decide +kernel
theorem dX11_takesGood_59 : decode cX11_takesGood 59 = .ok (.getfield 120, 3) := by decide +kernel
theorem dX11_takesGood_62 : decode cX11_takesGood 62 = .ok (.iastore, 1) := by decide +kernel
theorem dX11_takesGood_63 : decode cX11_takesGood 63 = .ok (.aload_n 0, 1) := by decide +kernel
theorem dX11_takesGood_64 : decode cX11_takesGood 64 = .ok (.getfield 7, 3) := by decide +kernel
theorem dX11_takesGood_67 : decode cX11_takesGood 67 = .ok (.bipush 109, 2) := by decide +kernel
theorem dX11_takesGood_69 : decode cX11_takesGood 69 = .ok (.iload_n 2, 1) := by decide +kernel
theorem dX11_takesGood_70 : decode cX11_takesGood 70 = .ok (.iadd, 1) := by decide +kernel
theorem dX11_takesGood_71 : decode cX11_takesGood 71 = .ok (.iload_n 1, 1) := by decide +kernel
theorem dX11_takesGood_72 : decode cX11_takesGood 72 = .ok (.iastore, 1) := by decide +kernel
theorem dX11_takesGood_73 : decode cX11_takesGood 73 = .ok (.aload_n 0, 1) := by decide +kernel
theorem dX11_takesGood_74 : decode cX11_takesGood 74 = .ok (.getfield 7, 3) := by decide +kernel
theorem dX11_takesGood_77 : decode cX11_takesGood 77 = .ok (.bipush 98, 2) := by decide +kernel
theorem dX11_takesGood_79 : decode cX11_takesGood 79 = .ok (.dup2, 1) := by decide +kernel
theorem dX11_takesGood_80 : decode cX11_takesGood 80 = .ok (.iaload, 1) := by decide +kernel
theorem dX11_takesGood_81 : decode cX11_takesGood 81 = .ok (.iconst 1, 1) := by decide +kernel
theorem dX11_takesGood_82 : decode cX11_takesGood 82 = .ok (.iadd, 1) := by decide +kernel
theorem dX11_takesGood_83 : decode cX11_takesGood 83 = .ok (.iastore, 1) := by decide +kernel
theorem dX11_takesGood_84 : decode cX11_takesGood 84 = .ok (.iconst 1, 1) := by decide +kernel
theorem dX11_takesGood_85 : decode cX11_takesGood 85 = .ok (.ireturn, 1) := by decide +kernel
set_option maxRecDepth 20000 in
theorem ggX11_takesWorld_X11_takes : GoodIn wsX11_takesWorld wsX11_takes := goodIn_r _ [7, 1, 8, 9, 10, 11, 12, 13, 6, 14, 15, 16, 17, 18, 19, 20, 21, 22, 23, 24, 25, 26, 27, 28, 29, 30, 31, 32, 33, 34, 35, 36, 37, 38, 39, 40, 41, 42, 43, 44, 45, 46, 47, 48, 49, 50, 51, 52, 53, 54, 55, 56, 57] (by decide +kernel) (by decide +kernel)
set_option maxRecDepth 20000 in
theorem gX11_takesWorld_X11_takes : GoodIn wsX11_takesWorld (wsV RX11 127 RX11 yX11_takes wsX11_takes) := goodIn_app (goodIn_of _ (by decide +kernel)) ggX11_takesWorld_X11_takes
theorem dX11_takesWorld_0 : decode cX11_takesWorld 0 = .ok (.aload_n 0, 1) := by decide +kernel
theorem dX11_takesWorld_1 : decode cX11_takesWorld 1 = .ok (.iconst 0, 1) := by decide +kernel
theorem dX11_takesWorld_2 : decode cX11_takesWorld 2 = .ok (.iconst 3, 1) := by decide +kernel
theorem dX11_takesWorld_3 : decode cX11_takesWorld 3 = .ok (.invokevirtual 127, 3) := by decide +kernel
theorem dX11_takesWorld_6 : decode cX11_takesWorld 6 = .ok (.ifCond .ne 5, 3) := by decide +kernel
theorem dX11_takesWorld_9 : decode cX11_takesWorld 9 = .ok (.iconst 0, 1) := by decide +kernel
theorem dX11_takesWorld_10 : decode cX11_takesWorld 10 = .ok (.ireturn, 1) := by decide +kernel
theorem dX11_takesWorld_11 : decode cX11_takesWorld 11 = .ok (.aload_n 0, 1) := by decide +kernel
theorem dX11_takesWorld_12 : decode cX11_takesWorld 12 = .ok (.getfield 120, 3) := by decide +kernel
theorem dX11_takesWorld_15 : decode cX11_takesWorld 15 = .ok (.istore_n 1, 1) := by decide +kernel
theorem dX11_takesWorld_16 : decode cX11_takesWorld 16 = .ok (.aload_n 0, 1) := by decide +kernel
theorem dX11_takesWorld_17 : decode cX11_takesWorld 17 = .ok (.iconst 0, 1) := by decide +kernel
theorem dX11_takesWorld_18 : decode cX11_takesWorld 18 = .ok (.iconst 3, 1) := by decide +kernel
theorem dX11_takesWorld_19 : decode cX11_takesWorld 19 = .ok (.invokevirtual 127, 3) := by decide +kernel
theorem dX11_takesWorld_22 : decode cX11_takesWorld 22 = .ok (.ifCond .eq 11, 3) := by decide +kernel
theorem dX11_takesWorld_25 : decode cX11_takesWorld 25 = .ok (.aload_n 0, 1) := by decide +kernel
theorem dX11_takesWorld_26 : decode cX11_takesWorld 26 = .ok (.getfield 120, 3) := by decide +kernel
theorem dX11_takesWorld_29 : decode cX11_takesWorld 29 = .ok (.iload_n 1, 1) := by decide +kernel
theorem dX11_takesWorld_30 : decode cX11_takesWorld 30 = .ok (.if_icmp .ne 5, 3) := by decide +kernel
theorem dX11_takesWorld_33 : decode cX11_takesWorld 33 = .ok (.iconst 0, 1) := by decide +kernel
theorem dX11_takesWorld_34 : decode cX11_takesWorld 34 = .ok (.ireturn, 1) := by decide +kernel
theorem dX11_takesWorld_35 : decode cX11_takesWorld 35 = .ok (.aload_n 0, 1) := by decide +kernel
theorem dX11_takesWorld_36 : decode cX11_takesWorld 36 = .ok (.getfield 120, 3) := by decide +kernel
theorem dX11_takesWorld_39 : decode cX11_takesWorld 39 = .ok (.istore_n 2, 1) := by decide +kernel
theorem dX11_takesWorld_40 : decode cX11_takesWorld 40 = .ok (.aload_n 0, 1) := by decide +kernel
theorem dX11_takesWorld_41 : decode cX11_takesWorld 41 = .ok (.iconst 0, 1) := by decide +kernel
theorem dX11_takesWorld_42 : decode cX11_takesWorld 42 = .ok (.bipush 9, 2) := by decide +kernel
theorem dX11_takesWorld_44 : decode cX11_takesWorld 44 = .ok (.invokevirtual 127, 3) := by decide +kernel
theorem dX11_takesWorld_47 : decode cX11_takesWorld 47 = .ok (.ifCond .ne 5, 3) := by decide +kernel
theorem dX11_takesWorld_50 : decode cX11_takesWorld 50 = .ok (.iconst 0, 1) := by decide +kernel
theorem dX11_takesWorld_51 : decode cX11_takesWorld 51 = .ok (.ireturn, 1) := by decide +kernel
theorem dX11_takesWorld_52 : decode cX11_takesWorld 52 = .ok (.aload_n 0, 1) := by decide +kernel
theorem dX11_takesWorld_53 : decode cX11_takesWorld 53 = .ok (.getfield 7, 3) := by decide +kernel
theorem dX11_takesWorld_56 : decode cX11_takesWorld 56 = .ok (.bipush 114, 2) := by decide +kernel
theorem dX11_takesWorld_58 : decode cX11_takesWorld 58 = .ok (.iload_n 1, 1) := by decide +kernel
theorem dX11_takesWorld_59 : decode cX11_takesWorld 59 = .ok (.iadd, 1) := by decide +kernel
theorem dX11_takesWorld_60 : decode cX11_takesWorld 60 = .ok (.iload_n 2, 1) := by decide +kernel
theorem dX11_takesWorld_61 : decode cX11_takesWorld 61 = .ok (.iastore, 1) := by decide +kernel
theorem dX11_takesWorld_62 : decode cX11_takesWorld 62 = .ok (.aload_n 0, 1) := by decide +kernel
theorem dX11_takesWorld_63 : decode cX11_takesWorld 63 = .ok (.getfield 7, 3) := by decide +kernel
theorem dX11_takesWorld_66 : decode cX11_takesWorld 66 = .ok (.bipush 118, 2) := by decide +kernel
theorem dX11_takesWorld_68 : decode cX11_takesWorld 68 = .ok (.iload_n 1, 1) := by decide +kernel
theorem dX11_takesWorld_69 : decode cX11_takesWorld 69 = .ok (.iadd, 1) := by decide +kernel
theorem dX11_takesWorld_70 : decode cX11_takesWorld 70 = .ok (.aload_n 0, 1) := by decide +kernel
theorem dX11_takesWorld_71 : decode cX11_takesWorld 71 = .ok (.getfield 120, 3) := by decide +kernel
theorem dX11_takesWorld_74 : decode cX11_takesWorld 74 = .ok (.iastore, 1) := by decide +kernel
theorem dX11_takesWorld_75 : decode cX11_takesWorld 75 = .ok (.iconst 1, 1) := by decide +kernel
theorem dX11_takesWorld_76 : decode cX11_takesWorld 76 = .ok (.ireturn, 1) := by decide +kernel
set_option maxRecDepth 20000 in
theorem ggX11_takesLength_X11_takes : GoodIn wsX11_takesLength wsX11_takes := goodIn_r _ [7, 2, 8, 9, 10, 11, 12, 13, 6, 14, 15, 16, 17, 18, 19, 20, 21, 22, 23, 24, 25, 26, 27, 28, 29, 30, 31, 32, 33, 34, 35, 36, 37, 38, 39, 40, 41, 42, 43, 44, 45, 46, 47, 48, 49, 50, 51, 52, 53, 54, 55, 56, 57] (by decide +kernel) (by decide +kernel)
set_option maxRecDepth 20000 in
theorem gX11_takesLength_X11_takes : GoodIn wsX11_takesLength (wsV RX11 127 RX11 yX11_takes wsX11_takes) := goodIn_app (goodIn_of _ (by decide +kernel)) ggX11_takesLength_X11_takes
theorem dX11_takesLength_0 : decode cX11_takesLength 0 = .ok (.aload_n 0, 1) := by decide +kernel
theorem dX11_takesLength_1 : decode cX11_takesLength 1 = .ok (.iconst 1, 1) := by decide +kernel
theorem dX11_takesLength_2 : decode cX11_takesLength 2 = .ok (.bipush 99, 2) := by decide +kernel
theorem dX11_takesLength_4 : decode cX11_takesLength 4 = .ok (.invokevirtual 127, 3) := by decide +kernel
theorem dX11_takesLength_7 : decode cX11_takesLength 7 = .ok (.istore_n 1, 1) := by decide +kernel
theorem dX11_takesLength_8 : decode cX11_takesLength 8 = .ok (.aload_n 0, 1) := by decide +kernel
theorem dX11_takesLength_9 : decode cX11_takesLength 9 = .ok (.getfield 7, 3) := by decide +kernel
theorem dX11_takesLength_12 : decode cX11_takesLength 12 = .ok (.bipush 97, 2) := by decide +kernel
theorem dX11_takesLength_14 : decode cX11_takesLength 14 = .ok (.aload_n 0, 1) := by decide +kernel
theorem dX11_takesLength_15 : decode cX11_takesLength 15 = .ok (.getfield 120, 3) := by decide +kernel
theorem dX11_takesLength_18 : decode cX11_takesLength 18 = .ok (.iastore, 1) := by decide +kernel
theorem dX11_takesLength_19 : decode cX11_takesLength 19 = .ok (.iload_n 1, 1) := by decide +kernel
theorem dX11_takesLength_20 : decode cX11_takesLength 20 = .ok (.ireturn, 1) := by decide +kernel
set_option maxRecDepth 20000 in
theorem ggX11_takesClause_X11_takesOne : GoodIn wsX11_takesClause wsX11_takesOne := goodIn_r _ [5, 6, 61, 62, 63, 64, 65, 66, 67, 68, 69, 70, 71, 72, 73, 74, 75, 76, 77, 78, 79, 80, 81, 82, 83, 84, 85, 86, 87, 88, 89] (by decide +kernel) (by decide +kernel)
set_option maxRecDepth 20000 in
theorem gX11_takesClause_X11_takesOne : GoodIn wsX11_takesClause (wsV RX11 131 RX11 yX11_takesOne wsX11_takesOne) := goodIn_app (goodIn_of _ (by decide +kernel)) ggX11_takesClause_X11_takesOne
set_option maxRecDepth 20000 in
theorem ggX11_takesClause_X11_begins : GoodIn wsX11_takesClause wsX11_begins := goodIn_r _ [10, 6, 11, 12, 13, 4, 14, 61, 62, 63, 64, 65, 66, 67, 68, 69, 70, 71, 72, 73, 74, 75, 76, 77, 78, 79, 80, 81, 82, 83, 84, 85, 86, 87, 88, 89] (by decide +kernel) (by decide +kernel)
set_option maxRecDepth 20000 in
theorem gX11_takesClause_X11_begins : GoodIn wsX11_takesClause (wsV RX11 58 RX11 yX11_begins wsX11_begins) := goodIn_app (goodIn_of _ (by decide +kernel)) ggX11_takesClause_X11_begins
set_option maxRecDepth 20000 in
theorem ggX11_takesClause_X11_takesLikes : GoodIn wsX11_takesClause wsX11_takesLikes := goodIn_r _ [18, 6, 19, 20, 21, 22, 4, 23, 24, 25, 26, 27, 28, 29, 30, 31, 32, 33, 34, 35, 36, 37, 38, 39, 40, 41, 42, 43, 44, 61, 62, 63, 64, 65, 66, 67, 68, 69, 70, 71, 72, 73, 74, 75, 76, 77, 78, 79, 80, 81, 82, 83, 84, 85, 86, 87, 88, 89] (by decide +kernel) (by decide +kernel)
set_option maxRecDepth 20000 in
theorem gX11_takesClause_X11_takesLikes : GoodIn wsX11_takesClause (wsV RX11 135 RX11 yX11_takesLikes wsX11_takesLikes) := goodIn_app (goodIn_of _ (by decide +kernel)) ggX11_takesClause_X11_takesLikes
set_option maxRecDepth 20000 in
theorem ggX11_takesClause_X11_takesWork : GoodIn wsX11_takesClause wsX11_takesWork := goodIn_r _ [48, 6, 19, 20, 21, 22, 4, 23, 24, 25, 26, 27, 28, 29, 30, 31, 32, 33, 34, 35, 36, 37, 38, 39, 40, 41, 42, 43, 44, 61, 62, 63, 64, 65, 66, 67, 68, 69, 70, 71, 72, 73, 74, 75, 76, 77, 78, 79, 80, 81, 82, 83, 84, 85, 86, 87, 88, 89] (by decide +kernel) (by decide +kernel)
set_option maxRecDepth 20000 in
theorem gX11_takesClause_X11_takesWork : GoodIn wsX11_takesClause (wsV RX11 139 RX11 yX11_takesWork wsX11_takesWork) := goodIn_app (goodIn_of _ (by decide +kernel)) ggX11_takesClause_X11_takesWork
set_option maxRecDepth 20000 in
theorem ggX11_takesClause_X11_takesGood : GoodIn wsX11_takesClause wsX11_takesGood := goodIn_r _ [52, 6, 19, 20, 21, 22, 4, 23, 24, 25, 26, 27, 28, 29, 30, 31, 32, 33, 34, 35, 36, 37, 38, 39, 40, 41, 42, 43, 44, 61, 62, 63, 64, 65, 66, 67, 68, 69, 70, 71, 72, 73, 74, 75, 76, 77, 78, 79, 80, 81, 82, 83, 84, 85, 86, 87, 88, 89] (by decide +kernel) (by decide +kernel)
set_option maxRecDepth 20000 in
theorem gX11_takesClause_X11_takesGood : GoodIn wsX11_takesClause (wsV RX11 142 RX11 yX11_takesGood wsX11_takesGood) := goodIn_app (goodIn_of _ (by decide +kernel)) ggX11_takesClause_X11_takesGood
set_option maxRecDepth 20000 in
theorem ggX11_takesClause_X11_takesLength : GoodIn wsX11_takesClause wsX11_takesLength := goodIn_r _ [56, 6, 19, 20, 21, 22, 4, 23, 24, 25, 26, 27, 28, 29, 30, 31, 32, 33, 34, 35, 36, 37, 38, 39, 40, 41, 42, 43, 44, 61, 62, 63, 64, 65, 66, 67, 68, 69, 70, 71, 72, 73, 74, 75, 76, 77, 78, 79, 80, 81, 82, 83, 84, 85, 86, 87, 88, 89] (by decide +kernel) (by decide +kernel)
set_option maxRecDepth 20000 in
theorem gX11_takesClause_X11_takesLength : GoodIn wsX11_takesClause (wsV RX11 145 RX11 yX11_takesLength wsX11_takesLength) := goodIn_app (goodIn_of _ (by decide +kernel)) ggX11_takesClause_X11_takesLength
set_option maxRecDepth 20000 in
theorem ggX11_takesClause_X11_takesWorld : GoodIn wsX11_takesClause wsX11_takesWorld := goodIn_r _ [60, 19, 6, 20, 21, 22, 4, 23, 24, 25, 26, 27, 28, 29, 30, 31, 32, 33, 34, 35, 36, 37, 38, 39, 40, 41, 42, 43, 44, 61, 62, 63, 64, 65, 66, 67, 68, 69, 70, 71, 72, 73, 74, 75, 76, 77, 78, 79, 80, 81, 82, 83, 84, 85, 86, 87, 88, 89] (by decide +kernel) (by decide +kernel)
set_option maxRecDepth 20000 in
theorem gX11_takesClause_X11_takesWorld : GoodIn wsX11_takesClause (wsV RX11 148 RX11 yX11_takesWorld wsX11_takesWorld) := goodIn_app (goodIn_of _ (by decide +kernel)) ggX11_takesClause_X11_takesWorld
set_option maxRecDepth 20000 in
theorem ggX11_takesClause_X11_stills : GoodIn wsX11_takesClause wsX11_stills := goodIn_r _ [14, 6, 61, 62, 63, 64, 65, 66, 67, 68, 69, 70, 71, 72, 73, 74, 75, 76, 77, 78, 79, 80, 81, 82, 83, 84, 85, 86, 87, 88, 89] (by decide +kernel) (by decide +kernel)
set_option maxRecDepth 20000 in
theorem gX11_takesClause_X11_stills : GoodIn wsX11_takesClause (wsV RX11 71 RX11 yX11_stills wsX11_stills) := goodIn_app (goodIn_of _ (by decide +kernel)) ggX11_takesClause_X11_stills
theorem dX11_takesClause_0 : decode cX11_takesClause 0 = .ok (.iload_n 1, 1) := by decide +kernel
theorem dX11_takesClause_1 : decode cX11_takesClause 1 = .ok (.tableswitch 114 0 11 #[63, 63, 63, 63, 69, 77, 82, 87, 87, 96, 101, 106], 63) := by decide +kernel
theorem dX11_takesClause_64 : decode cX11_takesClause 64 = .ok (.aload_n 0, 1) := by decide +kernel
theorem dX11_takesClause_65 : decode cX11_takesClause 65 = .ok (.iload_n 1, 1) := by decide +kernel
theorem dX11_takesClause_66 : decode cX11_takesClause 66 = .ok (.invokevirtual 131, 3) := by decide +kernel
theorem dX11_takesClause_69 : decode cX11_takesClause 69 = .ok (.ireturn, 1) := by decide +kernel
theorem dX11_takesClause_70 : decode cX11_takesClause 70 = .ok (.aload_n 0, 1) := by decide +kernel
theorem dX11_takesClause_71 : decode cX11_takesClause 71 = .ok (.bipush 61, 2) := by decide +kernel
theorem dX11_takesClause_73 : decode cX11_takesClause 73 = .ok (.invokevirtual 58, 3) := by decide +kernel
theorem dX11_takesClause_76 : decode cX11_takesClause 76 = .ok (.iconst 1, 1) := by decide +kernel
theorem dX11_takesClause_77 : decode cX11_takesClause 77 = .ok (.ireturn, 1) := by decide +kernel
theorem dX11_takesClause_78 : decode cX11_takesClause 78 = .ok (.aload_n 0, 1) := by decide +kernel
theorem dX11_takesClause_79 : decode cX11_takesClause 79 = .ok (.invokevirtual 135, 3) := by decide +kernel
theorem dX11_takesClause_82 : decode cX11_takesClause 82 = .ok (.ireturn, 1) := by decide +kernel
theorem dX11_takesClause_83 : decode cX11_takesClause 83 = .ok (.aload_n 0, 1) := by decide +kernel
theorem dX11_takesClause_84 : decode cX11_takesClause 84 = .ok (.invokevirtual 139, 3) := by decide +kernel
theorem dX11_takesClause_87 : decode cX11_takesClause 87 = .ok (.ireturn, 1) := by decide +kernel
theorem dX11_takesClause_88 : decode cX11_takesClause 88 = .ok (.aload_n 0, 1) := by decide +kernel
theorem dX11_takesClause_89 : decode cX11_takesClause 89 = .ok (.iload_n 1, 1) := by decide +kernel
theorem dX11_takesClause_90 : decode cX11_takesClause 90 = .ok (.bipush 6, 2) := by decide +kernel
theorem dX11_takesClause_92 : decode cX11_takesClause 92 = .ok (.isub, 1) := by decide +kernel
theorem dX11_takesClause_93 : decode cX11_takesClause 93 = .ok (.invokevirtual 142, 3) := by decide +kernel
theorem dX11_takesClause_96 : decode cX11_takesClause 96 = .ok (.ireturn, 1) := by decide +kernel
theorem dX11_takesClause_97 : decode cX11_takesClause 97 = .ok (.aload_n 0, 1) := by decide +kernel
theorem dX11_takesClause_98 : decode cX11_takesClause 98 = .ok (.invokevirtual 145, 3) := by decide +kernel
theorem dX11_takesClause_101 : decode cX11_takesClause 101 = .ok (.ireturn, 1) := by decide +kernel
theorem dX11_takesClause_102 : decode cX11_takesClause 102 = .ok (.aload_n 0, 1) := by decide +kernel
theorem dX11_takesClause_103 : decode cX11_takesClause 103 = .ok (.invokevirtual 148, 3) := by decide +kernel
theorem dX11_takesClause_106 : decode cX11_takesClause 106 = .ok (.ireturn, 1) := by decide +kernel
theorem dX11_takesClause_107 : decode cX11_takesClause 107 = .ok (.aload_n 0, 1) := by decide +kernel
theorem dX11_takesClause_108 : decode cX11_takesClause 108 = .ok (.bipush 61, 2) := by decide +kernel
theorem dX11_takesClause_110 : decode cX11_takesClause 110 = .ok (.invokevirtual 71, 3) := by decide +kernel
theorem dX11_takesClause_113 : decode cX11_takesClause 113 = .ok (.iconst 1, 1) := by decide +kernel
theorem dX11_takesClause_114 : decode cX11_takesClause 114 = .ok (.ireturn, 1) := by decide +kernel
theorem dX11_takesClause_115 : decode cX11_takesClause 115 = .ok (.iconst 0, 1) := by decide +kernel
theorem dX11_takesClause_116 : decode cX11_takesClause 116 = .ok (.ireturn, 1) := by decide +kernel
set_option maxRecDepth 20000 in
theorem ggX11_reads_X11_token : GoodIn wsX11_reads wsX11_token := goodIn_r _ [10, 2, 4, 11, 12, 13, 14, 15, 16, 5, 17, 18, 19, 9, 20, 21, 22, 23, 24, 74, 75, 76, 77, 78, 79, 80, 81, 82, 83, 84, 85, 86, 87, 88, 89, 90, 91, 92, 93, 94, 95, 96, 97, 98, 99, 100, 101, 102] (by decide +kernel) (by decide +kernel)
set_option maxRecDepth 20000 in
theorem gX11_reads_X11_token : GoodIn wsX11_reads (wsV RX11 117 RX11 yX11_token wsX11_token) := goodIn_app (goodIn_of _ (by decide +kernel)) ggX11_reads_X11_token
set_option maxRecDepth 20000 in
theorem ggX11_reads_X11_wordNow : GoodIn wsX11_reads wsX11_wordNow := goodIn_r _ [28, 29, 30, 31, 9, 32, 13, 2, 4, 17, 18, 19, 20, 5, 21, 74, 75, 76, 77, 78, 79, 80, 81, 82, 83, 84, 85, 86, 87, 88, 89, 90, 91, 92, 93, 94, 95, 96, 97, 98, 99, 100, 101, 102] (by decide +kernel) (by decide +kernel)
set_option maxRecDepth 20000 in
theorem gX11_reads_X11_wordNow : GoodIn wsX11_reads (wsV RX11 154 RX11 yX11_wordNow wsX11_wordNow) := goodIn_app (goodIn_of _ (by decide +kernel)) ggX11_reads_X11_wordNow
set_option maxRecDepth 20000 in
theorem ggX11_reads_X11_takesClause : GoodIn wsX11_reads wsX11_takesClause := goodIn_r _ [36, 37, 38, 39, 9, 40, 1, 41, 42, 43, 44, 45, 46, 47, 48, 49, 50, 51, 52, 53, 54, 55, 56, 57, 4, 2, 16, 6, 7, 8, 10, 11, 12, 13, 14, 15, 5, 17, 18, 19, 20, 21, 22, 23, 24, 58, 59, 60, 61, 62, 63, 64, 65, 66, 67, 68, 69, 70, 71, 72, 73, 74, 75, 76, 77, 78, 79, 80, 81, 82, 83, 84, 85, 86, 87, 88, 89, 90, 91, 92, 93, 94, 95, 96, 97, 98, 99, 100, 101, 102] (by decide +kernel) (by decide +kernel)
set_option maxRecDepth 20000 in
theorem gX11_reads_X11_takesClause : GoodIn wsX11_reads (wsV RX11 158 RX11 yX11_takesClause wsX11_takesClause) := goodIn_app (goodIn_of _ (by decide +kernel)) ggX11_reads_X11_takesClause
set_option maxRecDepth 20000 in
theorem ggX11_reads_X11_letterAt : GoodIn wsX11_reads wsX11_letterAt := goodIn_r _ [20, 5, 21, 74, 75, 76, 77, 78, 79, 80, 81, 82, 83, 84, 85, 86, 87, 88, 89, 90, 91, 92, 93, 94, 95, 96, 97, 98, 99, 100, 101, 102] (by decide +kernel) (by decide +kernel)
set_option maxRecDepth 20000 in
theorem gX11_reads_X11_letterAt : GoodIn wsX11_reads (wsV RX11 95 RX11 yX11_letterAt wsX11_letterAt) := goodIn_app (goodIn_of _ (by decide +kernel)) ggX11_reads_X11_letterAt
theorem dX11_reads_0 : decode cX11_reads 0 = .ok (.iconst 0, 1) := by decide +kernel
theorem dX11_reads_1 : decode cX11_reads 1 = .ok (.istore_n 1, 1) := by decide +kernel
theorem dX11_reads_2 : decode cX11_reads 2 = .ok (.iload_n 1, 1) := by decide +kernel
theorem dX11_reads_3 : decode cX11_reads 3 = .ok (.bipush 61, 2) := by decide +kernel
theorem dX11_reads_5 : decode cX11_reads 5 = .ok (.if_icmp .ge 24, 3) := by decide +kernel
theorem dX11_reads_8 : decode cX11_reads 8 = .ok (.aload_n 0, 1) := by decide +kernel
theorem dX11_reads_9 : decode cX11_reads 9 = .ok (.getfield 7, 3) := by decide +kernel
theorem dX11_reads_12 : decode cX11_reads 12 = .ok (.bipush 61, 2) := by decide +kernel
theorem dX11_reads_14 : decode cX11_reads 14 = .ok (.iload_n 1, 1) := by decide +kernel
theorem dX11_reads_15 : decode cX11_reads 15 = .ok (.iadd, 1) := by decide +kernel
theorem dX11_reads_16 : decode cX11_reads 16 = .ok (.aload_n 0, 1) := by decide +kernel
theorem dX11_reads_17 : decode cX11_reads 17 = .ok (.getfield 7, 3) := by decide +kernel
theorem dX11_reads_20 : decode cX11_reads 20 = .ok (.iload_n 1, 1) := by decide +kernel
theorem dX11_reads_21 : decode cX11_reads 21 = .ok (.iaload, 1) := by decide +kernel
theorem dX11_reads_22 : decode cX11_reads 22 = .ok (.iastore, 1) := by decide +kernel
theorem dX11_reads_23 : decode cX11_reads 23 = .ok (.iinc 1 1, 3) := by decide +kernel
theorem dX11_reads_26 : decode cX11_reads 26 = .ok (.goto (-24), 3) := by decide +kernel
theorem dX11_reads_29 : decode cX11_reads 29 = .ok (.aload_n 0, 1) := by decide +kernel
theorem dX11_reads_30 : decode cX11_reads 30 = .ok (.iconst 0, 1) := by decide +kernel
theorem dX11_reads_31 : decode cX11_reads 31 = .ok (.putfield 92, 3) := by decide +kernel
theorem dX11_reads_34 : decode cX11_reads 34 = .ok (.aload_n 0, 1) := by decide +kernel
theorem dX11_reads_35 : decode cX11_reads 35 = .ok (.iconst 0, 1) := by decide +kernel
theorem dX11_reads_36 : decode cX11_reads 36 = .ok (.putfield 151, 3) := by decide +kernel
theorem dX11_reads_39 : decode cX11_reads 39 = .ok (.iconst 1, 1) := by decide +kernel
theorem dX11_reads_40 : decode cX11_reads 40 = .ok (.istore_n 1, 1) := by decide +kernel
theorem dX11_reads_41 : decode cX11_reads 41 = .ok (.iload_n 1, 1) := by decide +kernel
theorem dX11_reads_42 : decode cX11_reads 42 = .ok (.ifCond .eq 85, 3) := by decide +kernel
theorem dX11_reads_45 : decode cX11_reads 45 = .ok (.aload_n 0, 1) := by decide +kernel
theorem dX11_reads_46 : decode cX11_reads 46 = .ok (.invokevirtual 117, 3) := by decide +kernel
theorem dX11_reads_49 : decode cX11_reads 49 = .ok (.aload_n 0, 1) := by decide +kernel
theorem dX11_reads_50 : decode cX11_reads 50 = .ok (.aload_n 0, 1) := by decide +kernel
theorem dX11_reads_51 : decode cX11_reads 51 = .ok (.invokevirtual 154, 3) := by decide +kernel
theorem dX11_reads_54 : decode cX11_reads 54 = .ok (.invokevirtual 158, 3) := by decide +kernel
theorem dX11_reads_57 : decode cX11_reads 57 = .ok (.ifCond .ne 8, 3) := by decide +kernel
theorem dX11_reads_60 : decode cX11_reads 60 = .ok (.aload_n 0, 1) := by decide +kernel
theorem dX11_reads_61 : decode cX11_reads 61 = .ok (.getfield 99, 3) := by decide +kernel
theorem dX11_reads_64 : decode cX11_reads 64 = .ok (.ireturn, 1) := by decide +kernel
theorem dX11_reads_65 : decode cX11_reads 65 = .ok (.aload_n 0, 1) := by decide +kernel
theorem dX11_reads_66 : decode cX11_reads 66 = .ok (.dup, 1) := by decide +kernel
theorem dX11_reads_67 : decode cX11_reads 67 = .ok (.getfield 151, 3) := by decide +kernel
theorem dX11_reads_70 : decode cX11_reads 70 = .ok (.iconst 1, 1) := by decide +kernel
theorem dX11_reads_71 : decode cX11_reads 71 = .ok (.iadd, 1) := by decide +kernel
theorem dX11_reads_72 : decode cX11_reads 72 = .ok (.putfield 151, 3) := by decide +kernel
theorem dX11_reads_75 : decode cX11_reads 75 = .ok (.aload_n 0, 1) := by decide +kernel
theorem dX11_reads_76 : decode cX11_reads 76 = .ok (.invokevirtual 117, 3) := by decide +kernel
theorem dX11_reads_79 : decode cX11_reads 79 = .ok (.aload_n 0, 1) := by decide +kernel
theorem dX11_reads_80 : decode cX11_reads 80 = .ok (.getfield 99, 3) := by decide +kernel
theorem dX11_reads_83 : decode cX11_reads 83 = .ok (.aload_n 0, 1) := by decide +kernel
theorem dX11_reads_84 : decode cX11_reads 84 = .ok (.getfield 89, 3) := by decide +kernel
theorem dX11_reads_87 : decode cX11_reads 87 = .ok (.if_icmp .ge 7, 3) := by decide +kernel
theorem dX11_reads_90 : decode cX11_reads 90 = .ok (.iconst 1, 1) := by decide +kernel
theorem dX11_reads_91 : decode cX11_reads 91 = .ok (.goto 4, 3) := by decide +kernel
theorem dX11_reads_94 : decode cX11_reads 94 = .ok (.iconst 0, 1) := by decide +kernel
theorem dX11_reads_95 : decode cX11_reads 95 = .ok (.istore_n 1, 1) := by decide +kernel
theorem dX11_reads_96 : decode cX11_reads 96 = .ok (.iload_n 1, 1) := by decide +kernel
theorem dX11_reads_97 : decode cX11_reads 97 = .ok (.ifCond .eq (-56), 3) := by decide +kernel
theorem dX11_reads_100 : decode cX11_reads 100 = .ok (.aload_n 0, 1) := by decide +kernel
theorem dX11_reads_101 : decode cX11_reads 101 = .ok (.aload_n 0, 1) := by decide +kernel
theorem dX11_reads_102 : decode cX11_reads 102 = .ok (.getfield 99, 3) := by decide +kernel
theorem dX11_reads_105 : decode cX11_reads 105 = .ok (.invokevirtual 95, 3) := by decide +kernel
theorem dX11_reads_108 : decode cX11_reads 108 = .ok (.bipush 59, 2) := by decide +kernel
theorem dX11_reads_110 : decode cX11_reads 110 = .ok (.if_icmp .ne 12, 3) := by decide +kernel
theorem dX11_reads_113 : decode cX11_reads 113 = .ok (.aload_n 0, 1) := by decide +kernel
theorem dX11_reads_114 : decode cX11_reads 114 = .ok (.getfield 151, 3) := by decide +kernel
theorem dX11_reads_117 : decode cX11_reads 117 = .ok (.bipush 14, 2) := by decide +kernel
theorem dX11_reads_119 : decode cX11_reads 119 = .ok (.if_icmp .ne (-78), 3) := by decide +kernel
theorem dX11_reads_122 : decode cX11_reads 122 = .ok (.aload_n 0, 1) := by decide +kernel
theorem dX11_reads_123 : decode cX11_reads 123 = .ok (.getfield 99, 3) := by decide +kernel
theorem dX11_reads_126 : decode cX11_reads 126 = .ok (.ireturn, 1) := by decide +kernel
theorem dX11_reads_127 : decode cX11_reads 127 = .ok (.iconst (-1), 1) := by decide +kernel
theorem dX11_reads_128 : decode cX11_reads 128 = .ok (.ireturn, 1) := by decide +kernel
set_option maxRecDepth 20000 in
theorem ggX11_fault_X11_reads : GoodIn wsX11_fault wsX11_reads := goodIn_r _ [5, 6, 7, 8, 9, 10, 11, 12, 13, 4, 14, 15, 16, 17, 18, 19, 20, 21, 22, 23, 24, 25, 26, 27, 28, 29, 30, 31, 32, 33, 34, 35, 36, 37, 38, 39, 40, 41, 42, 43, 44, 45, 46, 47, 48, 49, 50, 51, 52, 53, 54, 55, 56, 57, 58, 59, 60, 61, 62, 63, 64, 65, 66, 67, 68, 69, 70, 71, 72, 73, 74, 75, 76, 77, 78, 79, 80, 81, 82, 83, 84, 85, 86, 87, 88, 89, 90, 91, 92, 93, 94, 95, 96, 97, 98, 99, 100, 101, 102, 103, 104, 105, 106] (by decide +kernel) (by decide +kernel)
set_option maxRecDepth 20000 in
theorem gX11_fault_X11_reads : GoodIn wsX11_fault (wsV RX11 161 RX11 yX11_reads wsX11_reads) := goodIn_app (goodIn_of _ (by decide +kernel)) ggX11_fault_X11_reads
theorem dX11_fault_0 : decode cX11_fault 0 = .ok (.aload_n 0, 1) := by decide +kernel
theorem dX11_fault_1 : decode cX11_fault 1 = .ok (.invokevirtual 161, 3) := by decide +kernel
theorem dX11_fault_4 : decode cX11_fault 4 = .ok (.ireturn, 1) := by decide +kernel
set_option maxRecDepth 20000 in
theorem ggX11_town_X11_reads : GoodIn wsX11_town wsX11_reads := goodIn_r _ [8, 1, 9, 3, 10, 2, 11, 12, 13, 7, 14, 15, 16, 17, 18, 19, 20, 21, 22, 23, 24, 25, 26, 27, 28, 29, 30, 31, 32, 33, 34, 35, 36, 37, 38, 39, 40, 41, 42, 43, 44, 45, 46, 47, 48, 49, 50, 51, 52, 53, 54, 55, 56, 57, 58, 59, 60, 61, 62, 63, 64, 65, 66, 67, 68, 69, 70, 71, 72, 73, 74, 75, 76, 77, 88, 89, 90, 91, 92, 93, 94, 95, 96, 97, 98, 99, 100, 101, 102, 103, 104, 105, 106, 107, 108, 109, 110, 111, 112, 113, 114, 115, 116] (by decide +kernel) (by decide +kernel)
set_option maxRecDepth 20000 in
theorem gX11_town_X11_reads : GoodIn wsX11_town (wsV RX11 161 RX11 yX11_reads wsX11_reads) := goodIn_app (goodIn_of _ (by decide +kernel)) ggX11_town_X11_reads
set_option maxRecDepth 20000 in
theorem ggX11_town_X11_beginsDay : GoodIn wsX11_town wsX11_beginsDay := goodIn_r _ [81, 82, 1, 83, 84, 85, 86, 87, 88, 89, 90, 91, 92, 93, 94, 95, 96, 97, 98, 99, 100, 101, 102, 103, 104, 105, 106, 107, 108, 109, 110, 111, 112, 113, 114, 115, 116] (by decide +kernel) (by decide +kernel)
set_option maxRecDepth 20000 in
theorem gX11_town_X11_beginsDay : GoodIn wsX11_town (wsV RX11 62 RX11 yX11_beginsDay wsX11_beginsDay) := goodIn_app (goodIn_of _ (by decide +kernel)) ggX11_town_X11_beginsDay
theorem dX11_town_0 : decode cX11_town 0 = .ok (.aload_n 0, 1) := by decide +kernel
theorem dX11_town_1 : decode cX11_town 1 = .ok (.invokevirtual 161, 3) := by decide +kernel
theorem dX11_town_4 : decode cX11_town 4 = .ok (.iconst (-1), 1) := by decide +kernel
theorem dX11_town_5 : decode cX11_town 5 = .ok (.if_icmp .eq 6, 3) := by decide +kernel
theorem dX11_town_8 : decode cX11_town 8 = .ok (.bipush (-4), 2) := by decide +kernel
theorem dX11_town_10 : decode cX11_town 10 = .ok (.ireturn, 1) := by decide +kernel
theorem dX11_town_11 : decode cX11_town 11 = .ok (.iconst 0, 1) := by decide +kernel
theorem dX11_town_12 : decode cX11_town 12 = .ok (.istore_n 1, 1) := by decide +kernel
theorem dX11_town_13 : decode cX11_town 13 = .ok (.iload_n 1, 1) := by decide +kernel
theorem dX11_town_14 : decode cX11_town 14 = .ok (.bipush 61, 2) := by decide +kernel
theorem dX11_town_16 : decode cX11_town 16 = .ok (.if_icmp .ge 24, 3) := by decide +kernel
theorem dX11_town_19 : decode cX11_town 19 = .ok (.aload_n 0, 1) := by decide +kernel
theorem dX11_town_20 : decode cX11_town 20 = .ok (.getfield 7, 3) := by decide +kernel
theorem dX11_town_23 : decode cX11_town 23 = .ok (.iload_n 1, 1) := by decide +kernel
theorem dX11_town_24 : decode cX11_town 24 = .ok (.aload_n 0, 1) := by decide +kernel
theorem dX11_town_25 : decode cX11_town 25 = .ok (.getfield 7, 3) := by decide +kernel
theorem dX11_town_28 : decode cX11_town 28 = .ok (.bipush 61, 2) := by decide +kernel
theorem dX11_town_30 : decode cX11_town 30 = .ok (.iload_n 1, 1) := by decide +kernel
theorem dX11_town_31 : decode cX11_town 31 = .ok (.iadd, 1) := by decide +kernel
theorem dX11_town_32 : decode cX11_town 32 = .ok (.iaload, 1) := by decide +kernel
theorem dX11_town_33 : decode cX11_town 33 = .ok (.iastore, 1) := by decide +kernel
theorem dX11_town_34 : decode cX11_town 34 = .ok (.iinc 1 1, 3) := by decide +kernel
theorem dX11_town_37 : decode cX11_town 37 = .ok (.goto (-24), 3) := by decide +kernel
theorem dX11_town_40 : decode cX11_town 40 = .ok (.aload_n 0, 1) := by decide +kernel
theorem dX11_town_41 : decode cX11_town 41 = .ok (.iconst 0, 1) := by decide +kernel
theorem dX11_town_42 : decode cX11_town 42 = .ok (.putfield 89, 3) := by decide +kernel
theorem dX11_town_45 : decode cX11_town 45 = .ok (.aload_n 0, 1) := by decide +kernel
theorem dX11_town_46 : decode cX11_town 46 = .ok (.invokevirtual 62, 3) := by decide +kernel
theorem dX11_town_49 : decode cX11_town 49 = .ok (.aload_n 0, 1) := by decide +kernel
theorem dX11_town_50 : decode cX11_town 50 = .ok (.getfield 151, 3) := by decide +kernel
theorem dX11_town_53 : decode cX11_town 53 = .ok (.ireturn, 1) := by decide +kernel
theorem dX11_hasSkill_0 : decode cX11_hasSkill 0 = .ok (.aload_n 0, 1) := by decide +kernel
theorem dX11_hasSkill_1 : decode cX11_hasSkill 1 = .ok (.getfield 7, 3) := by decide +kernel
theorem dX11_hasSkill_4 : decode cX11_hasSkill 4 = .ok (.iconst 1, 1) := by decide +kernel
theorem dX11_hasSkill_5 : decode cX11_hasSkill 5 = .ok (.iload_n 1, 1) := by decide +kernel
theorem dX11_hasSkill_6 : decode cX11_hasSkill 6 = .ok (.iadd, 1) := by decide +kernel
theorem dX11_hasSkill_7 : decode cX11_hasSkill 7 = .ok (.iaload, 1) := by decide +kernel
theorem dX11_hasSkill_8 : decode cX11_hasSkill 8 = .ok (.iconst 3, 1) := by decide +kernel
theorem dX11_hasSkill_9 : decode cX11_hasSkill 9 = .ok (.if_icmp .eq 23, 3) := by decide +kernel
theorem dX11_hasSkill_12 : decode cX11_hasSkill 12 = .ok (.aload_n 0, 1) := by decide +kernel
theorem dX11_hasSkill_13 : decode cX11_hasSkill 13 = .ok (.getfield 7, 3) := by decide +kernel
theorem dX11_hasSkill_16 : decode cX11_hasSkill 16 = .ok (.iconst 1, 1) := by decide +kernel
theorem dX11_hasSkill_17 : decode cX11_hasSkill 17 = .ok (.iload_n 1, 1) := by decide +kernel
theorem dX11_hasSkill_18 : decode cX11_hasSkill 18 = .ok (.iadd, 1) := by decide +kernel
theorem dX11_hasSkill_19 : decode cX11_hasSkill 19 = .ok (.iaload, 1) := by decide +kernel
theorem dX11_hasSkill_20 : decode cX11_hasSkill 20 = .ok (.aload_n 0, 1) := by decide +kernel
theorem dX11_hasSkill_21 : decode cX11_hasSkill 21 = .ok (.getfield 7, 3) := by decide +kernel
theorem dX11_hasSkill_24 : decode cX11_hasSkill 24 = .ok (.bipush 12, 2) := by decide +kernel
theorem dX11_hasSkill_26 : decode cX11_hasSkill 26 = .ok (.iload_n 2, 1) := by decide +kernel
theorem dX11_hasSkill_27 : decode cX11_hasSkill 27 = .ok (.iadd, 1) := by decide +kernel
theorem dX11_hasSkill_28 : decode cX11_hasSkill 28 = .ok (.iaload, 1) := by decide +kernel
theorem dX11_hasSkill_29 : decode cX11_hasSkill 29 = .ok (.if_icmp .ne 7, 3) := by decide +kernel
theorem dX11_hasSkill_32 : decode cX11_hasSkill 32 = .ok (.iconst 1, 1) := by decide +kernel
theorem dX11_hasSkill_33 : decode cX11_hasSkill 33 = .ok (.goto 4, 3) := by decide +kernel
theorem dX11_hasSkill_36 : decode cX11_hasSkill 36 = .ok (.iconst 0, 1) := by decide +kernel
theorem dX11_hasSkill_37 : decode cX11_hasSkill 37 = .ok (.ireturn, 1) := by decide +kernel
set_option maxRecDepth 20000 in
theorem ggX11_canDo_X11_has : GoodIn wsX11_canDo wsX11_has := goodIn_r _ [6] (by decide +kernel) (by decide +kernel)
set_option maxRecDepth 20000 in
theorem gX11_canDo_X11_has : GoodIn wsX11_canDo (va_wsS RX11 164 yX11_has wsX11_has) := goodIn_app (goodIn_of _ (by decide +kernel)) ggX11_canDo_X11_has
set_option maxRecDepth 20000 in
theorem ggX11_canDo_X11_hasSkill : GoodIn wsX11_canDo wsX11_hasSkill := goodIn_r _ [10, 2, 11, 12, 13, 14, 15, 16, 17, 18, 19, 20, 21, 22, 23, 24, 25, 26, 27, 28, 29, 30, 31, 32, 33, 34, 35, 36, 37, 38, 39] (by decide +kernel) (by decide +kernel)
set_option maxRecDepth 20000 in
theorem gX11_canDo_X11_hasSkill : GoodIn wsX11_canDo (wsV RX11 167 RX11 yX11_hasSkill wsX11_hasSkill) := goodIn_app (goodIn_of _ (by decide +kernel)) ggX11_canDo_X11_hasSkill
theorem dX11_canDo_0 : decode cX11_canDo 0 = .ok (.aload_n 0, 1) := by decide +kernel
theorem dX11_canDo_1 : decode cX11_canDo 1 = .ok (.getfield 13, 3) := by decide +kernel
theorem dX11_canDo_4 : decode cX11_canDo 4 = .ok (.bipush 16, 2) := by decide +kernel
theorem dX11_canDo_6 : decode cX11_canDo 6 = .ok (.iaload, 1) := by decide +kernel
theorem dX11_canDo_7 : decode cX11_canDo 7 = .ok (.iload_n 1, 1) := by decide +kernel
theorem dX11_canDo_8 : decode cX11_canDo 8 = .ok (.invokestatic 164, 3) := by decide +kernel
theorem dX11_canDo_11 : decode cX11_canDo 11 = .ok (.ifCond .ne 36, 3) := by decide +kernel
theorem dX11_canDo_14 : decode cX11_canDo 14 = .ok (.aload_n 0, 1) := by decide +kernel
theorem dX11_canDo_15 : decode cX11_canDo 15 = .ok (.iload_n 1, 1) := by decide +kernel
theorem dX11_canDo_16 : decode cX11_canDo 16 = .ok (.iload_n 2, 1) := by decide +kernel
theorem dX11_canDo_17 : decode cX11_canDo 17 = .ok (.invokevirtual 167, 3) := by decide +kernel
theorem dX11_canDo_20 : decode cX11_canDo 20 = .ok (.ifCond .eq 27, 3) := by decide +kernel
theorem dX11_canDo_23 : decode cX11_canDo 23 = .ok (.aload_n 0, 1) := by decide +kernel
theorem dX11_canDo_24 : decode cX11_canDo 24 = .ok (.getfield 13, 3) := by decide +kernel
theorem dX11_canDo_27 : decode cX11_canDo 27 = .ok (.iconst 0, 1) := by decide +kernel
theorem dX11_canDo_28 : decode cX11_canDo 28 = .ok (.iload_n 1, 1) := by decide +kernel
theorem dX11_canDo_29 : decode cX11_canDo 29 = .ok (.iadd, 1) := by decide +kernel
theorem dX11_canDo_30 : decode cX11_canDo 30 = .ok (.iaload, 1) := by decide +kernel
theorem dX11_canDo_31 : decode cX11_canDo 31 = .ok (.aload_n 0, 1) := by decide +kernel
theorem dX11_canDo_32 : decode cX11_canDo 32 = .ok (.getfield 7, 3) := by decide +kernel
theorem dX11_canDo_35 : decode cX11_canDo 35 = .ok (.bipush 18, 2) := by decide +kernel
theorem dX11_canDo_37 : decode cX11_canDo 37 = .ok (.iload_n 2, 1) := by decide +kernel
theorem dX11_canDo_38 : decode cX11_canDo 38 = .ok (.iadd, 1) := by decide +kernel
theorem dX11_canDo_39 : decode cX11_canDo 39 = .ok (.iaload, 1) := by decide +kernel
theorem dX11_canDo_40 : decode cX11_canDo 40 = .ok (.if_icmp .lt 7, 3) := by decide +kernel
theorem dX11_canDo_43 : decode cX11_canDo 43 = .ok (.iconst 1, 1) := by decide +kernel
theorem dX11_canDo_44 : decode cX11_canDo 44 = .ok (.goto 4, 3) := by decide +kernel
theorem dX11_canDo_47 : decode cX11_canDo 47 = .ok (.iconst 0, 1) := by decide +kernel
theorem dX11_canDo_48 : decode cX11_canDo 48 = .ok (.ireturn, 1) := by decide +kernel
set_option maxRecDepth 20000 in
theorem ggX11_one_X11_isOne : GoodIn wsX11_one wsX11_isOne := goodIn_r _ [7, 1, 8, 9, 6, 10, 11, 12, 13, 14, 15, 16, 17, 18, 19, 20, 21, 22, 23, 24, 25, 26, 27, 28, 29, 30, 31, 32, 33, 34, 35, 36, 37, 38, 39] (by decide +kernel) (by decide +kernel)
set_option maxRecDepth 20000 in
theorem gX11_one_X11_isOne : GoodIn wsX11_one (wsV RX11 170 RX11 yX11_isOne wsX11_isOne) := goodIn_app (goodIn_of _ (by decide +kernel)) ggX11_one_X11_isOne
theorem dX11_one_0 : decode cX11_one 0 = .ok (.aload_n 0, 1) := by decide +kernel
theorem dX11_one_1 : decode cX11_one 1 = .ok (.iload_n 1, 1) := by decide +kernel
theorem dX11_one_2 : decode cX11_one 2 = .ok (.invokevirtual 170, 3) := by decide +kernel
theorem dX11_one_5 : decode cX11_one 5 = .ok (.ifCond .ne 6, 3) := by decide +kernel
theorem dX11_one_8 : decode cX11_one 8 = .ok (.bipush (-2), 2) := by decide +kernel
theorem dX11_one_10 : decode cX11_one 10 = .ok (.ireturn, 1) := by decide +kernel
theorem dX11_one_11 : decode cX11_one 11 = .ok (.iload_n 2, 1) := by decide +kernel
theorem dX11_one_12 : decode cX11_one 12 = .ok (.tableswitch 102 0 5 #[40, 49, 59, 68, 78, 90], 40) := by decide +kernel
theorem dX11_one_52 : decode cX11_one 52 = .ok (.aload_n 0, 1) := by decide +kernel
theorem dX11_one_53 : decode cX11_one 53 = .ok (.getfield 7, 3) := by decide +kernel
theorem dX11_one_56 : decode cX11_one 56 = .ok (.iconst 1, 1) := by decide +kernel
theorem dX11_one_57 : decode cX11_one 57 = .ok (.iload_n 1, 1) := by decide +kernel
theorem dX11_one_58 : decode cX11_one 58 = .ok (.iadd, 1) := by decide +kernel
theorem dX11_one_59 : decode cX11_one 59 = .ok (.iaload, 1) := by decide +kernel
theorem dX11_one_60 : decode cX11_one 60 = .ok (.ireturn, 1) := by decide +kernel
theorem dX11_one_61 : decode cX11_one 61 = .ok (.aload_n 0, 1) := by decide +kernel
theorem dX11_one_62 : decode cX11_one 62 = .ok (.getfield 7, 3) := by decide +kernel
theorem dX11_one_65 : decode cX11_one 65 = .ok (.bipush 6, 2) := by decide +kernel
theorem dX11_one_67 : decode cX11_one 67 = .ok (.iload_n 1, 1) := by decide +kernel
theorem dX11_one_68 : decode cX11_one 68 = .ok (.iadd, 1) := by decide +kernel
theorem dX11_one_69 : decode cX11_one 69 = .ok (.iaload, 1) := by decide +kernel
theorem dX11_one_70 : decode cX11_one 70 = .ok (.ireturn, 1) := by decide +kernel
theorem dX11_one_71 : decode cX11_one 71 = .ok (.aload_n 0, 1) := by decide +kernel
theorem dX11_one_72 : decode cX11_one 72 = .ok (.getfield 13, 3) := by decide +kernel
theorem dX11_one_75 : decode cX11_one 75 = .ok (.iconst 0, 1) := by decide +kernel
theorem dX11_one_76 : decode cX11_one 76 = .ok (.iload_n 1, 1) := by decide +kernel
theorem dX11_one_77 : decode cX11_one 77 = .ok (.iadd, 1) := by decide +kernel
theorem dX11_one_78 : decode cX11_one 78 = .ok (.iaload, 1) := by decide +kernel
theorem dX11_one_79 : decode cX11_one 79 = .ok (.ireturn, 1) := by decide +kernel
theorem dX11_one_80 : decode cX11_one 80 = .ok (.aload_n 0, 1) := by decide +kernel
theorem dX11_one_81 : decode cX11_one 81 = .ok (.getfield 13, 3) := by decide +kernel
theorem dX11_one_84 : decode cX11_one 84 = .ok (.bipush 11, 2) := by decide +kernel
theorem dX11_one_86 : decode cX11_one 86 = .ok (.iload_n 1, 1) := by decide +kernel
theorem dX11_one_87 : decode cX11_one 87 = .ok (.iadd, 1) := by decide +kernel
theorem dX11_one_88 : decode cX11_one 88 = .ok (.iaload, 1) := by decide +kernel
theorem dX11_one_89 : decode cX11_one 89 = .ok (.ireturn, 1) := by decide +kernel
theorem dX11_one_90 : decode cX11_one 90 = .ok (.aload_n 0, 1) := by decide +kernel
theorem dX11_one_91 : decode cX11_one 91 = .ok (.getfield 13, 3) := by decide +kernel
theorem dX11_one_94 : decode cX11_one 94 = .ok (.bipush 16, 2) := by decide +kernel
theorem dX11_one_96 : decode cX11_one 96 = .ok (.iaload, 1) := by decide +kernel
theorem dX11_one_97 : decode cX11_one 97 = .ok (.iload_n 1, 1) := by decide +kernel
theorem dX11_one_98 : decode cX11_one 98 = .ok (.ishr, 1) := by decide +kernel
theorem dX11_one_99 : decode cX11_one 99 = .ok (.iconst 1, 1) := by decide +kernel
theorem dX11_one_100 : decode cX11_one 100 = .ok (.iand, 1) := by decide +kernel
theorem dX11_one_101 : decode cX11_one 101 = .ok (.ireturn, 1) := by decide +kernel
theorem dX11_one_102 : decode cX11_one 102 = .ok (.aload_n 0, 1) := by decide +kernel
theorem dX11_one_103 : decode cX11_one 103 = .ok (.getfield 13, 3) := by decide +kernel
theorem dX11_one_106 : decode cX11_one 106 = .ok (.bipush 17, 2) := by decide +kernel
theorem dX11_one_108 : decode cX11_one 108 = .ok (.iaload, 1) := by decide +kernel
theorem dX11_one_109 : decode cX11_one 109 = .ok (.iload_n 1, 1) := by decide +kernel
theorem dX11_one_110 : decode cX11_one 110 = .ok (.ishr, 1) := by decide +kernel
theorem dX11_one_111 : decode cX11_one 111 = .ok (.iconst 1, 1) := by decide +kernel
theorem dX11_one_112 : decode cX11_one 112 = .ok (.iand, 1) := by decide +kernel
theorem dX11_one_113 : decode cX11_one 113 = .ok (.ireturn, 1) := by decide +kernel
theorem dX11_one_114 : decode cX11_one 114 = .ok (.bipush (-3), 2) := by decide +kernel
theorem dX11_one_116 : decode cX11_one 116 = .ok (.ireturn, 1) := by decide +kernel
set_option maxRecDepth 20000 in
theorem ggX11_work_X11_isWork : GoodIn wsX11_work wsX11_isWork := goodIn_r _ [8, 3, 9, 10, 7, 11, 12, 13, 14, 15, 16, 17, 18, 19, 20, 21, 22, 23, 24, 25, 26, 27, 28, 29, 30, 31, 32, 33, 34, 35, 36, 37, 38, 39, 40] (by decide +kernel) (by decide +kernel)
set_option maxRecDepth 20000 in
theorem gX11_work_X11_isWork : GoodIn wsX11_work (wsV RX11 173 RX11 yX11_isWork wsX11_isWork) := goodIn_app (goodIn_of _ (by decide +kernel)) ggX11_work_X11_isWork
set_option maxRecDepth 20000 in
theorem ggX11_work_X11_in : GoodIn wsX11_work wsX11_in := goodIn_r _ [11] (by decide +kernel) (by decide +kernel)
set_option maxRecDepth 20000 in
theorem gX11_work_X11_in : GoodIn wsX11_work (va_wsS RX11 65 yX11_in wsX11_in) := goodIn_app (goodIn_of _ (by decide +kernel)) ggX11_work_X11_in
theorem dX11_work_0 : decode cX11_work 0 = .ok (.aload_n 0, 1) := by decide +kernel
theorem dX11_work_1 : decode cX11_work 1 = .ok (.iload_n 1, 1) := by decide +kernel
theorem dX11_work_2 : decode cX11_work 2 = .ok (.invokevirtual 173, 3) := by decide +kernel
theorem dX11_work_5 : decode cX11_work 5 = .ok (.ifCond .ne 6, 3) := by decide +kernel
theorem dX11_work_8 : decode cX11_work 8 = .ok (.bipush (-2), 2) := by decide +kernel
theorem dX11_work_10 : decode cX11_work 10 = .ok (.ireturn, 1) := by decide +kernel
theorem dX11_work_11 : decode cX11_work 11 = .ok (.iload_n 2, 1) := by decide +kernel
theorem dX11_work_12 : decode cX11_work 12 = .ok (.i2l, 1) := by decide +kernel
theorem dX11_work_13 : decode cX11_work 13 = .ok (.lconst 0, 1) := by decide +kernel
theorem dX11_work_14 : decode cX11_work 14 = .ok (.ldc2_w 176, 3) := by decide +kernel
theorem dX11_work_17 : decode cX11_work 17 = .ok (.invokestatic 65, 3) := by decide +kernel
theorem dX11_work_20 : decode cX11_work 20 = .ok (.ifCond .ne 6, 3) := by decide +kernel
theorem dX11_work_23 : decode cX11_work 23 = .ok (.bipush (-3), 2) := by decide +kernel
theorem dX11_work_25 : decode cX11_work 25 = .ok (.ireturn, 1) := by decide +kernel
theorem dX11_work_26 : decode cX11_work 26 = .ok (.iload_n 2, 1) := by decide +kernel
theorem dX11_work_27 : decode cX11_work 27 = .ok (.iconst 4, 1) := by decide +kernel
theorem dX11_work_28 : decode cX11_work 28 = .ok (.if_icmp .ne 14, 3) := by decide +kernel
theorem dX11_work_31 : decode cX11_work 31 = .ok (.aload_n 0, 1) := by decide +kernel
theorem dX11_work_32 : decode cX11_work 32 = .ok (.getfield 13, 3) := by decide +kernel
theorem dX11_work_35 : decode cX11_work 35 = .ok (.iconst 5, 1) := by decide +kernel
theorem dX11_work_36 : decode cX11_work 36 = .ok (.iload_n 1, 1) := by decide +kernel
theorem dX11_work_37 : decode cX11_work 37 = .ok (.iadd, 1) := by decide +kernel
theorem dX11_work_38 : decode cX11_work 38 = .ok (.iaload, 1) := by decide +kernel
theorem dX11_work_39 : decode cX11_work 39 = .ok (.goto 17, 3) := by decide +kernel
theorem dX11_work_42 : decode cX11_work 42 = .ok (.aload_n 0, 1) := by decide +kernel
theorem dX11_work_43 : decode cX11_work 43 = .ok (.getfield 7, 3) := by decide +kernel
theorem dX11_work_46 : decode cX11_work 46 = .ok (.bipush 12, 2) := by decide +kernel
theorem dX11_work_48 : decode cX11_work 48 = .ok (.bipush 6, 2) := by decide +kernel
theorem dX11_work_50 : decode cX11_work 50 = .ok (.iload_n 2, 1) := by decide +kernel
theorem dX11_work_51 : decode cX11_work 51 = .ok (.imul, 1) := by decide +kernel
theorem dX11_work_52 : decode cX11_work 52 = .ok (.iadd, 1) := by decide +kernel
theorem dX11_work_53 : decode cX11_work 53 = .ok (.iload_n 1, 1) := by decide +kernel
theorem dX11_work_54 : decode cX11_work 54 = .ok (.iadd, 1) := by decide +kernel
theorem dX11_work_55 : decode cX11_work 55 = .ok (.iaload, 1) := by decide +kernel
theorem dX11_work_56 : decode cX11_work 56 = .ok (.ireturn, 1) := by decide +kernel
theorem dX11_worthIn_0 : decode cX11_worthIn 0 = .ok (.aload_n 0, 1) := by decide +kernel
theorem dX11_worthIn_1 : decode cX11_worthIn 1 = .ok (.getfield 7, 3) := by decide +kernel
theorem dX11_worthIn_4 : decode cX11_worthIn 4 = .ok (.bipush 38, 2) := by decide +kernel
theorem dX11_worthIn_6 : decode cX11_worthIn 6 = .ok (.iload_n 1, 1) := by decide +kernel
theorem dX11_worthIn_7 : decode cX11_worthIn 7 = .ok (.iadd, 1) := by decide +kernel
theorem dX11_worthIn_8 : decode cX11_worthIn 8 = .ok (.iaload, 1) := by decide +kernel
theorem dX11_worthIn_9 : decode cX11_worthIn 9 = .ok (.aload_n 0, 1) := by decide +kernel
theorem dX11_worthIn_10 : decode cX11_worthIn 10 = .ok (.getfield 7, 3) := by decide +kernel
theorem dX11_worthIn_13 : decode cX11_worthIn 13 = .ok (.bipush 48, 2) := by decide +kernel
theorem dX11_worthIn_15 : decode cX11_worthIn 15 = .ok (.iload_n 1, 1) := by decide +kernel
theorem dX11_worthIn_16 : decode cX11_worthIn 16 = .ok (.iadd, 1) := by decide +kernel
theorem dX11_worthIn_17 : decode cX11_worthIn 17 = .ok (.iaload, 1) := by decide +kernel
theorem dX11_worthIn_18 : decode cX11_worthIn 18 = .ok (.iconst 1, 1) := by decide +kernel
theorem dX11_worthIn_19 : decode cX11_worthIn 19 = .ok (.if_icmp .ne 7, 3) := by decide +kernel
theorem dX11_worthIn_22 : decode cX11_worthIn 22 = .ok (.iconst 1, 1) := by decide +kernel
theorem dX11_worthIn_23 : decode cX11_worthIn 23 = .ok (.goto 4, 3) := by decide +kernel
theorem dX11_worthIn_26 : decode cX11_worthIn 26 = .ok (.iconst (-1), 1) := by decide +kernel
theorem dX11_worthIn_27 : decode cX11_worthIn 27 = .ok (.aload_n 0, 1) := by decide +kernel
theorem dX11_worthIn_28 : decode cX11_worthIn 28 = .ok (.getfield 7, 3) := by decide +kernel
theorem dX11_worthIn_31 : decode cX11_worthIn 31 = .ok (.bipush 43, 2) := by decide +kernel
theorem dX11_worthIn_33 : decode cX11_worthIn 33 = .ok (.iload_n 1, 1) := by decide +kernel
theorem dX11_worthIn_34 : decode cX11_worthIn 34 = .ok (.iadd, 1) := by decide +kernel
theorem dX11_worthIn_35 : decode cX11_worthIn 35 = .ok (.iaload, 1) := by decide +kernel
theorem dX11_worthIn_36 : decode cX11_worthIn 36 = .ok (.imul, 1) := by decide +kernel
theorem dX11_worthIn_37 : decode cX11_worthIn 37 = .ok (.iload_n 2, 1) := by decide +kernel
theorem dX11_worthIn_38 : decode cX11_worthIn 38 = .ok (.imul, 1) := by decide +kernel
theorem dX11_worthIn_39 : decode cX11_worthIn 39 = .ok (.iadd, 1) := by decide +kernel
theorem dX11_worthIn_40 : decode cX11_worthIn 40 = .ok (.istore_n 3, 1) := by decide +kernel
theorem dX11_worthIn_41 : decode cX11_worthIn 41 = .ok (.iload_n 3, 1) := by decide +kernel
theorem dX11_worthIn_42 : decode cX11_worthIn 42 = .ok (.ifCond .ge 7, 3) := by decide +kernel
theorem dX11_worthIn_45 : decode cX11_worthIn 45 = .ok (.iconst 0, 1) := by decide +kernel
theorem dX11_worthIn_46 : decode cX11_worthIn 46 = .ok (.goto 4, 3) := by decide +kernel
theorem dX11_worthIn_49 : decode cX11_worthIn 49 = .ok (.iload_n 3, 1) := by decide +kernel
theorem dX11_worthIn_50 : decode cX11_worthIn 50 = .ok (.ireturn, 1) := by decide +kernel
set_option maxRecDepth 20000 in
theorem ggX11_good_X11_isGood : GoodIn wsX11_good wsX11_isGood := goodIn_r _ [6, 7, 8, 9, 5, 10, 18, 19, 20, 21, 22, 23, 24, 25, 26, 27, 28, 29, 30, 31, 32, 33, 34, 35, 36, 37, 38, 39, 40, 41, 42, 43, 44, 45, 46] (by decide +kernel) (by decide +kernel)
set_option maxRecDepth 20000 in
theorem gX11_good_X11_isGood : GoodIn wsX11_good (wsV RX11 178 RX11 yX11_isGood wsX11_isGood) := goodIn_app (goodIn_of _ (by decide +kernel)) ggX11_good_X11_isGood
set_option maxRecDepth 20000 in
theorem ggX11_good_X11_isFlag : GoodIn wsX11_good wsX11_isFlag := goodIn_r _ [13, 8, 9, 5, 10] (by decide +kernel) (by decide +kernel)
set_option maxRecDepth 20000 in
theorem gX11_good_X11_isFlag : GoodIn wsX11_good (va_wsS RX11 181 yX11_isFlag wsX11_isFlag) := goodIn_app (goodIn_of _ (by decide +kernel)) ggX11_good_X11_isFlag
set_option maxRecDepth 20000 in
theorem ggX11_good_X11_worthIn : GoodIn wsX11_good wsX11_worthIn := goodIn_r _ [17, 7, 18, 19, 20, 21, 22, 23, 24, 25, 26, 27, 28, 29, 30, 31, 32, 33, 34, 35, 36, 37, 38, 39, 40, 41, 42, 43, 44, 45, 46] (by decide +kernel) (by decide +kernel)
set_option maxRecDepth 20000 in
theorem gX11_good_X11_worthIn : GoodIn wsX11_good (wsV RX11 184 RX11 yX11_worthIn wsX11_worthIn) := goodIn_app (goodIn_of _ (by decide +kernel)) ggX11_good_X11_worthIn
theorem dX11_good_0 : decode cX11_good 0 = .ok (.aload_n 0, 1) := by decide +kernel
theorem dX11_good_1 : decode cX11_good 1 = .ok (.iload_n 1, 1) := by decide +kernel
theorem dX11_good_2 : decode cX11_good 2 = .ok (.invokevirtual 178, 3) := by decide +kernel
theorem dX11_good_5 : decode cX11_good 5 = .ok (.ifCond .ne 6, 3) := by decide +kernel
theorem dX11_good_8 : decode cX11_good 8 = .ok (.bipush (-2), 2) := by decide +kernel
theorem dX11_good_10 : decode cX11_good 10 = .ok (.ireturn, 1) := by decide +kernel
theorem dX11_good_11 : decode cX11_good 11 = .ok (.iload_n 2, 1) := by decide +kernel
theorem dX11_good_12 : decode cX11_good 12 = .ok (.invokestatic 181, 3) := by decide +kernel
theorem dX11_good_15 : decode cX11_good 15 = .ok (.ifCond .ne 6, 3) := by decide +kernel
theorem dX11_good_18 : decode cX11_good 18 = .ok (.bipush (-3), 2) := by decide +kernel
theorem dX11_good_20 : decode cX11_good 20 = .ok (.ireturn, 1) := by decide +kernel
theorem dX11_good_21 : decode cX11_good 21 = .ok (.iload_n 2, 1) := by decide +kernel
theorem dX11_good_22 : decode cX11_good 22 = .ok (.ifCond .ne 18, 3) := by decide +kernel
theorem dX11_good_25 : decode cX11_good 25 = .ok (.aload_n 0, 1) := by decide +kernel
theorem dX11_good_26 : decode cX11_good 26 = .ok (.iload_n 1, 1) := by decide +kernel
theorem dX11_good_27 : decode cX11_good 27 = .ok (.aload_n 0, 1) := by decide +kernel
theorem dX11_good_28 : decode cX11_good 28 = .ok (.getfield 13, 3) := by decide +kernel
theorem dX11_good_31 : decode cX11_good 31 = .ok (.bipush 20, 2) := by decide +kernel
theorem dX11_good_33 : decode cX11_good 33 = .ok (.iaload, 1) := by decide +kernel
theorem dX11_good_34 : decode cX11_good 34 = .ok (.invokevirtual 184, 3) := by decide +kernel
theorem dX11_good_37 : decode cX11_good 37 = .ok (.goto 14, 3) := by decide +kernel
theorem dX11_good_40 : decode cX11_good 40 = .ok (.aload_n 0, 1) := by decide +kernel
theorem dX11_good_41 : decode cX11_good 41 = .ok (.getfield 13, 3) := by decide +kernel
theorem dX11_good_44 : decode cX11_good 44 = .ok (.bipush 18, 2) := by decide +kernel
theorem dX11_good_46 : decode cX11_good 46 = .ok (.iaload, 1) := by decide +kernel
theorem dX11_good_47 : decode cX11_good 47 = .ok (.iload_n 1, 1) := by decide +kernel
theorem dX11_good_48 : decode cX11_good 48 = .ok (.ishr, 1) := by decide +kernel
theorem dX11_good_49 : decode cX11_good 49 = .ok (.iconst 1, 1) := by decide +kernel
theorem dX11_good_50 : decode cX11_good 50 = .ok (.iand, 1) := by decide +kernel
theorem dX11_good_51 : decode cX11_good 51 = .ok (.ireturn, 1) := by decide +kernel
theorem dX11_isOf_0 : decode cX11_isOf 0 = .ok (.iload_n 1, 1) := by decide +kernel
theorem dX11_isOf_1 : decode cX11_isOf 1 = .ok (.ifCond .eq 30, 3) := by decide +kernel
theorem dX11_isOf_4 : decode cX11_isOf 4 = .ok (.iload_n 1, 1) := by decide +kernel
theorem dX11_isOf_5 : decode cX11_isOf 5 = .ok (.iload_n 0, 1) := by decide +kernel
theorem dX11_isOf_6 : decode cX11_isOf 6 = .ok (.iconst 2, 1) := by decide +kernel
theorem dX11_isOf_7 : decode cX11_isOf 7 = .ok (.iadd, 1) := by decide +kernel
theorem dX11_isOf_8 : decode cX11_isOf 8 = .ok (.if_icmp .eq 23, 3) := by decide +kernel
theorem dX11_isOf_11 : decode cX11_isOf 11 = .ok (.iload_n 1, 1) := by decide +kernel
theorem dX11_isOf_12 : decode cX11_isOf 12 = .ok (.iconst 1, 1) := by decide +kernel
theorem dX11_isOf_13 : decode cX11_isOf 13 = .ok (.if_icmp .ne 8, 3) := by decide +kernel
theorem dX11_isOf_16 : decode cX11_isOf 16 = .ok (.iload_n 0, 1) := by decide +kernel
theorem dX11_isOf_17 : decode cX11_isOf 17 = .ok (.iconst 2, 1) := by decide +kernel
theorem dX11_isOf_18 : decode cX11_isOf 18 = .ok (.if_icmp .lt 13, 3) := by decide +kernel
theorem dX11_isOf_21 : decode cX11_isOf 21 = .ok (.iload_n 1, 1) := by decide +kernel
theorem dX11_isOf_22 : decode cX11_isOf 22 = .ok (.iconst 4, 1) := by decide +kernel
theorem dX11_isOf_23 : decode cX11_isOf 23 = .ok (.if_icmp .ne 12, 3) := by decide +kernel
theorem dX11_isOf_26 : decode cX11_isOf 26 = .ok (.iload_n 0, 1) := by decide +kernel
theorem dX11_isOf_27 : decode cX11_isOf 27 = .ok (.iconst 3, 1) := by decide +kernel
theorem dX11_isOf_28 : decode cX11_isOf 28 = .ok (.if_icmp .ne 7, 3) := by decide +kernel
theorem dX11_isOf_31 : decode cX11_isOf 31 = .ok (.iconst 1, 1) := by decide +kernel
theorem dX11_isOf_32 : decode cX11_isOf 32 = .ok (.goto 4, 3) := by decide +kernel
theorem dX11_isOf_35 : decode cX11_isOf 35 = .ok (.iconst 0, 1) := by decide +kernel
theorem dX11_isOf_36 : decode cX11_isOf 36 = .ok (.ireturn, 1) := by decide +kernel
set_option maxRecDepth 20000 in
theorem ggX11_as_X11_isOne : GoodIn wsX11_as wsX11_isOne := goodIn_r _ [7, 2, 8, 9, 6, 10, 26, 27, 28, 29, 30, 31, 32, 33, 34, 35, 36, 37, 38, 39, 40, 41, 42, 43, 44, 45, 46, 47, 48, 49, 50, 51, 52, 53, 54] (by decide +kernel) (by decide +kernel)
set_option maxRecDepth 20000 in
theorem gX11_as_X11_isOne : GoodIn wsX11_as (wsV RX11 170 RX11 yX11_isOne wsX11_isOne) := goodIn_app (goodIn_of _ (by decide +kernel)) ggX11_as_X11_isOne
set_option maxRecDepth 20000 in
theorem ggX11_as_X11_in : GoodIn wsX11_as wsX11_in := goodIn_r _ [10] (by decide +kernel) (by decide +kernel)
set_option maxRecDepth 20000 in
theorem gX11_as_X11_in : GoodIn wsX11_as (va_wsS RX11 65 yX11_in wsX11_in) := goodIn_app (goodIn_of _ (by decide +kernel)) ggX11_as_X11_in
set_option maxRecDepth 20000 in
theorem ggX11_as_X11_isOf : GoodIn wsX11_as wsX11_isOf := goodIn_r _ [13] (by decide +kernel) (by decide +kernel)
set_option maxRecDepth 20000 in
theorem gX11_as_X11_isOf : GoodIn wsX11_as (va_wsS RX11 190 yX11_isOf wsX11_isOf) := goodIn_app (goodIn_of _ (by decide +kernel)) ggX11_as_X11_isOf
set_option maxRecDepth 20000 in
theorem ggX11_as_X11_canDo : GoodIn wsX11_as wsX11_canDo := goodIn_r _ [17, 18, 2, 19, 20, 6, 21, 22, 23, 24, 25, 26, 27, 28, 29, 30, 31, 32, 33, 34, 35, 36, 37, 38, 39, 40, 41, 42, 43, 44, 45, 46, 47, 48, 49, 50, 51, 52, 53, 54] (by decide +kernel) (by decide +kernel)
set_option maxRecDepth 20000 in
theorem gX11_as_X11_canDo : GoodIn wsX11_as (wsV RX11 193 RX11 yX11_canDo wsX11_canDo) := goodIn_app (goodIn_of _ (by decide +kernel)) ggX11_as_X11_canDo
theorem dX11_as_0 : decode cX11_as 0 = .ok (.aload_n 0, 1) := by decide +kernel
theorem dX11_as_1 : decode cX11_as 1 = .ok (.iload_n 1, 1) := by decide +kernel
theorem dX11_as_2 : decode cX11_as 2 = .ok (.invokevirtual 170, 3) := by decide +kernel
theorem dX11_as_5 : decode cX11_as 5 = .ok (.ifCond .ne 6, 3) := by decide +kernel
theorem dX11_as_8 : decode cX11_as 8 = .ok (.bipush (-2), 2) := by decide +kernel
theorem dX11_as_10 : decode cX11_as 10 = .ok (.ireturn, 1) := by decide +kernel
theorem dX11_as_11 : decode cX11_as 11 = .ok (.iload_n 2, 1) := by decide +kernel
theorem dX11_as_12 : decode cX11_as 12 = .ok (.i2l, 1) := by decide +kernel
theorem dX11_as_13 : decode cX11_as 13 = .ok (.lconst 0, 1) := by decide +kernel
theorem dX11_as_14 : decode cX11_as 14 = .ok (.ldc2_w 188, 3) := by decide +kernel
theorem dX11_as_17 : decode cX11_as 17 = .ok (.invokestatic 65, 3) := by decide +kernel
theorem dX11_as_20 : decode cX11_as 20 = .ok (.ifCond .ne 6, 3) := by decide +kernel
theorem dX11_as_23 : decode cX11_as 23 = .ok (.bipush (-3), 2) := by decide +kernel
theorem dX11_as_25 : decode cX11_as 25 = .ok (.ireturn, 1) := by decide +kernel
theorem dX11_as_26 : decode cX11_as 26 = .ok (.aload_n 0, 1) := by decide +kernel
theorem dX11_as_27 : decode cX11_as 27 = .ok (.getfield 7, 3) := by decide +kernel
theorem dX11_as_30 : decode cX11_as 30 = .ok (.iconst 1, 1) := by decide +kernel
theorem dX11_as_31 : decode cX11_as 31 = .ok (.iload_n 1, 1) := by decide +kernel
theorem dX11_as_32 : decode cX11_as 32 = .ok (.iadd, 1) := by decide +kernel
theorem dX11_as_33 : decode cX11_as 33 = .ok (.iaload, 1) := by decide +kernel
theorem dX11_as_34 : decode cX11_as 34 = .ok (.iload_n 2, 1) := by decide +kernel
theorem dX11_as_35 : decode cX11_as 35 = .ok (.invokestatic 190, 3) := by decide +kernel
theorem dX11_as_38 : decode cX11_as 38 = .ok (.ifCond .ne 6, 3) := by decide +kernel
theorem dX11_as_41 : decode cX11_as 41 = .ok (.bipush (-4), 2) := by decide +kernel
theorem dX11_as_43 : decode cX11_as 43 = .ok (.ireturn, 1) := by decide +kernel
theorem dX11_as_44 : decode cX11_as 44 = .ok (.iconst 0, 1) := by decide +kernel
theorem dX11_as_45 : decode cX11_as 45 = .ok (.istore_n 3, 1) := by decide +kernel
theorem dX11_as_46 : decode cX11_as 46 = .ok (.iconst 0, 1) := by decide +kernel
theorem dX11_as_47 : decode cX11_as 47 = .ok (.istore 4, 2) := by decide +kernel
theorem dX11_as_49 : decode cX11_as 49 = .ok (.iload 4, 2) := by decide +kernel
theorem dX11_as_51 : decode cX11_as 51 = .ok (.aload_n 0, 1) := by decide +kernel
theorem dX11_as_52 : decode cX11_as 52 = .ok (.getfield 7, 3) := by decide +kernel
theorem dX11_as_55 : decode cX11_as 55 = .ok (.bipush 11, 2) := by decide +kernel
theorem dX11_as_57 : decode cX11_as 57 = .ok (.iaload, 1) := by decide +kernel
theorem dX11_as_58 : decode cX11_as 58 = .ok (.if_icmp .ge 30, 3) := by decide +kernel
theorem dX11_as_61 : decode cX11_as 61 = .ok (.iload_n 3, 1) := by decide +kernel
theorem dX11_as_62 : decode cX11_as 62 = .ok (.aload_n 0, 1) := by decide +kernel
theorem dX11_as_63 : decode cX11_as 63 = .ok (.iload_n 1, 1) := by decide +kernel
theorem dX11_as_64 : decode cX11_as 64 = .ok (.iload 4, 2) := by decide +kernel
theorem dX11_as_66 : decode cX11_as 66 = .ok (.invokevirtual 193, 3) := by decide +kernel
theorem dX11_as_69 : decode cX11_as 69 = .ok (.ifCond .eq 10, 3) := by decide +kernel
theorem dX11_as_72 : decode cX11_as 72 = .ok (.iconst 1, 1) := by decide +kernel
theorem dX11_as_73 : decode cX11_as 73 = .ok (.iload 4, 2) := by decide +kernel
theorem dX11_as_75 : decode cX11_as 75 = .ok (.ishl, 1) := by decide +kernel
theorem dX11_as_76 : decode cX11_as 76 = .ok (.goto 4, 3) := by decide +kernel
theorem dX11_as_79 : decode cX11_as 79 = .ok (.iconst 0, 1) := by decide +kernel
theorem dX11_as_80 : decode cX11_as 80 = .ok (.ior, 1) := by decide +kernel
theorem dX11_as_81 : decode cX11_as 81 = .ok (.istore_n 3, 1) := by decide +kernel
theorem dX11_as_82 : decode cX11_as 82 = .ok (.iinc 4 1, 3) := by decide +kernel
theorem dX11_as_85 : decode cX11_as 85 = .ok (.goto (-36), 3) := by decide +kernel
theorem dX11_as_88 : decode cX11_as 88 = .ok (.iload_n 3, 1) := by decide +kernel
theorem dX11_as_89 : decode cX11_as 89 = .ok (.ireturn, 1) := by decide +kernel
set_option maxRecDepth 20000 in
theorem ggX11_goodAs_X11_isGood : GoodIn wsX11_goodAs wsX11_isGood := goodIn_r _ [8, 2, 9, 10, 7, 11, 16, 17, 18, 19, 20, 21, 22, 23, 24, 25, 26, 27, 28, 29, 30, 31, 32, 33, 34, 35, 36, 37, 38, 39, 40, 41, 42, 43, 44] (by decide +kernel) (by decide +kernel)
set_option maxRecDepth 20000 in
theorem gX11_goodAs_X11_isGood : GoodIn wsX11_goodAs (wsV RX11 178 RX11 yX11_isGood wsX11_isGood) := goodIn_app (goodIn_of _ (by decide +kernel)) ggX11_goodAs_X11_isGood
set_option maxRecDepth 20000 in
theorem ggX11_goodAs_X11_in : GoodIn wsX11_goodAs wsX11_in := goodIn_r _ [11] (by decide +kernel) (by decide +kernel)
set_option maxRecDepth 20000 in
theorem gX11_goodAs_X11_in : GoodIn wsX11_goodAs (va_wsS RX11 65 yX11_in wsX11_in) := goodIn_app (goodIn_of _ (by decide +kernel)) ggX11_goodAs_X11_in
set_option maxRecDepth 20000 in
theorem ggX11_goodAs_X11_worthIn : GoodIn wsX11_goodAs wsX11_worthIn := goodIn_r _ [15, 2, 16, 17, 18, 19, 20, 21, 22, 23, 24, 25, 26, 27, 28, 29, 30, 31, 32, 33, 34, 35, 36, 37, 38, 39, 40, 41, 42, 43, 44] (by decide +kernel) (by decide +kernel)
set_option maxRecDepth 20000 in
theorem gX11_goodAs_X11_worthIn : GoodIn wsX11_goodAs (wsV RX11 184 RX11 yX11_worthIn wsX11_worthIn) := goodIn_app (goodIn_of _ (by decide +kernel)) ggX11_goodAs_X11_worthIn
theorem dX11_goodAs_0 : decode cX11_goodAs 0 = .ok (.aload_n 0, 1) := by decide +kernel
theorem dX11_goodAs_1 : decode cX11_goodAs 1 = .ok (.iload_n 1, 1) := by decide +kernel
theorem dX11_goodAs_2 : decode cX11_goodAs 2 = .ok (.invokevirtual 178, 3) := by decide +kernel
theorem dX11_goodAs_5 : decode cX11_goodAs 5 = .ok (.ifCond .ne 6, 3) := by decide +kernel
theorem dX11_goodAs_8 : decode cX11_goodAs 8 = .ok (.bipush (-2), 2) := by decide +kernel
theorem dX11_goodAs_10 : decode cX11_goodAs 10 = .ok (.ireturn, 1) := by decide +kernel
theorem dX11_goodAs_11 : decode cX11_goodAs 11 = .ok (.iload_n 2, 1) := by decide +kernel
theorem dX11_goodAs_12 : decode cX11_goodAs 12 = .ok (.i2l, 1) := by decide +kernel
theorem dX11_goodAs_13 : decode cX11_goodAs 13 = .ok (.lconst 0, 1) := by decide +kernel
theorem dX11_goodAs_14 : decode cX11_goodAs 14 = .ok (.ldc2_w 196, 3) := by decide +kernel
theorem dX11_goodAs_17 : decode cX11_goodAs 17 = .ok (.invokestatic 65, 3) := by decide +kernel
theorem dX11_goodAs_20 : decode cX11_goodAs 20 = .ok (.ifCond .ne 6, 3) := by decide +kernel
theorem dX11_goodAs_23 : decode cX11_goodAs 23 = .ok (.bipush (-3), 2) := by decide +kernel
theorem dX11_goodAs_25 : decode cX11_goodAs 25 = .ok (.ireturn, 1) := by decide +kernel
theorem dX11_goodAs_26 : decode cX11_goodAs 26 = .ok (.iload_n 2, 1) := by decide +kernel
theorem dX11_goodAs_27 : decode cX11_goodAs 27 = .ok (.ifCond .eq 16, 3) := by decide +kernel
theorem dX11_goodAs_30 : decode cX11_goodAs 30 = .ok (.iload_n 2, 1) := by decide +kernel
theorem dX11_goodAs_31 : decode cX11_goodAs 31 = .ok (.aload_n 0, 1) := by decide +kernel
theorem dX11_goodAs_32 : decode cX11_goodAs 32 = .ok (.getfield 7, 3) := by decide +kernel
theorem dX11_goodAs_35 : decode cX11_goodAs 35 = .ok (.bipush 48, 2) := by decide +kernel
theorem dX11_goodAs_37 : decode cX11_goodAs 37 = .ok (.iload_n 1, 1) := by decide +kernel
theorem dX11_goodAs_38 : decode cX11_goodAs 38 = .ok (.iadd, 1) := by decide +kernel
theorem dX11_goodAs_39 : decode cX11_goodAs 39 = .ok (.iaload, 1) := by decide +kernel
theorem dX11_goodAs_40 : decode cX11_goodAs 40 = .ok (.if_icmp .ne 20, 3) := by decide +kernel
theorem dX11_goodAs_43 : decode cX11_goodAs 43 = .ok (.aload_n 0, 1) := by decide +kernel
theorem dX11_goodAs_44 : decode cX11_goodAs 44 = .ok (.iload_n 1, 1) := by decide +kernel
theorem dX11_goodAs_45 : decode cX11_goodAs 45 = .ok (.aload_n 0, 1) := by decide +kernel
theorem dX11_goodAs_46 : decode cX11_goodAs 46 = .ok (.getfield 13, 3) := by decide +kernel
theorem dX11_goodAs_49 : decode cX11_goodAs 49 = .ok (.bipush 20, 2) := by decide +kernel
theorem dX11_goodAs_51 : decode cX11_goodAs 51 = .ok (.iaload, 1) := by decide +kernel
theorem dX11_goodAs_52 : decode cX11_goodAs 52 = .ok (.iconst 1, 1) := by decide +kernel
theorem dX11_goodAs_53 : decode cX11_goodAs 53 = .ok (.iadd, 1) := by decide +kernel
theorem dX11_goodAs_54 : decode cX11_goodAs 54 = .ok (.invokevirtual 184, 3) := by decide +kernel
theorem dX11_goodAs_57 : decode cX11_goodAs 57 = .ok (.goto 5, 3) := by decide +kernel
theorem dX11_goodAs_60 : decode cX11_goodAs 60 = .ok (.bipush (-4), 2) := by decide +kernel
theorem dX11_goodAs_62 : decode cX11_goodAs 62 = .ok (.ireturn, 1) := by decide +kernel
theorem dX11_copyDay_0 : decode cX11_copyDay 0 = .ok (.iconst 0, 1) := by decide +kernel
theorem dX11_copyDay_1 : decode cX11_copyDay 1 = .ok (.istore_n 3, 1) := by decide +kernel
theorem dX11_copyDay_2 : decode cX11_copyDay 2 = .ok (.iload_n 3, 1) := by decide +kernel
theorem dX11_copyDay_3 : decode cX11_copyDay 3 = .ok (.bipush 22, 2) := by decide +kernel
theorem dX11_copyDay_5 : decode cX11_copyDay 5 = .ok (.if_icmp .ge 25, 3) := by decide +kernel
theorem dX11_copyDay_8 : decode cX11_copyDay 8 = .ok (.aload_n 0, 1) := by decide +kernel
theorem dX11_copyDay_9 : decode cX11_copyDay 9 = .ok (.getfield 13, 3) := by decide +kernel
theorem dX11_copyDay_12 : decode cX11_copyDay 12 = .ok (.iload_n 2, 1) := by decide +kernel
theorem dX11_copyDay_13 : decode cX11_copyDay 13 = .ok (.iload_n 3, 1) := by decide +kernel
theorem dX11_copyDay_14 : decode cX11_copyDay 14 = .ok (.iadd, 1) := by decide +kernel
theorem dX11_copyDay_15 : decode cX11_copyDay 15 = .ok (.aload_n 0, 1) := by decide +kernel
theorem dX11_copyDay_16 : decode cX11_copyDay 16 = .ok (.getfield 13, 3) := by decide +kernel
theorem dX11_copyDay_19 : decode cX11_copyDay 19 = .ok (.iload_n 1, 1) := by decide +kernel
theorem dX11_copyDay_20 : decode cX11_copyDay 20 = .ok (.iload_n 3, 1) := by decide +kernel
theorem dX11_copyDay_21 : decode cX11_copyDay 21 = .ok (.iadd, 1) := by decide +kernel
theorem dX11_copyDay_22 : decode cX11_copyDay 22 = .ok (.iaload, 1) := by decide +kernel
theorem dX11_copyDay_23 : decode cX11_copyDay 23 = .ok (.iastore, 1) := by decide +kernel
theorem dX11_copyDay_24 : decode cX11_copyDay 24 = .ok (.iinc 3 1, 3) := by decide +kernel
theorem dX11_copyDay_27 : decode cX11_copyDay 27 = .ok (.goto (-25), 3) := by decide +kernel
theorem dX11_copyDay_30 : decode cX11_copyDay 30 = .ok (.return_, 1) := by decide +kernel
set_option maxRecDepth 20000 in
theorem ggX11_minds_X11_copyDay : GoodIn wsX11_minds wsX11_copyDay := goodIn_r _ [7, 2, 8, 9, 10, 11, 12, 13, 14, 15, 16, 17, 18, 19, 20, 21, 22, 23, 24, 25, 26, 27, 28, 29, 30, 31, 32, 33, 34, 35, 36] (by decide +kernel) (by decide +kernel)
set_option maxRecDepth 20000 in
theorem gX11_minds_X11_copyDay : GoodIn wsX11_minds (wsV RX11 198 RX11 yX11_copyDay wsX11_copyDay) := goodIn_app (goodIn_of _ (by decide +kernel)) ggX11_minds_X11_copyDay
theorem dX11_minds_0 : decode cX11_minds 0 = .ok (.aload_n 0, 1) := by decide +kernel
theorem dX11_minds_1 : decode cX11_minds 1 = .ok (.getfield 74, 3) := by decide +kernel
theorem dX11_minds_4 : decode cX11_minds 4 = .ok (.bipush 8, 2) := by decide +kernel
theorem dX11_minds_6 : decode cX11_minds 6 = .ok (.if_icmp .ne 49, 3) := by decide +kernel
theorem dX11_minds_9 : decode cX11_minds 9 = .ok (.iconst 0, 1) := by decide +kernel
theorem dX11_minds_10 : decode cX11_minds 10 = .ok (.istore_n 1, 1) := by decide +kernel
theorem dX11_minds_11 : decode cX11_minds 11 = .ok (.iload_n 1, 1) := by decide +kernel
theorem dX11_minds_12 : decode cX11_minds 12 = .ok (.sipush 154, 3) := by decide +kernel
theorem dX11_minds_15 : decode cX11_minds 15 = .ok (.if_icmp .ge 30, 3) := by decide +kernel
theorem dX11_minds_18 : decode cX11_minds 18 = .ok (.aload_n 0, 1) := by decide +kernel
theorem dX11_minds_19 : decode cX11_minds 19 = .ok (.getfield 13, 3) := by decide +kernel
theorem dX11_minds_22 : decode cX11_minds 22 = .ok (.bipush 66, 2) := by decide +kernel
theorem dX11_minds_24 : decode cX11_minds 24 = .ok (.iload_n 1, 1) := by decide +kernel
theorem dX11_minds_25 : decode cX11_minds 25 = .ok (.iadd, 1) := by decide +kernel
theorem dX11_minds_26 : decode cX11_minds 26 = .ok (.aload_n 0, 1) := by decide +kernel
theorem dX11_minds_27 : decode cX11_minds 27 = .ok (.getfield 13, 3) := by decide +kernel
theorem dX11_minds_30 : decode cX11_minds 30 = .ok (.bipush 66, 2) := by decide +kernel
theorem dX11_minds_32 : decode cX11_minds 32 = .ok (.iload_n 1, 1) := by decide +kernel
theorem dX11_minds_33 : decode cX11_minds 33 = .ok (.iadd, 1) := by decide +kernel
theorem dX11_minds_34 : decode cX11_minds 34 = .ok (.bipush 22, 2) := by decide +kernel
theorem dX11_minds_36 : decode cX11_minds 36 = .ok (.iadd, 1) := by decide +kernel
theorem dX11_minds_37 : decode cX11_minds 37 = .ok (.iaload, 1) := by decide +kernel
theorem dX11_minds_38 : decode cX11_minds 38 = .ok (.iastore, 1) := by decide +kernel
theorem dX11_minds_39 : decode cX11_minds 39 = .ok (.iinc 1 1, 3) := by decide +kernel
theorem dX11_minds_42 : decode cX11_minds 42 = .ok (.goto (-31), 3) := by decide +kernel
theorem dX11_minds_45 : decode cX11_minds 45 = .ok (.aload_n 0, 1) := by decide +kernel
theorem dX11_minds_46 : decode cX11_minds 46 = .ok (.dup, 1) := by decide +kernel
theorem dX11_minds_47 : decode cX11_minds 47 = .ok (.getfield 74, 3) := by decide +kernel
theorem dX11_minds_50 : decode cX11_minds 50 = .ok (.iconst 1, 1) := by decide +kernel
theorem dX11_minds_51 : decode cX11_minds 51 = .ok (.isub, 1) := by decide +kernel
theorem dX11_minds_52 : decode cX11_minds 52 = .ok (.putfield 74, 3) := by decide +kernel
theorem dX11_minds_55 : decode cX11_minds 55 = .ok (.aload_n 0, 1) := by decide +kernel
theorem dX11_minds_56 : decode cX11_minds 56 = .ok (.iconst 0, 1) := by decide +kernel
theorem dX11_minds_57 : decode cX11_minds 57 = .ok (.bipush 66, 2) := by decide +kernel
theorem dX11_minds_59 : decode cX11_minds 59 = .ok (.bipush 22, 2) := by decide +kernel
theorem dX11_minds_61 : decode cX11_minds 61 = .ok (.aload_n 0, 1) := by decide +kernel
theorem dX11_minds_62 : decode cX11_minds 62 = .ok (.getfield 74, 3) := by decide +kernel
theorem dX11_minds_65 : decode cX11_minds 65 = .ok (.imul, 1) := by decide +kernel
theorem dX11_minds_66 : decode cX11_minds 66 = .ok (.iadd, 1) := by decide +kernel
theorem dX11_minds_67 : decode cX11_minds 67 = .ok (.invokevirtual 198, 3) := by decide +kernel
theorem dX11_minds_70 : decode cX11_minds 70 = .ok (.aload_n 0, 1) := by decide +kernel
theorem dX11_minds_71 : decode cX11_minds 71 = .ok (.dup, 1) := by decide +kernel
theorem dX11_minds_72 : decode cX11_minds 72 = .ok (.getfield 74, 3) := by decide +kernel
theorem dX11_minds_75 : decode cX11_minds 75 = .ok (.iconst 1, 1) := by decide +kernel
theorem dX11_minds_76 : decode cX11_minds 76 = .ok (.iadd, 1) := by decide +kernel
theorem dX11_minds_77 : decode cX11_minds 77 = .ok (.putfield 74, 3) := by decide +kernel
theorem dX11_minds_80 : decode cX11_minds 80 = .ok (.return_, 1) := by decide +kernel
set_option maxRecDepth 20000 in
theorem ggX11_does_X11_isOne : GoodIn wsX11_does wsX11_isOne := goodIn_r _ [7, 2, 8, 9, 6, 10, 35, 36, 37, 38, 39, 40, 41, 42, 43, 44, 45, 46, 47, 48, 49, 50, 51, 52, 53, 54, 55, 56, 57, 58, 59, 60, 61, 62, 63] (by decide +kernel) (by decide +kernel)
set_option maxRecDepth 20000 in
theorem gX11_does_X11_isOne : GoodIn wsX11_does (wsV RX11 170 RX11 yX11_isOne wsX11_isOne) := goodIn_app (goodIn_of _ (by decide +kernel)) ggX11_does_X11_isOne
set_option maxRecDepth 20000 in
theorem ggX11_does_X11_isWork : GoodIn wsX11_does wsX11_isWork := goodIn_r _ [14, 2, 8, 9, 6, 10, 35, 36, 37, 38, 39, 40, 41, 42, 43, 44, 45, 46, 47, 48, 49, 50, 51, 52, 53, 54, 55, 56, 57, 58, 59, 60, 61, 62, 63] (by decide +kernel) (by decide +kernel)
set_option maxRecDepth 20000 in
theorem gX11_does_X11_isWork : GoodIn wsX11_does (wsV RX11 173 RX11 yX11_isWork wsX11_isWork) := goodIn_app (goodIn_of _ (by decide +kernel)) ggX11_does_X11_isWork
set_option maxRecDepth 20000 in
theorem ggX11_does_X11_canDo : GoodIn wsX11_does wsX11_canDo := goodIn_r _ [18, 1, 2, 19, 20, 6, 21, 22, 23, 24, 25, 35, 36, 37, 38, 39, 40, 41, 42, 43, 44, 45, 46, 47, 48, 49, 50, 51, 52, 53, 54, 55, 56, 57, 58, 59, 60, 61, 62, 63] (by decide +kernel) (by decide +kernel)
set_option maxRecDepth 20000 in
theorem gX11_does_X11_canDo : GoodIn wsX11_does (wsV RX11 193 RX11 yX11_canDo wsX11_canDo) := goodIn_app (goodIn_of _ (by decide +kernel)) ggX11_does_X11_canDo
set_option maxRecDepth 20000 in
theorem ggX11_does_X11_minds : GoodIn wsX11_does wsX11_minds := goodIn_r _ [29, 30, 1, 31, 32, 33, 6, 34, 35, 36, 37, 38, 39, 40, 41, 42, 43, 44, 45, 46, 47, 48, 49, 50, 51, 52, 53, 54, 55, 56, 57, 58, 59, 60, 61, 62, 63] (by decide +kernel) (by decide +kernel)
set_option maxRecDepth 20000 in
theorem gX11_does_X11_minds : GoodIn wsX11_does (wsV RX11 202 RX11 yX11_minds wsX11_minds) := goodIn_app (goodIn_of _ (by decide +kernel)) ggX11_does_X11_minds
theorem dX11_does_0 : decode cX11_does 0 = .ok (.aload_n 0, 1) := by decide +kernel
theorem dX11_does_1 : decode cX11_does 1 = .ok (.iload_n 1, 1) := by decide +kernel
theorem dX11_does_2 : decode cX11_does 2 = .ok (.invokevirtual 170, 3) := by decide +kernel
theorem dX11_does_5 : decode cX11_does 5 = .ok (.ifCond .eq 11, 3) := by decide +kernel
theorem dX11_does_8 : decode cX11_does 8 = .ok (.aload_n 0, 1) := by decide +kernel
theorem dX11_does_9 : decode cX11_does 9 = .ok (.iload_n 2, 1) := by decide +kernel
theorem dX11_does_10 : decode cX11_does 10 = .ok (.invokevirtual 173, 3) := by decide +kernel
theorem dX11_does_13 : decode cX11_does 13 = .ok (.ifCond .ne 6, 3) := by decide +kernel
theorem dX11_does_16 : decode cX11_does 16 = .ok (.bipush (-2), 2) := by decide +kernel
theorem dX11_does_18 : decode cX11_does 18 = .ok (.ireturn, 1) := by decide +kernel
theorem dX11_does_19 : decode cX11_does 19 = .ok (.aload_n 0, 1) := by decide +kernel
theorem dX11_does_20 : decode cX11_does 20 = .ok (.iload_n 1, 1) := by decide +kernel
theorem dX11_does_21 : decode cX11_does 21 = .ok (.iload_n 2, 1) := by decide +kernel
theorem dX11_does_22 : decode cX11_does 22 = .ok (.invokevirtual 193, 3) := by decide +kernel
theorem dX11_does_25 : decode cX11_does 25 = .ok (.ifCond .ne 6, 3) := by decide +kernel
theorem dX11_does_28 : decode cX11_does 28 = .ok (.bipush (-4), 2) := by decide +kernel
theorem dX11_does_30 : decode cX11_does 30 = .ok (.ireturn, 1) := by decide +kernel
theorem dX11_does_31 : decode cX11_does 31 = .ok (.aload_n 0, 1) := by decide +kernel
theorem dX11_does_32 : decode cX11_does 32 = .ok (.invokevirtual 202, 3) := by decide +kernel
theorem dX11_does_35 : decode cX11_does 35 = .ok (.aload_n 0, 1) := by decide +kernel
theorem dX11_does_36 : decode cX11_does 36 = .ok (.getfield 13, 3) := by decide +kernel
theorem dX11_does_39 : decode cX11_does 39 = .ok (.iconst 0, 1) := by decide +kernel
theorem dX11_does_40 : decode cX11_does 40 = .ok (.iload_n 1, 1) := by decide +kernel
theorem dX11_does_41 : decode cX11_does 41 = .ok (.iadd, 1) := by decide +kernel
theorem dX11_does_42 : decode cX11_does 42 = .ok (.dup2, 1) := by decide +kernel
theorem dX11_does_43 : decode cX11_does 43 = .ok (.iaload, 1) := by decide +kernel
theorem dX11_does_44 : decode cX11_does 44 = .ok (.aload_n 0, 1) := by decide +kernel
theorem dX11_does_45 : decode cX11_does 45 = .ok (.getfield 7, 3) := by decide +kernel
theorem dX11_does_48 : decode cX11_does 48 = .ok (.bipush 18, 2) := by decide +kernel
theorem dX11_does_50 : decode cX11_does 50 = .ok (.iload_n 2, 1) := by decide +kernel
theorem dX11_does_51 : decode cX11_does 51 = .ok (.iadd, 1) := by decide +kernel
theorem dX11_does_52 : decode cX11_does 52 = .ok (.iaload, 1) := by decide +kernel
theorem dX11_does_53 : decode cX11_does 53 = .ok (.isub, 1) := by decide +kernel
theorem dX11_does_54 : decode cX11_does 54 = .ok (.iastore, 1) := by decide +kernel
theorem dX11_does_55 : decode cX11_does 55 = .ok (.aload_n 0, 1) := by decide +kernel
theorem dX11_does_56 : decode cX11_does 56 = .ok (.getfield 13, 3) := by decide +kernel
theorem dX11_does_59 : decode cX11_does 59 = .ok (.iconst 5, 1) := by decide +kernel
theorem dX11_does_60 : decode cX11_does 60 = .ok (.iload_n 2, 1) := by decide +kernel
theorem dX11_does_61 : decode cX11_does 61 = .ok (.iadd, 1) := by decide +kernel
theorem dX11_does_62 : decode cX11_does 62 = .ok (.aload_n 0, 1) := by decide +kernel
theorem dX11_does_63 : decode cX11_does 63 = .ok (.getfield 7, 3) := by decide +kernel
theorem dX11_does_66 : decode cX11_does 66 = .ok (.bipush 24, 2) := by decide +kernel
theorem dX11_does_68 : decode cX11_does 68 = .ok (.iload_n 2, 1) := by decide +kernel
theorem dX11_does_69 : decode cX11_does 69 = .ok (.iadd, 1) := by decide +kernel
theorem dX11_does_70 : decode cX11_does 70 = .ok (.iaload, 1) := by decide +kernel
theorem dX11_does_71 : decode cX11_does 71 = .ok (.iastore, 1) := by decide +kernel
theorem dX11_does_72 : decode cX11_does 72 = .ok (.aload_n 0, 1) := by decide +kernel
theorem dX11_does_73 : decode cX11_does 73 = .ok (.getfield 13, 3) := by decide +kernel
theorem dX11_does_76 : decode cX11_does 76 = .ok (.iconst 0, 1) := by decide +kernel
theorem dX11_does_77 : decode cX11_does 77 = .ok (.iload_n 1, 1) := by decide +kernel
theorem dX11_does_78 : decode cX11_does 78 = .ok (.iadd, 1) := by decide +kernel
theorem dX11_does_79 : decode cX11_does 79 = .ok (.iaload, 1) := by decide +kernel
theorem dX11_does_80 : decode cX11_does 80 = .ok (.ireturn, 1) := by decide +kernel
set_option maxRecDepth 20000 in
theorem ggX11_like_X11_has : GoodIn wsX11_like wsX11_has := goodIn_r _ [5] (by decide +kernel) (by decide +kernel)
set_option maxRecDepth 20000 in
theorem gX11_like_X11_has : GoodIn wsX11_like (va_wsS RX11 164 yX11_has wsX11_has) := goodIn_app (goodIn_of _ (by decide +kernel)) ggX11_like_X11_has
theorem dX11_like_0 : decode cX11_like 0 = .ok (.aload_n 0, 1) := by decide +kernel
theorem dX11_like_1 : decode cX11_like 1 = .ok (.getfield 7, 3) := by decide +kernel
theorem dX11_like_4 : decode cX11_like 4 = .ok (.bipush 6, 2) := by decide +kernel
theorem dX11_like_6 : decode cX11_like 6 = .ok (.iload_n 1, 1) := by decide +kernel
theorem dX11_like_7 : decode cX11_like 7 = .ok (.iadd, 1) := by decide +kernel
theorem dX11_like_8 : decode cX11_like 8 = .ok (.iaload, 1) := by decide +kernel
theorem dX11_like_9 : decode cX11_like 9 = .ok (.iload_n 2, 1) := by decide +kernel
theorem dX11_like_10 : decode cX11_like 10 = .ok (.invokestatic 164, 3) := by decide +kernel
theorem dX11_like_13 : decode cX11_like 13 = .ok (.ifCond .eq 23, 3) := by decide +kernel
theorem dX11_like_16 : decode cX11_like 16 = .ok (.aload_n 0, 1) := by decide +kernel
theorem dX11_like_17 : decode cX11_like 17 = .ok (.getfield 7, 3) := by decide +kernel
theorem dX11_like_20 : decode cX11_like 20 = .ok (.bipush 6, 2) := by decide +kernel
theorem dX11_like_22 : decode cX11_like 22 = .ok (.iload_n 2, 1) := by decide +kernel
theorem dX11_like_23 : decode cX11_like 23 = .ok (.iadd, 1) := by decide +kernel
theorem dX11_like_24 : decode cX11_like 24 = .ok (.iaload, 1) := by decide +kernel
theorem dX11_like_25 : decode cX11_like 25 = .ok (.iload_n 1, 1) := by decide +kernel
theorem dX11_like_26 : decode cX11_like 26 = .ok (.invokestatic 164, 3) := by decide +kernel
theorem dX11_like_29 : decode cX11_like 29 = .ok (.ifCond .eq 7, 3) := by decide +kernel
theorem dX11_like_32 : decode cX11_like 32 = .ok (.iconst 1, 1) := by decide +kernel
theorem dX11_like_33 : decode cX11_like 33 = .ok (.goto 4, 3) := by decide +kernel
theorem dX11_like_36 : decode cX11_like 36 = .ok (.iconst 0, 1) := by decide +kernel
theorem dX11_like_37 : decode cX11_like 37 = .ok (.ireturn, 1) := by decide +kernel
set_option maxRecDepth 20000 in
theorem ggX11_mayMarry_X11_like : GoodIn wsX11_mayMarry wsX11_like := goodIn_r _ [6, 7, 8, 9, 5, 10, 11, 12, 13, 14, 15, 16, 17, 18, 19, 20, 21, 22, 23, 24, 25, 26, 27, 28, 29, 30, 31, 32, 33, 34, 35, 36, 37, 38, 39] (by decide +kernel) (by decide +kernel)
set_option maxRecDepth 20000 in
theorem gX11_mayMarry_X11_like : GoodIn wsX11_mayMarry (wsV RX11 205 RX11 yX11_like wsX11_like) := goodIn_app (goodIn_of _ (by decide +kernel)) ggX11_mayMarry_X11_like
theorem dX11_mayMarry_0 : decode cX11_mayMarry 0 = .ok (.aload_n 0, 1) := by decide +kernel
theorem dX11_mayMarry_1 : decode cX11_mayMarry 1 = .ok (.iload_n 1, 1) := by decide +kernel
theorem dX11_mayMarry_2 : decode cX11_mayMarry 2 = .ok (.iload_n 2, 1) := by decide +kernel
theorem dX11_mayMarry_3 : decode cX11_mayMarry 3 = .ok (.invokevirtual 205, 3) := by decide +kernel
theorem dX11_mayMarry_6 : decode cX11_mayMarry 6 = .ok (.ifCond .eq 33, 3) := by decide +kernel
theorem dX11_mayMarry_9 : decode cX11_mayMarry 9 = .ok (.aload_n 0, 1) := by decide +kernel
theorem dX11_mayMarry_10 : decode cX11_mayMarry 10 = .ok (.getfield 13, 3) := by decide +kernel
theorem dX11_mayMarry_13 : decode cX11_mayMarry 13 = .ok (.bipush 11, 2) := by decide +kernel
theorem dX11_mayMarry_15 : decode cX11_mayMarry 15 = .ok (.iload_n 1, 1) := by decide +kernel
theorem dX11_mayMarry_16 : decode cX11_mayMarry 16 = .ok (.iadd, 1) := by decide +kernel
theorem dX11_mayMarry_17 : decode cX11_mayMarry 17 = .ok (.iaload, 1) := by decide +kernel
theorem dX11_mayMarry_18 : decode cX11_mayMarry 18 = .ok (.iconst (-1), 1) := by decide +kernel
theorem dX11_mayMarry_19 : decode cX11_mayMarry 19 = .ok (.if_icmp .ne 20, 3) := by decide +kernel
theorem dX11_mayMarry_22 : decode cX11_mayMarry 22 = .ok (.aload_n 0, 1) := by decide +kernel
theorem dX11_mayMarry_23 : decode cX11_mayMarry 23 = .ok (.getfield 13, 3) := by decide +kernel
theorem dX11_mayMarry_26 : decode cX11_mayMarry 26 = .ok (.bipush 11, 2) := by decide +kernel
theorem dX11_mayMarry_28 : decode cX11_mayMarry 28 = .ok (.iload_n 2, 1) := by decide +kernel
theorem dX11_mayMarry_29 : decode cX11_mayMarry 29 = .ok (.iadd, 1) := by decide +kernel
theorem dX11_mayMarry_30 : decode cX11_mayMarry 30 = .ok (.iaload, 1) := by decide +kernel
theorem dX11_mayMarry_31 : decode cX11_mayMarry 31 = .ok (.iconst (-1), 1) := by decide +kernel
theorem dX11_mayMarry_32 : decode cX11_mayMarry 32 = .ok (.if_icmp .ne 7, 3) := by decide +kernel
theorem dX11_mayMarry_35 : decode cX11_mayMarry 35 = .ok (.iconst 1, 1) := by decide +kernel
theorem dX11_mayMarry_36 : decode cX11_mayMarry 36 = .ok (.goto 4, 3) := by decide +kernel
theorem dX11_mayMarry_39 : decode cX11_mayMarry 39 = .ok (.iconst 0, 1) := by decide +kernel
theorem dX11_mayMarry_40 : decode cX11_mayMarry 40 = .ok (.ireturn, 1) := by decide +kernel
theorem dX11_marriages_0 : decode cX11_marriages 0 = .ok (.iconst 0, 1) := by decide +kernel
theorem dX11_marriages_1 : decode cX11_marriages 1 = .ok (.istore_n 1, 1) := by decide +kernel
theorem dX11_marriages_2 : decode cX11_marriages 2 = .ok (.iconst 0, 1) := by decide +kernel
theorem dX11_marriages_3 : decode cX11_marriages 3 = .ok (.istore_n 2, 1) := by decide +kernel
theorem dX11_marriages_4 : decode cX11_marriages 4 = .ok (.iload_n 2, 1) := by decide +kernel
theorem dX11_marriages_5 : decode cX11_marriages 5 = .ok (.aload_n 0, 1) := by decide +kernel
theorem dX11_marriages_6 : decode cX11_marriages 6 = .ok (.getfield 7, 3) := by decide +kernel
theorem dX11_marriages_9 : decode cX11_marriages 9 = .ok (.iconst 0, 1) := by decide +kernel
theorem dX11_marriages_10 : decode cX11_marriages 10 = .ok (.iaload, 1) := by decide +kernel
theorem dX11_marriages_11 : decode cX11_marriages 11 = .ok (.if_icmp .ge 30, 3) := by decide +kernel
theorem dX11_marriages_14 : decode cX11_marriages 14 = .ok (.iload_n 1, 1) := by decide +kernel
theorem dX11_marriages_15 : decode cX11_marriages 15 = .ok (.aload_n 0, 1) := by decide +kernel
theorem dX11_marriages_16 : decode cX11_marriages 16 = .ok (.getfield 13, 3) := by decide +kernel
theorem dX11_marriages_19 : decode cX11_marriages 19 = .ok (.bipush 11, 2) := by decide +kernel
theorem dX11_marriages_21 : decode cX11_marriages 21 = .ok (.iload_n 2, 1) := by decide +kernel
theorem dX11_marriages_22 : decode cX11_marriages 22 = .ok (.iadd, 1) := by decide +kernel
theorem dX11_marriages_23 : decode cX11_marriages 23 = .ok (.iaload, 1) := by decide +kernel
theorem dX11_marriages_24 : decode cX11_marriages 24 = .ok (.iload_n 2, 1) := by decide +kernel
theorem dX11_marriages_25 : decode cX11_marriages 25 = .ok (.if_icmp .le 7, 3) := by decide +kernel
theorem dX11_marriages_28 : decode cX11_marriages 28 = .ok (.iconst 1, 1) := by decide +kernel
theorem dX11_marriages_29 : decode cX11_marriages 29 = .ok (.goto 4, 3) := by decide +kernel
theorem dX11_marriages_32 : decode cX11_marriages 32 = .ok (.iconst 0, 1) := by decide +kernel
theorem dX11_marriages_33 : decode cX11_marriages 33 = .ok (.iadd, 1) := by decide +kernel
theorem dX11_marriages_34 : decode cX11_marriages 34 = .ok (.istore_n 1, 1) := by decide +kernel
theorem dX11_marriages_35 : decode cX11_marriages 35 = .ok (.iinc 2 1, 3) := by decide +kernel
theorem dX11_marriages_38 : decode cX11_marriages 38 = .ok (.goto (-34), 3) := by decide +kernel
theorem dX11_marriages_41 : decode cX11_marriages 41 = .ok (.iload_n 1, 1) := by decide +kernel
theorem dX11_marriages_42 : decode cX11_marriages 42 = .ok (.ireturn, 1) := by decide +kernel
set_option maxRecDepth 20000 in
theorem ggX11_marry_X11_isOne : GoodIn wsX11_marry wsX11_isOne := goodIn_r _ [6, 7, 8, 9, 5, 10, 35, 36, 37, 38, 39, 40, 41, 42, 43, 44, 45, 46, 47, 48, 49, 50, 51, 52, 53, 54, 55, 56, 57, 58, 59, 60, 61, 62, 63] (by decide +kernel) (by decide +kernel)
set_option maxRecDepth 20000 in
theorem gX11_marry_X11_isOne : GoodIn wsX11_marry (wsV RX11 170 RX11 yX11_isOne wsX11_isOne) := goodIn_app (goodIn_of _ (by decide +kernel)) ggX11_marry_X11_isOne
set_option maxRecDepth 20000 in
theorem ggX11_marry_X11_mayMarry : GoodIn wsX11_marry wsX11_mayMarry := goodIn_r _ [14, 1, 15, 16, 17, 5, 18, 7, 19, 20, 21, 35, 36, 37, 38, 39, 40, 41, 42, 43, 44, 45, 46, 47, 48, 49, 50, 51, 52, 53, 54, 55, 56, 57, 58, 59, 60, 61, 62, 63] (by decide +kernel) (by decide +kernel)
set_option maxRecDepth 20000 in
theorem gX11_marry_X11_mayMarry : GoodIn wsX11_marry (wsV RX11 208 RX11 yX11_mayMarry wsX11_mayMarry) := goodIn_app (goodIn_of _ (by decide +kernel)) ggX11_marry_X11_mayMarry
set_option maxRecDepth 20000 in
theorem ggX11_marry_X11_minds : GoodIn wsX11_marry wsX11_minds := goodIn_r _ [25, 26, 1, 27, 28, 29, 5, 30, 35, 36, 37, 38, 39, 40, 41, 42, 43, 44, 45, 46, 47, 48, 49, 50, 51, 52, 53, 54, 55, 56, 57, 58, 59, 60, 61, 62, 63] (by decide +kernel) (by decide +kernel)
set_option maxRecDepth 20000 in
theorem gX11_marry_X11_minds : GoodIn wsX11_marry (wsV RX11 202 RX11 yX11_minds wsX11_minds) := goodIn_app (goodIn_of _ (by decide +kernel)) ggX11_marry_X11_minds
set_option maxRecDepth 20000 in
theorem ggX11_marry_X11_marriages : GoodIn wsX11_marry wsX11_marriages := goodIn_r _ [34, 7, 1, 35, 36, 37, 38, 39, 40, 41, 42, 43, 44, 45, 46, 47, 48, 49, 50, 51, 52, 53, 54, 55, 56, 57, 58, 59, 60, 61, 62, 63] (by decide +kernel) (by decide +kernel)
set_option maxRecDepth 20000 in
theorem gX11_marry_X11_marriages : GoodIn wsX11_marry (wsV RX11 211 RX11 yX11_marriages wsX11_marriages) := goodIn_app (goodIn_of _ (by decide +kernel)) ggX11_marry_X11_marriages
theorem dX11_marry_0 : decode cX11_marry 0 = .ok (.aload_n 0, 1) := by decide +kernel
theorem dX11_marry_1 : decode cX11_marry 1 = .ok (.iload_n 1, 1) := by decide +kernel
theorem dX11_marry_2 : decode cX11_marry 2 = .ok (.invokevirtual 170, 3) := by decide +kernel
theorem dX11_marry_5 : decode cX11_marry 5 = .ok (.ifCond .eq 16, 3) := by decide +kernel
theorem dX11_marry_8 : decode cX11_marry 8 = .ok (.aload_n 0, 1) := by decide +kernel
theorem dX11_marry_9 : decode cX11_marry 9 = .ok (.iload_n 2, 1) := by decide +kernel
theorem dX11_marry_10 : decode cX11_marry 10 = .ok (.invokevirtual 170, 3) := by decide +kernel
theorem dX11_marry_13 : decode cX11_marry 13 = .ok (.ifCond .eq 8, 3) := by decide +kernel
theorem dX11_marry_16 : decode cX11_marry 16 = .ok (.iload_n 1, 1) := by decide +kernel
theorem dX11_marry_17 : decode cX11_marry 17 = .ok (.iload_n 2, 1) := by decide +kernel
theorem dX11_marry_18 : decode cX11_marry 18 = .ok (.if_icmp .ne 6, 3) := by decide +kernel
theorem dX11_marry_21 : decode cX11_marry 21 = .ok (.bipush (-2), 2) := by decide +kernel
theorem dX11_marry_23 : decode cX11_marry 23 = .ok (.ireturn, 1) := by decide +kernel
theorem dX11_marry_24 : decode cX11_marry 24 = .ok (.aload_n 0, 1) := by decide +kernel
theorem dX11_marry_25 : decode cX11_marry 25 = .ok (.iload_n 1, 1) := by decide +kernel
theorem dX11_marry_26 : decode cX11_marry 26 = .ok (.iload_n 2, 1) := by decide +kernel
theorem dX11_marry_27 : decode cX11_marry 27 = .ok (.invokevirtual 208, 3) := by decide +kernel
theorem dX11_marry_30 : decode cX11_marry 30 = .ok (.ifCond .ne 6, 3) := by decide +kernel
theorem dX11_marry_33 : decode cX11_marry 33 = .ok (.bipush (-4), 2) := by decide +kernel
theorem dX11_marry_35 : decode cX11_marry 35 = .ok (.ireturn, 1) := by decide +kernel
theorem dX11_marry_36 : decode cX11_marry 36 = .ok (.aload_n 0, 1) := by decide +kernel
theorem dX11_marry_37 : decode cX11_marry 37 = .ok (.invokevirtual 202, 3) := by decide +kernel
theorem dX11_marry_40 : decode cX11_marry 40 = .ok (.aload_n 0, 1) := by decide +kernel
theorem dX11_marry_41 : decode cX11_marry 41 = .ok (.getfield 13, 3) := by decide +kernel
theorem dX11_marry_44 : decode cX11_marry 44 = .ok (.bipush 11, 2) := by decide +kernel
theorem dX11_marry_46 : decode cX11_marry 46 = .ok (.iload_n 1, 1) := by decide +kernel
theorem dX11_marry_47 : decode cX11_marry 47 = .ok (.iadd, 1) := by decide +kernel
theorem dX11_marry_48 : decode cX11_marry 48 = .ok (.iload_n 2, 1) := by decide +kernel
theorem dX11_marry_49 : decode cX11_marry 49 = .ok (.iastore, 1) := by decide +kernel
theorem dX11_marry_50 : decode cX11_marry 50 = .ok (.aload_n 0, 1) := by decide +kernel
theorem dX11_marry_51 : decode cX11_marry 51 = .ok (.getfield 13, 3) := by decide +kernel
theorem dX11_marry_54 : decode cX11_marry 54 = .ok (.bipush 11, 2) := by decide +kernel
theorem dX11_marry_56 : decode cX11_marry 56 = .ok (.iload_n 2, 1) := by decide +kernel
theorem dX11_marry_57 : decode cX11_marry 57 = .ok (.iadd, 1) := by decide +kernel
theorem dX11_marry_58 : decode cX11_marry 58 = .ok (.iload_n 1, 1) := by decide +kernel
theorem dX11_marry_59 : decode cX11_marry 59 = .ok (.iastore, 1) := by decide +kernel
theorem dX11_marry_60 : decode cX11_marry 60 = .ok (.aload_n 0, 1) := by decide +kernel
theorem dX11_marry_61 : decode cX11_marry 61 = .ok (.invokevirtual 211, 3) := by decide +kernel
theorem dX11_marry_64 : decode cX11_marry 64 = .ok (.ireturn, 1) := by decide +kernel
set_option maxRecDepth 20000 in
theorem ggX11_sell_X11_isGood : GoodIn wsX11_sell wsX11_isGood := goodIn_r _ [6, 7, 8, 9, 5, 10, 27, 28, 29, 30, 31, 32, 33, 34, 35, 36, 37, 38, 39, 40, 41, 42, 43, 44, 45, 46, 47, 48, 49, 50, 51, 52, 53, 54, 55] (by decide +kernel) (by decide +kernel)
set_option maxRecDepth 20000 in
theorem gX11_sell_X11_isGood : GoodIn wsX11_sell (wsV RX11 178 RX11 yX11_isGood wsX11_isGood) := goodIn_app (goodIn_of _ (by decide +kernel)) ggX11_sell_X11_isGood
set_option maxRecDepth 20000 in
theorem ggX11_sell_X11_has : GoodIn wsX11_sell wsX11_has := goodIn_r _ [13] (by decide +kernel) (by decide +kernel)
set_option maxRecDepth 20000 in
theorem gX11_sell_X11_has : GoodIn wsX11_sell (va_wsS RX11 164 yX11_has wsX11_has) := goodIn_app (goodIn_of _ (by decide +kernel)) ggX11_sell_X11_has
set_option maxRecDepth 20000 in
theorem ggX11_sell_X11_minds : GoodIn wsX11_sell wsX11_minds := goodIn_r _ [17, 18, 1, 19, 20, 21, 5, 22, 27, 28, 29, 30, 31, 32, 33, 34, 35, 36, 37, 38, 39, 40, 41, 42, 43, 44, 45, 46, 47, 48, 49, 50, 51, 52, 53, 54, 55] (by decide +kernel) (by decide +kernel)
set_option maxRecDepth 20000 in
theorem gX11_sell_X11_minds : GoodIn wsX11_sell (wsV RX11 202 RX11 yX11_minds wsX11_minds) := goodIn_app (goodIn_of _ (by decide +kernel)) ggX11_sell_X11_minds
set_option maxRecDepth 20000 in
theorem ggX11_sell_X11_worthIn : GoodIn wsX11_sell wsX11_worthIn := goodIn_r _ [26, 7, 27, 28, 29, 30, 31, 32, 33, 34, 35, 36, 37, 38, 39, 40, 41, 42, 43, 44, 45, 46, 47, 48, 49, 50, 51, 52, 53, 54, 55] (by decide +kernel) (by decide +kernel)
set_option maxRecDepth 20000 in
theorem gX11_sell_X11_worthIn : GoodIn wsX11_sell (wsV RX11 184 RX11 yX11_worthIn wsX11_worthIn) := goodIn_app (goodIn_of _ (by decide +kernel)) ggX11_sell_X11_worthIn
theorem dX11_sell_0 : decode cX11_sell 0 = .ok (.aload_n 0, 1) := by decide +kernel
theorem dX11_sell_1 : decode cX11_sell 1 = .ok (.iload_n 1, 1) := by decide +kernel
theorem dX11_sell_2 : decode cX11_sell 2 = .ok (.invokevirtual 178, 3) := by decide +kernel
theorem dX11_sell_5 : decode cX11_sell 5 = .ok (.ifCond .ne 6, 3) := by decide +kernel
theorem dX11_sell_8 : decode cX11_sell 8 = .ok (.bipush (-2), 2) := by decide +kernel
theorem dX11_sell_10 : decode cX11_sell 10 = .ok (.ireturn, 1) := by decide +kernel
theorem dX11_sell_11 : decode cX11_sell 11 = .ok (.aload_n 0, 1) := by decide +kernel
theorem dX11_sell_12 : decode cX11_sell 12 = .ok (.getfield 13, 3) := by decide +kernel
theorem dX11_sell_15 : decode cX11_sell 15 = .ok (.bipush 18, 2) := by decide +kernel
theorem dX11_sell_17 : decode cX11_sell 17 = .ok (.iaload, 1) := by decide +kernel
theorem dX11_sell_18 : decode cX11_sell 18 = .ok (.iload_n 1, 1) := by decide +kernel
theorem dX11_sell_19 : decode cX11_sell 19 = .ok (.invokestatic 164, 3) := by decide +kernel
theorem dX11_sell_22 : decode cX11_sell 22 = .ok (.ifCond .eq 6, 3) := by decide +kernel
theorem dX11_sell_25 : decode cX11_sell 25 = .ok (.bipush (-4), 2) := by decide +kernel
theorem dX11_sell_27 : decode cX11_sell 27 = .ok (.ireturn, 1) := by decide +kernel
theorem dX11_sell_28 : decode cX11_sell 28 = .ok (.aload_n 0, 1) := by decide +kernel
theorem dX11_sell_29 : decode cX11_sell 29 = .ok (.invokevirtual 202, 3) := by decide +kernel
theorem dX11_sell_32 : decode cX11_sell 32 = .ok (.aload_n 0, 1) := by decide +kernel
theorem dX11_sell_33 : decode cX11_sell 33 = .ok (.iload_n 1, 1) := by decide +kernel
theorem dX11_sell_34 : decode cX11_sell 34 = .ok (.aload_n 0, 1) := by decide +kernel
theorem dX11_sell_35 : decode cX11_sell 35 = .ok (.getfield 13, 3) := by decide +kernel
theorem dX11_sell_38 : decode cX11_sell 38 = .ok (.bipush 20, 2) := by decide +kernel
theorem dX11_sell_40 : decode cX11_sell 40 = .ok (.iaload, 1) := by decide +kernel
theorem dX11_sell_41 : decode cX11_sell 41 = .ok (.invokevirtual 184, 3) := by decide +kernel
theorem dX11_sell_44 : decode cX11_sell 44 = .ok (.istore_n 2, 1) := by decide +kernel
theorem dX11_sell_45 : decode cX11_sell 45 = .ok (.aload_n 0, 1) := by decide +kernel
theorem dX11_sell_46 : decode cX11_sell 46 = .ok (.getfield 13, 3) := by decide +kernel
theorem dX11_sell_49 : decode cX11_sell 49 = .ok (.bipush 18, 2) := by decide +kernel
theorem dX11_sell_51 : decode cX11_sell 51 = .ok (.dup2, 1) := by decide +kernel
theorem dX11_sell_52 : decode cX11_sell 52 = .ok (.iaload, 1) := by decide +kernel
theorem dX11_sell_53 : decode cX11_sell 53 = .ok (.iconst 1, 1) := by decide +kernel
theorem dX11_sell_54 : decode cX11_sell 54 = .ok (.iload_n 1, 1) := by decide +kernel
theorem dX11_sell_55 : decode cX11_sell 55 = .ok (.ishl, 1) := by decide +kernel
theorem dX11_sell_56 : decode cX11_sell 56 = .ok (.ior, 1) := by decide +kernel
theorem dX11_sell_57 : decode cX11_sell 57 = .ok (.iastore, 1) := by decide +kernel
theorem dX11_sell_58 : decode cX11_sell 58 = .ok (.aload_n 0, 1) := by decide +kernel
theorem dX11_sell_59 : decode cX11_sell 59 = .ok (.getfield 13, 3) := by decide +kernel
theorem dX11_sell_62 : decode cX11_sell 62 = .ok (.bipush 19, 2) := by decide +kernel
theorem dX11_sell_64 : decode cX11_sell 64 = .ok (.dup2, 1) := by decide +kernel
theorem dX11_sell_65 : decode cX11_sell 65 = .ok (.iaload, 1) := by decide +kernel
theorem dX11_sell_66 : decode cX11_sell 66 = .ok (.iload_n 2, 1) := by decide +kernel
theorem dX11_sell_67 : decode cX11_sell 67 = .ok (.iadd, 1) := by decide +kernel
theorem dX11_sell_68 : decode cX11_sell 68 = .ok (.iastore, 1) := by decide +kernel
theorem dX11_sell_69 : decode cX11_sell 69 = .ok (.iload_n 2, 1) := by decide +kernel
theorem dX11_sell_70 : decode cX11_sell 70 = .ok (.ireturn, 1) := by decide +kernel
set_option maxRecDepth 20000 in
theorem ggX11_oversleep_X11_isOne : GoodIn wsX11_oversleep wsX11_isOne := goodIn_r _ [6, 7, 8, 9, 5, 10, 23, 24, 25, 26, 27, 28, 29, 30, 31, 32, 33, 34, 35, 36, 37, 38, 39, 40, 41, 42, 43, 44, 45, 46, 47, 48, 49, 50, 51] (by decide +kernel) (by decide +kernel)
set_option maxRecDepth 20000 in
theorem gX11_oversleep_X11_isOne : GoodIn wsX11_oversleep (wsV RX11 170 RX11 yX11_isOne wsX11_isOne) := goodIn_app (goodIn_of _ (by decide +kernel)) ggX11_oversleep_X11_isOne
set_option maxRecDepth 20000 in
theorem ggX11_oversleep_X11_isFlag : GoodIn wsX11_oversleep wsX11_isFlag := goodIn_r _ [13, 8, 9, 5, 10] (by decide +kernel) (by decide +kernel)
set_option maxRecDepth 20000 in
theorem gX11_oversleep_X11_isFlag : GoodIn wsX11_oversleep (va_wsS RX11 181 yX11_isFlag wsX11_isFlag) := goodIn_app (goodIn_of _ (by decide +kernel)) ggX11_oversleep_X11_isFlag
set_option maxRecDepth 20000 in
theorem ggX11_oversleep_X11_minds : GoodIn wsX11_oversleep wsX11_minds := goodIn_r _ [17, 18, 1, 19, 20, 21, 5, 22, 23, 24, 25, 26, 27, 28, 29, 30, 31, 32, 33, 34, 35, 36, 37, 38, 39, 40, 41, 42, 43, 44, 45, 46, 47, 48, 49, 50, 51] (by decide +kernel) (by decide +kernel)
set_option maxRecDepth 20000 in
theorem gX11_oversleep_X11_minds : GoodIn wsX11_oversleep (wsV RX11 202 RX11 yX11_minds wsX11_minds) := goodIn_app (goodIn_of _ (by decide +kernel)) ggX11_oversleep_X11_minds
theorem dX11_oversleep_0 : decode cX11_oversleep 0 = .ok (.aload_n 0, 1) := by decide +kernel
theorem dX11_oversleep_1 : decode cX11_oversleep 1 = .ok (.iload_n 1, 1) := by decide +kernel
theorem dX11_oversleep_2 : decode cX11_oversleep 2 = .ok (.invokevirtual 170, 3) := by decide +kernel
theorem dX11_oversleep_5 : decode cX11_oversleep 5 = .ok (.ifCond .ne 6, 3) := by decide +kernel
theorem dX11_oversleep_8 : decode cX11_oversleep 8 = .ok (.bipush (-2), 2) := by decide +kernel
theorem dX11_oversleep_10 : decode cX11_oversleep 10 = .ok (.ireturn, 1) := by decide +kernel
theorem dX11_oversleep_11 : decode cX11_oversleep 11 = .ok (.iload_n 2, 1) := by decide +kernel
theorem dX11_oversleep_12 : decode cX11_oversleep 12 = .ok (.invokestatic 181, 3) := by decide +kernel
theorem dX11_oversleep_15 : decode cX11_oversleep 15 = .ok (.ifCond .ne 6, 3) := by decide +kernel
theorem dX11_oversleep_18 : decode cX11_oversleep 18 = .ok (.bipush (-3), 2) := by decide +kernel
theorem dX11_oversleep_20 : decode cX11_oversleep 20 = .ok (.ireturn, 1) := by decide +kernel
theorem dX11_oversleep_21 : decode cX11_oversleep 21 = .ok (.aload_n 0, 1) := by decide +kernel
theorem dX11_oversleep_22 : decode cX11_oversleep 22 = .ok (.invokevirtual 202, 3) := by decide +kernel
theorem dX11_oversleep_25 : decode cX11_oversleep 25 = .ok (.aload_n 0, 1) := by decide +kernel
theorem dX11_oversleep_26 : decode cX11_oversleep 26 = .ok (.getfield 13, 3) := by decide +kernel
theorem dX11_oversleep_29 : decode cX11_oversleep 29 = .ok (.bipush 17, 2) := by decide +kernel
theorem dX11_oversleep_31 : decode cX11_oversleep 31 = .ok (.iaload, 1) := by decide +kernel
theorem dX11_oversleep_32 : decode cX11_oversleep 32 = .ok (.iload_n 1, 1) := by decide +kernel
theorem dX11_oversleep_33 : decode cX11_oversleep 33 = .ok (.ishr, 1) := by decide +kernel
theorem dX11_oversleep_34 : decode cX11_oversleep 34 = .ok (.iconst 1, 1) := by decide +kernel
theorem dX11_oversleep_35 : decode cX11_oversleep 35 = .ok (.iand, 1) := by decide +kernel
theorem dX11_oversleep_36 : decode cX11_oversleep 36 = .ok (.istore_n 3, 1) := by decide +kernel
theorem dX11_oversleep_37 : decode cX11_oversleep 37 = .ok (.aload_n 0, 1) := by decide +kernel
theorem dX11_oversleep_38 : decode cX11_oversleep 38 = .ok (.getfield 13, 3) := by decide +kernel
theorem dX11_oversleep_41 : decode cX11_oversleep 41 = .ok (.bipush 17, 2) := by decide +kernel
theorem dX11_oversleep_43 : decode cX11_oversleep 43 = .ok (.aload_n 0, 1) := by decide +kernel
theorem dX11_oversleep_44 : decode cX11_oversleep 44 = .ok (.getfield 13, 3) := by decide +kernel
theorem dX11_oversleep_47 : decode cX11_oversleep 47 = .ok (.bipush 17, 2) := by decide +kernel
theorem dX11_oversleep_49 : decode cX11_oversleep 49 = .ok (.iaload, 1) := by decide +kernel
theorem dX11_oversleep_50 : decode cX11_oversleep 50 = .ok (.iconst 1, 1) := by decide +kernel
theorem dX11_oversleep_51 : decode cX11_oversleep 51 = .ok (.iload_n 1, 1) := by decide +kernel
theorem dX11_oversleep_52 : decode cX11_oversleep 52 = .ok (.ishl, 1) := by decide +kernel
theorem dX11_oversleep_53 : decode cX11_oversleep 53 = .ok (.iconst (-1), 1) := by decide +kernel
theorem dX11_oversleep_54 : decode cX11_oversleep 54 = .ok (.ixor, 1) := by decide +kernel
theorem dX11_oversleep_55 : decode cX11_oversleep 55 = .ok (.iand, 1) := by decide +kernel
theorem dX11_oversleep_56 : decode cX11_oversleep 56 = .ok (.iload_n 2, 1) := by decide +kernel
theorem dX11_oversleep_57 : decode cX11_oversleep 57 = .ok (.iload_n 1, 1) := by decide +kernel
theorem dX11_oversleep_58 : decode cX11_oversleep 58 = .ok (.ishl, 1) := by decide +kernel
theorem dX11_oversleep_59 : decode cX11_oversleep 59 = .ok (.ior, 1) := by decide +kernel
