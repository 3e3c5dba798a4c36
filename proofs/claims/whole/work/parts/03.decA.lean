theorem dX0_init_0 : decode cX0_init 0 = .ok (.aload_n 0, 1) := by decide +kernel
theorem dX0_init_1 : decode cX0_init 1 = .ok (.invokespecial 3, 3) := by decide +kernel
theorem dX0_init_4 : decode cX0_init 4 = .ok (.aload_n 0, 1) := by decide +kernel
theorem dX0_init_5 : decode cX0_init 5 = .ok (.bipush 45, 2) := by decide +kernel
theorem dX0_init_7 : decode cX0_init 7 = .ok (.newarray .int, 2) := by decide +kernel
theorem dX0_init_9 : decode cX0_init 9 = .ok (.putfield 9, 3) := by decide +kernel
theorem dX0_init_12 : decode cX0_init 12 = .ok (.aload_n 0, 1) := by decide +kernel
theorem dX0_init_13 : decode cX0_init 13 = .ok (.iconst 5, 1) := by decide +kernel
theorem dX0_init_14 : decode cX0_init 14 = .ok (.newarray .int, 2) := by decide +kernel
theorem dX0_init_16 : decode cX0_init 16 = .ok (.putfield 15, 3) := by decide +kernel
theorem dX0_init_19 : decode cX0_init 19 = .ok (.aload_n 0, 1) := by decide +kernel
theorem dX0_init_20 : decode cX0_init 20 = .ok (.iconst 5, 1) := by decide +kernel
theorem dX0_init_21 : decode cX0_init 21 = .ok (.newarray .int, 2) := by decide +kernel
theorem dX0_init_23 : decode cX0_init 23 = .ok (.putfield 18, 3) := by decide +kernel
theorem dX0_init_26 : decode cX0_init 26 = .ok (.return_, 1) := by decide +kernel
theorem dX0_isRowOfAll_0 : decode cX0_isRowOfAll 0 = .ok (.iload_n 1, 1) := by decide +kernel
theorem dX0_isRowOfAll_1 : decode cX0_isRowOfAll 1 = .ok (.ifCond .ge 5, 3) := by decide +kernel
theorem dX0_isRowOfAll_4 : decode cX0_isRowOfAll 4 = .ok (.iconst 0, 1) := by decide +kernel
theorem dX0_isRowOfAll_5 : decode cX0_isRowOfAll 5 = .ok (.ireturn, 1) := by decide +kernel
theorem dX0_isRowOfAll_6 : decode cX0_isRowOfAll 6 = .ok (.iload_n 1, 1) := by decide +kernel
theorem dX0_isRowOfAll_7 : decode cX0_isRowOfAll 7 = .ok (.istore_n 3, 1) := by decide +kernel
theorem dX0_isRowOfAll_8 : decode cX0_isRowOfAll 8 = .ok (.iconst 0, 1) := by decide +kernel
theorem dX0_isRowOfAll_9 : decode cX0_isRowOfAll 9 = .ok (.istore 4, 2) := by decide +kernel
theorem dX0_isRowOfAll_11 : decode cX0_isRowOfAll 11 = .ok (.iload_n 2, 1) := by decide +kernel
theorem dX0_isRowOfAll_12 : decode cX0_isRowOfAll 12 = .ok (.iconst 1, 1) := by decide +kernel
theorem dX0_isRowOfAll_13 : decode cX0_isRowOfAll 13 = .ok (.isub, 1) := by decide +kernel
theorem dX0_isRowOfAll_14 : decode cX0_isRowOfAll 14 = .ok (.istore 5, 2) := by decide +kernel
theorem dX0_isRowOfAll_16 : decode cX0_isRowOfAll 16 = .ok (.iload 5, 2) := by decide +kernel
theorem dX0_isRowOfAll_18 : decode cX0_isRowOfAll 18 = .ok (.ifCond .lt 39, 3) := by decide +kernel
theorem dX0_isRowOfAll_21 : decode cX0_isRowOfAll 21 = .ok (.aload_n 0, 1) := by decide +kernel
theorem dX0_isRowOfAll_22 : decode cX0_isRowOfAll 22 = .ok (.getfield 15, 3) := by decide +kernel
theorem dX0_isRowOfAll_25 : decode cX0_isRowOfAll 25 = .ok (.iload 5, 2) := by decide +kernel
theorem dX0_isRowOfAll_27 : decode cX0_isRowOfAll 27 = .ok (.iload_n 3, 1) := by decide +kernel
theorem dX0_isRowOfAll_28 : decode cX0_isRowOfAll 28 = .ok (.bipush 10, 2) := by decide +kernel
theorem dX0_isRowOfAll_30 : decode cX0_isRowOfAll 30 = .ok (.irem, 1) := by decide +kernel
theorem dX0_isRowOfAll_31 : decode cX0_isRowOfAll 31 = .ok (.iastore, 1) := by decide +kernel
theorem dX0_isRowOfAll_32 : decode cX0_isRowOfAll 32 = .ok (.iload 4, 2) := by decide +kernel
theorem dX0_isRowOfAll_34 : decode cX0_isRowOfAll 34 = .ok (.iconst 1, 1) := by decide +kernel
theorem dX0_isRowOfAll_35 : decode cX0_isRowOfAll 35 = .ok (.aload_n 0, 1) := by decide +kernel
theorem dX0_isRowOfAll_36 : decode cX0_isRowOfAll 36 = .ok (.getfield 15, 3) := by decide +kernel
theorem dX0_isRowOfAll_39 : decode cX0_isRowOfAll 39 = .ok (.iload 5, 2) := by decide +kernel
theorem dX0_isRowOfAll_41 : decode cX0_isRowOfAll 41 = .ok (.iaload, 1) := by decide +kernel
theorem dX0_isRowOfAll_42 : decode cX0_isRowOfAll 42 = .ok (.ishl, 1) := by decide +kernel
theorem dX0_isRowOfAll_43 : decode cX0_isRowOfAll 43 = .ok (.ior, 1) := by decide +kernel
theorem dX0_isRowOfAll_44 : decode cX0_isRowOfAll 44 = .ok (.istore 4, 2) := by decide +kernel
theorem dX0_isRowOfAll_46 : decode cX0_isRowOfAll 46 = .ok (.iload_n 3, 1) := by decide +kernel
theorem dX0_isRowOfAll_47 : decode cX0_isRowOfAll 47 = .ok (.bipush 10, 2) := by decide +kernel
theorem dX0_isRowOfAll_49 : decode cX0_isRowOfAll 49 = .ok (.idiv, 1) := by decide +kernel
theorem dX0_isRowOfAll_50 : decode cX0_isRowOfAll 50 = .ok (.istore_n 3, 1) := by decide +kernel
theorem dX0_isRowOfAll_51 : decode cX0_isRowOfAll 51 = .ok (.iinc 5 (-1), 3) := by decide +kernel
theorem dX0_isRowOfAll_54 : decode cX0_isRowOfAll 54 = .ok (.goto (-38), 3) := by decide +kernel
theorem dX0_isRowOfAll_57 : decode cX0_isRowOfAll 57 = .ok (.iload_n 3, 1) := by decide +kernel
theorem dX0_isRowOfAll_58 : decode cX0_isRowOfAll 58 = .ok (.ifCond .ne 17, 3) := by decide +kernel
theorem dX0_isRowOfAll_61 : decode cX0_isRowOfAll 61 = .ok (.iload 4, 2) := by decide +kernel
theorem dX0_isRowOfAll_63 : decode cX0_isRowOfAll 63 = .ok (.iconst 1, 1) := by decide +kernel
theorem dX0_isRowOfAll_64 : decode cX0_isRowOfAll 64 = .ok (.iload_n 2, 1) := by decide +kernel
theorem dX0_isRowOfAll_65 : decode cX0_isRowOfAll 65 = .ok (.ishl, 1) := by decide +kernel
theorem dX0_isRowOfAll_66 : decode cX0_isRowOfAll 66 = .ok (.iconst 1, 1) := by decide +kernel
theorem dX0_isRowOfAll_67 : decode cX0_isRowOfAll 67 = .ok (.isub, 1) := by decide +kernel
theorem dX0_isRowOfAll_68 : decode cX0_isRowOfAll 68 = .ok (.if_icmp .ne 7, 3) := by decide +kernel
theorem dX0_isRowOfAll_71 : decode cX0_isRowOfAll 71 = .ok (.iconst 1, 1) := by decide +kernel
theorem dX0_isRowOfAll_72 : decode cX0_isRowOfAll 72 = .ok (.goto 4, 3) := by decide +kernel
theorem dX0_isRowOfAll_75 : decode cX0_isRowOfAll 75 = .ok (.iconst 0, 1) := by decide +kernel
theorem dX0_isRowOfAll_76 : decode cX0_isRowOfAll 76 = .ok (.ireturn, 1) := by decide +kernel
theorem dX0_add_0 : decode cX0_add 0 = .ok (.aload_n 0, 1) := by decide +kernel
theorem dX0_add_1 : decode cX0_add 1 = .ok (.getfield 21, 3) := by decide +kernel
theorem dX0_add_4 : decode cX0_add 4 = .ok (.bipush 9, 2) := by decide +kernel
theorem dX0_add_6 : decode cX0_add 6 = .ok (.if_icmp .lt 5, 3) := by decide +kernel
theorem dX0_add_9 : decode cX0_add 9 = .ok (.iconst 0, 1) := by decide +kernel
theorem dX0_add_10 : decode cX0_add 10 = .ok (.ireturn, 1) := by decide +kernel
theorem dX0_add_11 : decode cX0_add 11 = .ok (.aload_n 0, 1) := by decide +kernel
theorem dX0_add_12 : decode cX0_add 12 = .ok (.getfield 15, 3) := by decide +kernel
theorem dX0_add_15 : decode cX0_add 15 = .ok (.iconst 0, 1) := by decide +kernel
theorem dX0_add_16 : decode cX0_add 16 = .ok (.aload_n 0, 1) := by decide +kernel
theorem dX0_add_17 : decode cX0_add 17 = .ok (.getfield 9, 3) := by decide +kernel
theorem dX0_add_20 : decode cX0_add 20 = .ok (.aload_n 0, 1) := by decide +kernel
theorem dX0_add_21 : decode cX0_add 21 = .ok (.getfield 21, 3) := by decide +kernel
theorem dX0_add_24 : decode cX0_add 24 = .ok (.iconst 5, 1) := by decide +kernel
theorem dX0_add_25 : decode cX0_add 25 = .ok (.imul, 1) := by decide +kernel
theorem dX0_add_26 : decode cX0_add 26 = .ok (.iload_n 1, 1) := by decide +kernel
theorem dX0_add_27 : decode cX0_add 27 = .ok (.invokestatic 25, 3) := by decide +kernel
theorem dX0_add_30 : decode cX0_add 30 = .ok (.aload_n 0, 1) := by decide +kernel
theorem dX0_add_31 : decode cX0_add 31 = .ok (.dup, 1) := by decide +kernel
theorem dX0_add_32 : decode cX0_add 32 = .ok (.getfield 21, 3) := by decide +kernel
theorem dX0_add_35 : decode cX0_add 35 = .ok (.iconst 1, 1) := by decide +kernel
theorem dX0_add_36 : decode cX0_add 36 = .ok (.iadd, 1) := by decide +kernel
theorem dX0_add_37 : decode cX0_add 37 = .ok (.putfield 21, 3) := by decide +kernel
theorem dX0_add_40 : decode cX0_add 40 = .ok (.iconst 1, 1) := by decide +kernel
theorem dX0_add_41 : decode cX0_add 41 = .ok (.ireturn, 1) := by decide +kernel
theorem dX0_standing_0 : decode cX0_standing 0 = .ok (.aload_n 0, 1) := by decide +kernel
theorem dX0_standing_1 : decode cX0_standing 1 = .ok (.getfield 9, 3) := by decide +kernel
theorem dX0_standing_4 : decode cX0_standing 4 = .ok (.iload_n 1, 1) := by decide +kernel
theorem dX0_standing_5 : decode cX0_standing 5 = .ok (.iconst 5, 1) := by decide +kernel
theorem dX0_standing_6 : decode cX0_standing 6 = .ok (.imul, 1) := by decide +kernel
theorem dX0_standing_7 : decode cX0_standing 7 = .ok (.iload_n 2, 1) := by decide +kernel
theorem dX0_standing_8 : decode cX0_standing 8 = .ok (.iadd, 1) := by decide +kernel
theorem dX0_standing_9 : decode cX0_standing 9 = .ok (.iaload, 1) := by decide +kernel
theorem dX0_standing_10 : decode cX0_standing 10 = .ok (.ireturn, 1) := by decide +kernel
set_option maxRecDepth 20000 in
theorem ggX0_countFirsts_J7_fill_53178 : GoodIn wsX0_countFirsts wsJ7_fill_53178 := goodIn_r _ [6] (by decide +kernel) (by decide +kernel)
set_option maxRecDepth 20000 in
theorem gX0_countFirsts_J7_fill_53178 : GoodIn wsX0_countFirsts (va_wsS RX0 31 yJ7_fill_53178 wsJ7_fill_53178) := goodIn_app (goodIn_of _ (by decide +kernel)) ggX0_countFirsts_J7_fill_53178
set_option maxRecDepth 20000 in
theorem ggX0_countFirsts_X0_standing : GoodIn wsX0_countFirsts wsX0_standing := goodIn_r _ [11, 12, 13, 14, 15, 16] (by decide +kernel) (by decide +kernel)
set_option maxRecDepth 20000 in
theorem gX0_countFirsts_X0_standing : GoodIn wsX0_countFirsts (wsV RX0 37 RX0 yX0_standing wsX0_standing) := goodIn_app (goodIn_of _ (by decide +kernel)) ggX0_countFirsts_X0_standing
theorem dX0_countFirsts_0 : decode cX0_countFirsts 0 = .ok (.aload_n 0, 1) := by decide +kernel
theorem dX0_countFirsts_1 : decode cX0_countFirsts 1 = .ok (.getfield 18, 3) := by decide +kernel
theorem dX0_countFirsts_4 : decode cX0_countFirsts 4 = .ok (.iconst 0, 1) := by decide +kernel
theorem dX0_countFirsts_5 : decode cX0_countFirsts 5 = .ok (.invokestatic 31, 3) := by decide +kernel
theorem dX0_countFirsts_8 : decode cX0_countFirsts 8 = .ok (.iconst 0, 1) := by decide +kernel
theorem dX0_countFirsts_9 : decode cX0_countFirsts 9 = .ok (.istore_n 1, 1) := by decide +kernel
theorem dX0_countFirsts_10 : decode cX0_countFirsts 10 = .ok (.iload_n 1, 1) := by decide +kernel
theorem dX0_countFirsts_11 : decode cX0_countFirsts 11 = .ok (.aload_n 0, 1) := by decide +kernel
theorem dX0_countFirsts_12 : decode cX0_countFirsts 12 = .ok (.getfield 21, 3) := by decide +kernel
theorem dX0_countFirsts_15 : decode cX0_countFirsts 15 = .ok (.if_icmp .ge 24, 3) := by decide +kernel
theorem dX0_countFirsts_18 : decode cX0_countFirsts 18 = .ok (.aload_n 0, 1) := by decide +kernel
theorem dX0_countFirsts_19 : decode cX0_countFirsts 19 = .ok (.getfield 18, 3) := by decide +kernel
theorem dX0_countFirsts_22 : decode cX0_countFirsts 22 = .ok (.aload_n 0, 1) := by decide +kernel
theorem dX0_countFirsts_23 : decode cX0_countFirsts 23 = .ok (.iload_n 1, 1) := by decide +kernel
theorem dX0_countFirsts_24 : decode cX0_countFirsts 24 = .ok (.iconst 0, 1) := by decide +kernel
theorem dX0_countFirsts_25 : decode cX0_countFirsts 25 = .ok (.invokevirtual 37, 3) := by decide +kernel
theorem dX0_countFirsts_28 : decode cX0_countFirsts 28 = .ok (.dup2, 1) := by decide +kernel
theorem dX0_countFirsts_29 : decode cX0_countFirsts 29 = .ok (.iaload, 1) := by decide +kernel
theorem dX0_countFirsts_30 : decode cX0_countFirsts 30 = .ok (.iconst 1, 1) := by decide +kernel
theorem dX0_countFirsts_31 : decode cX0_countFirsts 31 = .ok (.iadd, 1) := by decide +kernel
theorem dX0_countFirsts_32 : decode cX0_countFirsts 32 = .ok (.iastore, 1) := by decide +kernel
theorem dX0_countFirsts_33 : decode cX0_countFirsts 33 = .ok (.iinc 1 1, 3) := by decide +kernel
theorem dX0_countFirsts_36 : decode cX0_countFirsts 36 = .ok (.goto (-26), 3) := by decide +kernel
theorem dX0_countFirsts_39 : decode cX0_countFirsts 39 = .ok (.return_, 1) := by decide +kernel
theorem dX0_leastOfMost_0 : decode cX0_leastOfMost 0 = .ok (.iconst 0, 1) := by decide +kernel
theorem dX0_leastOfMost_1 : decode cX0_leastOfMost 1 = .ok (.istore_n 2, 1) := by decide +kernel
theorem dX0_leastOfMost_2 : decode cX0_leastOfMost 2 = .ok (.iconst 1, 1) := by decide +kernel
theorem dX0_leastOfMost_3 : decode cX0_leastOfMost 3 = .ok (.istore_n 3, 1) := by decide +kernel
theorem dX0_leastOfMost_4 : decode cX0_leastOfMost 4 = .ok (.iload_n 3, 1) := by decide +kernel
theorem dX0_leastOfMost_5 : decode cX0_leastOfMost 5 = .ok (.iload_n 1, 1) := by decide +kernel
theorem dX0_leastOfMost_6 : decode cX0_leastOfMost 6 = .ok (.if_icmp .ge 26, 3) := by decide +kernel
theorem dX0_leastOfMost_9 : decode cX0_leastOfMost 9 = .ok (.aload_n 0, 1) := by decide +kernel
theorem dX0_leastOfMost_10 : decode cX0_leastOfMost 10 = .ok (.getfield 18, 3) := by decide +kernel
theorem dX0_leastOfMost_13 : decode cX0_leastOfMost 13 = .ok (.iload_n 3, 1) := by decide +kernel
theorem dX0_leastOfMost_14 : decode cX0_leastOfMost 14 = .ok (.iaload, 1) := by decide +kernel
theorem dX0_leastOfMost_15 : decode cX0_leastOfMost 15 = .ok (.aload_n 0, 1) := by decide +kernel
theorem dX0_leastOfMost_16 : decode cX0_leastOfMost 16 = .ok (.getfield 18, 3) := by decide +kernel
theorem dX0_leastOfMost_19 : decode cX0_leastOfMost 19 = .ok (.iload_n 2, 1) := by decide +kernel
theorem dX0_leastOfMost_20 : decode cX0_leastOfMost 20 = .ok (.iaload, 1) := by decide +kernel
theorem dX0_leastOfMost_21 : decode cX0_leastOfMost 21 = .ok (.if_icmp .le 5, 3) := by decide +kernel
theorem dX0_leastOfMost_24 : decode cX0_leastOfMost 24 = .ok (.iload_n 3, 1) := by decide +kernel
theorem dX0_leastOfMost_25 : decode cX0_leastOfMost 25 = .ok (.istore_n 2, 1) := by decide +kernel
theorem dX0_leastOfMost_26 : decode cX0_leastOfMost 26 = .ok (.iinc 3 1, 3) := by decide +kernel
theorem dX0_leastOfMost_29 : decode cX0_leastOfMost 29 = .ok (.goto (-25), 3) := by decide +kernel
theorem dX0_leastOfMost_32 : decode cX0_leastOfMost 32 = .ok (.iload_n 2, 1) := by decide +kernel
theorem dX0_leastOfMost_33 : decode cX0_leastOfMost 33 = .ok (.ireturn, 1) := by decide +kernel
set_option maxRecDepth 20000 in
theorem ggX0_mayorByFirsts_X0_countFirsts : GoodIn wsX0_mayorByFirsts wsX0_countFirsts := goodIn_r _ [5, 6, 7, 8, 9, 10, 11, 12, 13, 14, 4, 15, 16, 21, 22, 23, 24] (by decide +kernel) (by decide +kernel)
set_option maxRecDepth 20000 in
theorem gX0_mayorByFirsts_X0_countFirsts : GoodIn wsX0_mayorByFirsts (wsV RX0 41 RX0 yX0_countFirsts wsX0_countFirsts) := goodIn_app (goodIn_of _ (by decide +kernel)) ggX0_mayorByFirsts_X0_countFirsts
set_option maxRecDepth 20000 in
theorem ggX0_mayorByFirsts_X0_leastOfMost : GoodIn wsX0_mayorByFirsts wsX0_leastOfMost := goodIn_r _ [20, 6, 21, 22, 23, 24] (by decide +kernel) (by decide +kernel)
set_option maxRecDepth 20000 in
theorem gX0_mayorByFirsts_X0_leastOfMost : GoodIn wsX0_mayorByFirsts (wsV RX0 44 RX0 yX0_leastOfMost wsX0_leastOfMost) := goodIn_app (goodIn_of _ (by decide +kernel)) ggX0_mayorByFirsts_X0_leastOfMost
theorem dX0_mayorByFirsts_0 : decode cX0_mayorByFirsts 0 = .ok (.aload_n 0, 1) := by decide +kernel
theorem dX0_mayorByFirsts_1 : decode cX0_mayorByFirsts 1 = .ok (.invokevirtual 41, 3) := by decide +kernel
theorem dX0_mayorByFirsts_4 : decode cX0_mayorByFirsts 4 = .ok (.aload_n 0, 1) := by decide +kernel
theorem dX0_mayorByFirsts_5 : decode cX0_mayorByFirsts 5 = .ok (.iload_n 1, 1) := by decide +kernel
theorem dX0_mayorByFirsts_6 : decode cX0_mayorByFirsts 6 = .ok (.invokevirtual 44, 3) := by decide +kernel
theorem dX0_mayorByFirsts_9 : decode cX0_mayorByFirsts 9 = .ok (.ireturn, 1) := by decide +kernel
set_option maxRecDepth 20000 in
theorem ggX0_mayorByPoints_X0_pointsOf : GoodIn wsX0_mayorByPoints wsX0_pointsOf := goodIn_r _ [6, 7, 8, 9, 10, 5, 11, 12, 17, 18, 19, 20] (by decide +kernel) (by decide +kernel)
set_option maxRecDepth 20000 in
theorem gX0_mayorByPoints_X0_pointsOf : GoodIn wsX0_mayorByPoints (wsV RX0 48 RX0 yX0_pointsOf wsX0_pointsOf) := goodIn_app (goodIn_of _ (by decide +kernel)) ggX0_mayorByPoints_X0_pointsOf
set_option maxRecDepth 20000 in
theorem ggX0_mayorByPoints_X0_leastOfMost : GoodIn wsX0_mayorByPoints wsX0_leastOfMost := goodIn_r _ [16, 1, 17, 18, 19, 20] (by decide +kernel) (by decide +kernel)
set_option maxRecDepth 20000 in
theorem gX0_mayorByPoints_X0_leastOfMost : GoodIn wsX0_mayorByPoints (wsV RX0 44 RX0 yX0_leastOfMost wsX0_leastOfMost) := goodIn_app (goodIn_of _ (by decide +kernel)) ggX0_mayorByPoints_X0_leastOfMost
theorem dX0_mayorByPoints_0 : decode cX0_mayorByPoints 0 = .ok (.iconst 0, 1) := by decide +kernel
theorem dX0_mayorByPoints_1 : decode cX0_mayorByPoints 1 = .ok (.istore_n 2, 1) := by decide +kernel
theorem dX0_mayorByPoints_2 : decode cX0_mayorByPoints 2 = .ok (.iload_n 2, 1) := by decide +kernel
theorem dX0_mayorByPoints_3 : decode cX0_mayorByPoints 3 = .ok (.iload_n 1, 1) := by decide +kernel
theorem dX0_mayorByPoints_4 : decode cX0_mayorByPoints 4 = .ok (.if_icmp .ge 21, 3) := by decide +kernel
theorem dX0_mayorByPoints_7 : decode cX0_mayorByPoints 7 = .ok (.aload_n 0, 1) := by decide +kernel
theorem dX0_mayorByPoints_8 : decode cX0_mayorByPoints 8 = .ok (.getfield 18, 3) := by decide +kernel
theorem dX0_mayorByPoints_11 : decode cX0_mayorByPoints 11 = .ok (.iload_n 2, 1) := by decide +kernel
theorem dX0_mayorByPoints_12 : decode cX0_mayorByPoints 12 = .ok (.aload_n 0, 1) := by decide +kernel
theorem dX0_mayorByPoints_13 : decode cX0_mayorByPoints 13 = .ok (.iload_n 2, 1) := by decide +kernel
theorem dX0_mayorByPoints_14 : decode cX0_mayorByPoints 14 = .ok (.iload_n 1, 1) := by decide +kernel
theorem dX0_mayorByPoints_15 : decode cX0_mayorByPoints 15 = .ok (.invokevirtual 48, 3) := by decide +kernel
theorem dX0_mayorByPoints_18 : decode cX0_mayorByPoints 18 = .ok (.iastore, 1) := by decide +kernel
theorem dX0_mayorByPoints_19 : decode cX0_mayorByPoints 19 = .ok (.iinc 2 1, 3) := by decide +kernel
theorem dX0_mayorByPoints_22 : decode cX0_mayorByPoints 22 = .ok (.goto (-20), 3) := by decide +kernel
theorem dX0_mayorByPoints_25 : decode cX0_mayorByPoints 25 = .ok (.aload_n 0, 1) := by decide +kernel
theorem dX0_mayorByPoints_26 : decode cX0_mayorByPoints 26 = .ok (.iload_n 1, 1) := by decide +kernel
theorem dX0_mayorByPoints_27 : decode cX0_mayorByPoints 27 = .ok (.invokevirtual 44, 3) := by decide +kernel
theorem dX0_mayorByPoints_30 : decode cX0_mayorByPoints 30 = .ok (.ireturn, 1) := by decide +kernel
set_option maxRecDepth 20000 in
theorem ggX0_pointsOf_X0_standing : GoodIn wsX0_pointsOf wsX0_standing := goodIn_r _ [6, 7, 8, 9, 10, 11] (by decide +kernel) (by decide +kernel)
set_option maxRecDepth 20000 in
theorem gX0_pointsOf_X0_standing : GoodIn wsX0_pointsOf (wsV RX0 37 RX0 yX0_standing wsX0_standing) := goodIn_app (goodIn_of _ (by decide +kernel)) ggX0_pointsOf_X0_standing
theorem dX0_pointsOf_0 : decode cX0_pointsOf 0 = .ok (.iconst 0, 1) := by decide +kernel
theorem dX0_pointsOf_1 : decode cX0_pointsOf 1 = .ok (.istore_n 3, 1) := by decide +kernel
theorem dX0_pointsOf_2 : decode cX0_pointsOf 2 = .ok (.iconst 0, 1) := by decide +kernel
theorem dX0_pointsOf_3 : decode cX0_pointsOf 3 = .ok (.istore 4, 2) := by decide +kernel
theorem dX0_pointsOf_5 : decode cX0_pointsOf 5 = .ok (.iload 4, 2) := by decide +kernel
theorem dX0_pointsOf_7 : decode cX0_pointsOf 7 = .ok (.aload_n 0, 1) := by decide +kernel
theorem dX0_pointsOf_8 : decode cX0_pointsOf 8 = .ok (.getfield 21, 3) := by decide +kernel
theorem dX0_pointsOf_11 : decode cX0_pointsOf 11 = .ok (.if_icmp .ge 49, 3) := by decide +kernel
theorem dX0_pointsOf_14 : decode cX0_pointsOf 14 = .ok (.iconst 0, 1) := by decide +kernel
theorem dX0_pointsOf_15 : decode cX0_pointsOf 15 = .ok (.istore 5, 2) := by decide +kernel
theorem dX0_pointsOf_17 : decode cX0_pointsOf 17 = .ok (.iload 5, 2) := by decide +kernel
theorem dX0_pointsOf_19 : decode cX0_pointsOf 19 = .ok (.iload_n 2, 1) := by decide +kernel
theorem dX0_pointsOf_20 : decode cX0_pointsOf 20 = .ok (.if_icmp .ge 34, 3) := by decide +kernel
theorem dX0_pointsOf_23 : decode cX0_pointsOf 23 = .ok (.iload_n 3, 1) := by decide +kernel
theorem dX0_pointsOf_24 : decode cX0_pointsOf 24 = .ok (.aload_n 0, 1) := by decide +kernel
theorem dX0_pointsOf_25 : decode cX0_pointsOf 25 = .ok (.iload 4, 2) := by decide +kernel
theorem dX0_pointsOf_27 : decode cX0_pointsOf 27 = .ok (.iload 5, 2) := by decide +kernel
theorem dX0_pointsOf_29 : decode cX0_pointsOf 29 = .ok (.invokevirtual 37, 3) := by decide +kernel
theorem dX0_pointsOf_32 : decode cX0_pointsOf 32 = .ok (.iload_n 1, 1) := by decide +kernel
theorem dX0_pointsOf_33 : decode cX0_pointsOf 33 = .ok (.if_icmp .ne 12, 3) := by decide +kernel
theorem dX0_pointsOf_36 : decode cX0_pointsOf 36 = .ok (.iload_n 2, 1) := by decide +kernel
theorem dX0_pointsOf_37 : decode cX0_pointsOf 37 = .ok (.iconst 1, 1) := by decide +kernel
theorem dX0_pointsOf_38 : decode cX0_pointsOf 38 = .ok (.isub, 1) := by decide +kernel
theorem dX0_pointsOf_39 : decode cX0_pointsOf 39 = .ok (.iload 5, 2) := by decide +kernel
theorem dX0_pointsOf_41 : decode cX0_pointsOf 41 = .ok (.isub, 1) := by decide +kernel
theorem dX0_pointsOf_42 : decode cX0_pointsOf 42 = .ok (.goto 4, 3) := by decide +kernel
theorem dX0_pointsOf_45 : decode cX0_pointsOf 45 = .ok (.iconst 0, 1) := by decide +kernel
theorem dX0_pointsOf_46 : decode cX0_pointsOf 46 = .ok (.iadd, 1) := by decide +kernel
theorem dX0_pointsOf_47 : decode cX0_pointsOf 47 = .ok (.istore_n 3, 1) := by decide +kernel
theorem dX0_pointsOf_48 : decode cX0_pointsOf 48 = .ok (.iinc 5 1, 3) := by decide +kernel
theorem dX0_pointsOf_51 : decode cX0_pointsOf 51 = .ok (.goto (-34), 3) := by decide +kernel
theorem dX0_pointsOf_54 : decode cX0_pointsOf 54 = .ok (.iinc 4 1, 3) := by decide +kernel
theorem dX0_pointsOf_57 : decode cX0_pointsOf 57 = .ok (.goto (-52), 3) := by decide +kernel
theorem dX0_pointsOf_60 : decode cX0_pointsOf 60 = .ok (.iload_n 3, 1) := by decide +kernel
theorem dX0_pointsOf_61 : decode cX0_pointsOf 61 = .ok (.ireturn, 1) := by decide +kernel
set_option maxRecDepth 20000 in
theorem ggX0_swingBits_X0_mayorByFirsts : GoodIn wsX0_swingBits wsX0_mayorByFirsts := goodIn_r _ [6, 7, 8, 9, 5, 10, 11, 1, 12, 13, 14, 15, 16, 17, 18, 19, 20, 21, 22, 23, 24, 29, 30, 31, 32] (by decide +kernel) (by decide +kernel)
set_option maxRecDepth 20000 in
theorem gX0_swingBits_X0_mayorByFirsts : GoodIn wsX0_swingBits (wsV RX0 51 RX0 yX0_mayorByFirsts wsX0_mayorByFirsts) := goodIn_app (goodIn_of _ (by decide +kernel)) ggX0_swingBits_X0_mayorByFirsts
set_option maxRecDepth 20000 in
theorem ggX0_swingBits_X0_couldSwing : GoodIn wsX0_swingBits wsX0_couldSwing := goodIn_r _ [28, 11, 16, 17, 18, 5, 19, 20, 21, 22, 23, 24, 29, 30, 31, 32] (by decide +kernel) (by decide +kernel)
set_option maxRecDepth 20000 in
theorem gX0_swingBits_X0_couldSwing : GoodIn wsX0_swingBits (wsV RX0 54 RX0 yX0_couldSwing wsX0_couldSwing) := goodIn_app (goodIn_of _ (by decide +kernel)) ggX0_swingBits_X0_couldSwing
theorem dX0_swingBits_0 : decode cX0_swingBits 0 = .ok (.aload_n 0, 1) := by decide +kernel
theorem dX0_swingBits_1 : decode cX0_swingBits 1 = .ok (.iload_n 1, 1) := by decide +kernel
theorem dX0_swingBits_2 : decode cX0_swingBits 2 = .ok (.invokevirtual 51, 3) := by decide +kernel
theorem dX0_swingBits_5 : decode cX0_swingBits 5 = .ok (.istore_n 2, 1) := by decide +kernel
theorem dX0_swingBits_6 : decode cX0_swingBits 6 = .ok (.iconst 0, 1) := by decide +kernel
theorem dX0_swingBits_7 : decode cX0_swingBits 7 = .ok (.istore_n 3, 1) := by decide +kernel
theorem dX0_swingBits_8 : decode cX0_swingBits 8 = .ok (.iconst 0, 1) := by decide +kernel
theorem dX0_swingBits_9 : decode cX0_swingBits 9 = .ok (.istore 4, 2) := by decide +kernel
theorem dX0_swingBits_11 : decode cX0_swingBits 11 = .ok (.iload 4, 2) := by decide +kernel
theorem dX0_swingBits_13 : decode cX0_swingBits 13 = .ok (.aload_n 0, 1) := by decide +kernel
theorem dX0_swingBits_14 : decode cX0_swingBits 14 = .ok (.getfield 21, 3) := by decide +kernel
theorem dX0_swingBits_17 : decode cX0_swingBits 17 = .ok (.if_icmp .ge 27, 3) := by decide +kernel
theorem dX0_swingBits_20 : decode cX0_swingBits 20 = .ok (.aload_n 0, 1) := by decide +kernel
theorem dX0_swingBits_21 : decode cX0_swingBits 21 = .ok (.iload 4, 2) := by decide +kernel
theorem dX0_swingBits_23 : decode cX0_swingBits 23 = .ok (.iload_n 2, 1) := by decide +kernel
theorem dX0_swingBits_24 : decode cX0_swingBits 24 = .ok (.iload_n 1, 1) := by decide +kernel
theorem dX0_swingBits_25 : decode cX0_swingBits 25 = .ok (.invokevirtual 54, 3) := by decide +kernel
theorem dX0_swingBits_28 : decode cX0_swingBits 28 = .ok (.ifCond .eq 10, 3) := by decide +kernel
theorem dX0_swingBits_31 : decode cX0_swingBits 31 = .ok (.iload_n 3, 1) := by decide +kernel
theorem dX0_swingBits_32 : decode cX0_swingBits 32 = .ok (.iconst 1, 1) := by decide +kernel
theorem dX0_swingBits_33 : decode cX0_swingBits 33 = .ok (.iload 4, 2) := by decide +kernel
theorem dX0_swingBits_35 : decode cX0_swingBits 35 = .ok (.ishl, 1) := by decide +kernel
theorem dX0_swingBits_36 : decode cX0_swingBits 36 = .ok (.ior, 1) := by decide +kernel
theorem dX0_swingBits_37 : decode cX0_swingBits 37 = .ok (.istore_n 3, 1) := by decide +kernel
theorem dX0_swingBits_38 : decode cX0_swingBits 38 = .ok (.iinc 4 1, 3) := by decide +kernel
theorem dX0_swingBits_41 : decode cX0_swingBits 41 = .ok (.goto (-30), 3) := by decide +kernel
theorem dX0_swingBits_44 : decode cX0_swingBits 44 = .ok (.iload_n 3, 1) := by decide +kernel
theorem dX0_swingBits_45 : decode cX0_swingBits 45 = .ok (.ireturn, 1) := by decide +kernel
set_option maxRecDepth 20000 in
theorem ggX0_couldSwing_X0_standing : GoodIn wsX0_couldSwing wsX0_standing := goodIn_r _ [6, 7, 12, 13, 14, 15] (by decide +kernel) (by decide +kernel)
set_option maxRecDepth 20000 in
theorem gX0_couldSwing_X0_standing : GoodIn wsX0_couldSwing (wsV RX0 37 RX0 yX0_standing wsX0_standing) := goodIn_app (goodIn_of _ (by decide +kernel)) ggX0_couldSwing_X0_standing
set_option maxRecDepth 20000 in
theorem ggX0_couldSwing_X0_leastOfMost : GoodIn wsX0_couldSwing wsX0_leastOfMost := goodIn_r _ [11, 1, 12, 13, 14, 15] (by decide +kernel) (by decide +kernel)
set_option maxRecDepth 20000 in
theorem gX0_couldSwing_X0_leastOfMost : GoodIn wsX0_couldSwing (wsV RX0 44 RX0 yX0_leastOfMost wsX0_leastOfMost) := goodIn_app (goodIn_of _ (by decide +kernel)) ggX0_couldSwing_X0_leastOfMost
theorem dX0_couldSwing_0 : decode cX0_couldSwing 0 = .ok (.aload_n 0, 1) := by decide +kernel
theorem dX0_couldSwing_1 : decode cX0_couldSwing 1 = .ok (.iload_n 1, 1) := by decide +kernel
theorem dX0_couldSwing_2 : decode cX0_couldSwing 2 = .ok (.iconst 0, 1) := by decide +kernel
theorem dX0_couldSwing_3 : decode cX0_couldSwing 3 = .ok (.invokevirtual 37, 3) := by decide +kernel
theorem dX0_couldSwing_6 : decode cX0_couldSwing 6 = .ok (.istore 4, 2) := by decide +kernel
theorem dX0_couldSwing_8 : decode cX0_couldSwing 8 = .ok (.iconst 0, 1) := by decide +kernel
theorem dX0_couldSwing_9 : decode cX0_couldSwing 9 = .ok (.istore 5, 2) := by decide +kernel
theorem dX0_couldSwing_11 : decode cX0_couldSwing 11 = .ok (.iconst 0, 1) := by decide +kernel
theorem dX0_couldSwing_12 : decode cX0_couldSwing 12 = .ok (.istore 6, 2) := by decide +kernel
theorem dX0_couldSwing_14 : decode cX0_couldSwing 14 = .ok (.iload 6, 2) := by decide +kernel
theorem dX0_couldSwing_16 : decode cX0_couldSwing 16 = .ok (.iload_n 3, 1) := by decide +kernel
theorem dX0_couldSwing_17 : decode cX0_couldSwing 17 = .ok (.if_icmp .ge 93, 3) := by decide +kernel
theorem dX0_couldSwing_20 : decode cX0_couldSwing 20 = .ok (.aload_n 0, 1) := by decide +kernel
theorem dX0_couldSwing_21 : decode cX0_couldSwing 21 = .ok (.iload_n 1, 1) := by decide +kernel
theorem dX0_couldSwing_22 : decode cX0_couldSwing 22 = .ok (.iload 6, 2) := by decide +kernel
theorem dX0_couldSwing_24 : decode cX0_couldSwing 24 = .ok (.invokevirtual 37, 3) := by decide +kernel
theorem dX0_couldSwing_27 : decode cX0_couldSwing 27 = .ok (.iload_n 2, 1) := by decide +kernel
theorem dX0_couldSwing_28 : decode cX0_couldSwing 28 = .ok (.if_icmp .eq 82, 3) := by decide +kernel
theorem dX0_couldSwing_31 : decode cX0_couldSwing 31 = .ok (.aload_n 0, 1) := by decide +kernel
theorem dX0_couldSwing_32 : decode cX0_couldSwing 32 = .ok (.iload_n 1, 1) := by decide +kernel
theorem dX0_couldSwing_33 : decode cX0_couldSwing 33 = .ok (.iload 6, 2) := by decide +kernel
theorem dX0_couldSwing_35 : decode cX0_couldSwing 35 = .ok (.invokevirtual 37, 3) := by decide +kernel
theorem dX0_couldSwing_38 : decode cX0_couldSwing 38 = .ok (.istore 7, 2) := by decide +kernel
theorem dX0_couldSwing_40 : decode cX0_couldSwing 40 = .ok (.aload_n 0, 1) := by decide +kernel
theorem dX0_couldSwing_41 : decode cX0_couldSwing 41 = .ok (.getfield 18, 3) := by decide +kernel
theorem dX0_couldSwing_44 : decode cX0_couldSwing 44 = .ok (.iload 4, 2) := by decide +kernel
theorem dX0_couldSwing_46 : decode cX0_couldSwing 46 = .ok (.dup2, 1) := by decide +kernel
theorem dX0_couldSwing_47 : decode cX0_couldSwing 47 = .ok (.iaload, 1) := by decide +kernel
theorem dX0_couldSwing_48 : decode cX0_couldSwing 48 = .ok (.iconst 1, 1) := by decide +kernel
theorem dX0_couldSwing_49 : decode cX0_couldSwing 49 = .ok (.isub, 1) := by decide +kernel
theorem dX0_couldSwing_50 : decode cX0_couldSwing 50 = .ok (.iastore, 1) := by decide +kernel
theorem dX0_couldSwing_51 : decode cX0_couldSwing 51 = .ok (.aload_n 0, 1) := by decide +kernel
theorem dX0_couldSwing_52 : decode cX0_couldSwing 52 = .ok (.getfield 18, 3) := by decide +kernel
theorem dX0_couldSwing_55 : decode cX0_couldSwing 55 = .ok (.iload 7, 2) := by decide +kernel
theorem dX0_couldSwing_57 : decode cX0_couldSwing 57 = .ok (.dup2, 1) := by decide +kernel
theorem dX0_couldSwing_58 : decode cX0_couldSwing 58 = .ok (.iaload, 1) := by decide +kernel
theorem dX0_couldSwing_59 : decode cX0_couldSwing 59 = .ok (.iconst 1, 1) := by decide +kernel
theorem dX0_couldSwing_60 : decode cX0_couldSwing 60 = .ok (.iadd, 1) := by decide +kernel
theorem dX0_couldSwing_61 : decode cX0_couldSwing 61 = .ok (.iastore, 1) := by decide +kernel
theorem dX0_couldSwing_62 : decode cX0_couldSwing 62 = .ok (.iload 5, 2) := by decide +kernel
theorem dX0_couldSwing_64 : decode cX0_couldSwing 64 = .ok (.aload_n 0, 1) := by decide +kernel
theorem dX0_couldSwing_65 : decode cX0_couldSwing 65 = .ok (.iload_n 3, 1) := by decide +kernel
theorem dX0_couldSwing_66 : decode cX0_couldSwing 66 = .ok (.invokevirtual 44, 3) := by decide +kernel
theorem dX0_couldSwing_69 : decode cX0_couldSwing 69 = .ok (.iload 7, 2) := by decide +kernel
theorem dX0_couldSwing_71 : decode cX0_couldSwing 71 = .ok (.if_icmp .ne 7, 3) := by decide +kernel
theorem dX0_couldSwing_74 : decode cX0_couldSwing 74 = .ok (.iconst 1, 1) := by decide +kernel
theorem dX0_couldSwing_75 : decode cX0_couldSwing 75 = .ok (.goto 4, 3) := by decide +kernel
theorem dX0_couldSwing_78 : decode cX0_couldSwing 78 = .ok (.iconst 0, 1) := by decide +kernel
theorem dX0_couldSwing_79 : decode cX0_couldSwing 79 = .ok (.ior, 1) := by decide +kernel
theorem dX0_couldSwing_80 : decode cX0_couldSwing 80 = .ok (.istore 5, 2) := by decide +kernel
theorem dX0_couldSwing_82 : decode cX0_couldSwing 82 = .ok (.aload_n 0, 1) := by decide +kernel
theorem dX0_couldSwing_83 : decode cX0_couldSwing 83 = .ok (.getfield 18, 3) := by decide +kernel
theorem dX0_couldSwing_86 : decode cX0_couldSwing 86 = .ok (.iload 7, 2) := by decide +kernel
theorem dX0_couldSwing_88 : decode cX0_couldSwing 88 = .ok (.dup2, 1) := by decide +kernel
theorem dX0_couldSwing_89 : decode cX0_couldSwing 89 = .ok (.iaload, 1) := by decide +kernel
theorem dX0_couldSwing_90 : decode cX0_couldSwing 90 = .ok (.iconst 1, 1) := by decide +kernel
theorem dX0_couldSwing_91 : decode cX0_couldSwing 91 = .ok (.isub, 1) := by decide +kernel
theorem dX0_couldSwing_92 : decode cX0_couldSwing 92 = .ok (.iastore, 1) := by decide +kernel
theorem dX0_couldSwing_93 : decode cX0_couldSwing 93 = .ok (.aload_n 0, 1) := by decide +kernel
theorem dX0_couldSwing_94 : decode cX0_couldSwing 94 = .ok (.getfield 18, 3) := by decide +kernel
theorem dX0_couldSwing_97 : decode cX0_couldSwing 97 = .ok (.iload 4, 2) := by decide +kernel
theorem dX0_couldSwing_99 : decode cX0_couldSwing 99 = .ok (.dup2, 1) := by decide +kernel
theorem dX0_couldSwing_100 : decode cX0_couldSwing 100 = .ok (.iaload, 1) := by decide +kernel
theorem dX0_couldSwing_101 : decode cX0_couldSwing 101 = .ok (.iconst 1, 1) := by decide +kernel
theorem dX0_couldSwing_102 : decode cX0_couldSwing 102 = .ok (.iadd, 1) := by decide +kernel
theorem dX0_couldSwing_103 : decode cX0_couldSwing 103 = .ok (.iastore, 1) := by decide +kernel
theorem dX0_couldSwing_104 : decode cX0_couldSwing 104 = .ok (.iinc 6 1, 3) := by decide +kernel
theorem dX0_couldSwing_107 : decode cX0_couldSwing 107 = .ok (.goto (-93), 3) := by decide +kernel
theorem dX0_couldSwing_110 : decode cX0_couldSwing 110 = .ok (.iload 5, 2) := by decide +kernel
theorem dX0_couldSwing_112 : decode cX0_couldSwing 112 = .ok (.ireturn, 1) := by decide +kernel
theorem dX1_init_0 : decode cX1_init 0 = .ok (.aload_n 0, 1) := by decide +kernel
theorem dX1_init_1 : decode cX1_init 1 = .ok (.invokespecial 3, 3) := by decide +kernel
theorem dX1_init_4 : decode cX1_init 4 = .ok (.aload_n 0, 1) := by decide +kernel
theorem dX1_init_5 : decode cX1_init 5 = .ok (.bipush 6, 2) := by decide +kernel
theorem dX1_init_7 : decode cX1_init 7 = .ok (.newarray .int, 2) := by decide +kernel
theorem dX1_init_9 : decode cX1_init 9 = .ok (.putfield 9, 3) := by decide +kernel
theorem dX1_init_12 : decode cX1_init 12 = .ok (.aload_n 0, 1) := by decide +kernel
theorem dX1_init_13 : decode cX1_init 13 = .ok (.bipush 6, 2) := by decide +kernel
theorem dX1_init_15 : decode cX1_init 15 = .ok (.newarray .int, 2) := by decide +kernel
theorem dX1_init_17 : decode cX1_init 17 = .ok (.putfield 15, 3) := by decide +kernel
theorem dX1_init_20 : decode cX1_init 20 = .ok (.aload_n 0, 1) := by decide +kernel
theorem dX1_init_21 : decode cX1_init 21 = .ok (.bipush 6, 2) := by decide +kernel
theorem dX1_init_23 : decode cX1_init 23 = .ok (.newarray .int, 2) := by decide +kernel
theorem dX1_init_25 : decode cX1_init 25 = .ok (.putfield 18, 3) := by decide +kernel
theorem dX1_init_28 : decode cX1_init 28 = .ok (.aload_n 0, 1) := by decide +kernel
theorem dX1_init_29 : decode cX1_init 29 = .ok (.iconst 4, 1) := by decide +kernel
theorem dX1_init_30 : decode cX1_init 30 = .ok (.newarray .long, 2) := by decide +kernel
theorem dX1_init_32 : decode cX1_init 32 = .ok (.putfield 21, 3) := by decide +kernel
theorem dX1_init_35 : decode cX1_init 35 = .ok (.aload_n 0, 1) := by decide +kernel
theorem dX1_init_36 : decode cX1_init 36 = .ok (.iconst 4, 1) := by decide +kernel
theorem dX1_init_37 : decode cX1_init 37 = .ok (.newarray .long, 2) := by decide +kernel
theorem dX1_init_39 : decode cX1_init 39 = .ok (.putfield 25, 3) := by decide +kernel
theorem dX1_init_42 : decode cX1_init 42 = .ok (.aload_n 0, 1) := by decide +kernel
theorem dX1_init_43 : decode cX1_init 43 = .ok (.iconst 4, 1) := by decide +kernel
theorem dX1_init_44 : decode cX1_init 44 = .ok (.newarray .long, 2) := by decide +kernel
theorem dX1_init_46 : decode cX1_init 46 = .ok (.putfield 28, 3) := by decide +kernel
theorem dX1_init_49 : decode cX1_init 49 = .ok (.return_, 1) := by decide +kernel
theorem dX1_addSign_0 : decode cX1_addSign 0 = .ok (.aload_n 0, 1) := by decide +kernel
theorem dX1_addSign_1 : decode cX1_addSign 1 = .ok (.getfield 31, 3) := by decide +kernel
theorem dX1_addSign_4 : decode cX1_addSign 4 = .ok (.bipush 6, 2) := by decide +kernel
theorem dX1_addSign_6 : decode cX1_addSign 6 = .ok (.if_icmp .lt 5, 3) := by decide +kernel
theorem dX1_addSign_9 : decode cX1_addSign 9 = .ok (.iconst 0, 1) := by decide +kernel
theorem dX1_addSign_10 : decode cX1_addSign 10 = .ok (.ireturn, 1) := by decide +kernel
theorem dX1_addSign_11 : decode cX1_addSign 11 = .ok (.aload_n 0, 1) := by decide +kernel
theorem dX1_addSign_12 : decode cX1_addSign 12 = .ok (.getfield 9, 3) := by decide +kernel
theorem dX1_addSign_15 : decode cX1_addSign 15 = .ok (.aload_n 0, 1) := by decide +kernel
theorem dX1_addSign_16 : decode cX1_addSign 16 = .ok (.getfield 31, 3) := by decide +kernel
theorem dX1_addSign_19 : decode cX1_addSign 19 = .ok (.iload_n 1, 1) := by decide +kernel
theorem dX1_addSign_20 : decode cX1_addSign 20 = .ok (.iastore, 1) := by decide +kernel
theorem dX1_addSign_21 : decode cX1_addSign 21 = .ok (.aload_n 0, 1) := by decide +kernel
theorem dX1_addSign_22 : decode cX1_addSign 22 = .ok (.getfield 15, 3) := by decide +kernel
theorem dX1_addSign_25 : decode cX1_addSign 25 = .ok (.aload_n 0, 1) := by decide +kernel
theorem dX1_addSign_26 : decode cX1_addSign 26 = .ok (.getfield 31, 3) := by decide +kernel
theorem dX1_addSign_29 : decode cX1_addSign 29 = .ok (.iload_n 2, 1) := by decide +kernel
theorem dX1_addSign_30 : decode cX1_addSign 30 = .ok (.iastore, 1) := by decide +kernel
theorem dX1_addSign_31 : decode cX1_addSign 31 = .ok (.aload_n 0, 1) := by decide +kernel
theorem dX1_addSign_32 : decode cX1_addSign 32 = .ok (.getfield 18, 3) := by decide +kernel
theorem dX1_addSign_35 : decode cX1_addSign 35 = .ok (.aload_n 0, 1) := by decide +kernel
theorem dX1_addSign_36 : decode cX1_addSign 36 = .ok (.getfield 31, 3) := by decide +kernel
theorem dX1_addSign_39 : decode cX1_addSign 39 = .ok (.iload_n 3, 1) := by decide +kernel
theorem dX1_addSign_40 : decode cX1_addSign 40 = .ok (.iastore, 1) := by decide +kernel
theorem dX1_addSign_41 : decode cX1_addSign 41 = .ok (.aload_n 0, 1) := by decide +kernel
theorem dX1_addSign_42 : decode cX1_addSign 42 = .ok (.dup, 1) := by decide +kernel
theorem dX1_addSign_43 : decode cX1_addSign 43 = .ok (.getfield 31, 3) := by decide +kernel
theorem dX1_addSign_46 : decode cX1_addSign 46 = .ok (.iconst 1, 1) := by decide +kernel
theorem dX1_addSign_47 : decode cX1_addSign 47 = .ok (.iadd, 1) := by decide +kernel
theorem dX1_addSign_48 : decode cX1_addSign 48 = .ok (.putfield 31, 3) := by decide +kernel
theorem dX1_addSign_51 : decode cX1_addSign 51 = .ok (.iconst 1, 1) := by decide +kernel
theorem dX1_addSign_52 : decode cX1_addSign 52 = .ok (.ireturn, 1) := by decide +kernel
set_option maxRecDepth 20000 in
theorem ggX1_lookAhead_J7_fill_d0a16 : GoodIn wsX1_lookAhead wsJ7_fill_d0a16 := goodIn_r _ [5] (by decide +kernel) (by decide +kernel)
set_option maxRecDepth 20000 in
theorem gX1_lookAhead_J7_fill_d0a16 : GoodIn wsX1_lookAhead (va_wsS RX1 35 yJ7_fill_d0a16 wsJ7_fill_d0a16) := goodIn_app (goodIn_of _ (by decide +kernel)) ggX1_lookAhead_J7_fill_d0a16
set_option maxRecDepth 20000 in
theorem ggX1_lookAhead_X1_goOn : GoodIn wsX1_lookAhead wsX1_goOn := goodIn_r _ [10, 11, 12, 1, 13, 14, 15, 16, 17, 2, 3, 4, 5, 18, 19, 20, 21, 22, 23, 24, 25, 26, 27, 28, 29, 30, 31, 32, 33, 34, 35, 36, 37, 38, 39] (by decide +kernel) (by decide +kernel)
set_option maxRecDepth 20000 in
theorem gX1_lookAhead_X1_goOn : GoodIn wsX1_lookAhead (wsV RX1 41 RX1 yX1_goOn wsX1_goOn) := goodIn_app (goodIn_of _ (by decide +kernel)) ggX1_lookAhead_X1_goOn
theorem dX1_lookAhead_0 : decode cX1_lookAhead 0 = .ok (.aload_n 0, 1) := by decide +kernel
theorem dX1_lookAhead_1 : decode cX1_lookAhead 1 = .ok (.getfield 21, 3) := by decide +kernel
theorem dX1_lookAhead_4 : decode cX1_lookAhead 4 = .ok (.lconst 0, 1) := by decide +kernel
theorem dX1_lookAhead_5 : decode cX1_lookAhead 5 = .ok (.invokestatic 35, 3) := by decide +kernel
theorem dX1_lookAhead_8 : decode cX1_lookAhead 8 = .ok (.aload_n 0, 1) := by decide +kernel
theorem dX1_lookAhead_9 : decode cX1_lookAhead 9 = .ok (.getfield 21, 3) := by decide +kernel
theorem dX1_lookAhead_12 : decode cX1_lookAhead 12 = .ok (.iload_n 2, 1) := by decide +kernel
theorem dX1_lookAhead_13 : decode cX1_lookAhead 13 = .ok (.lconst 1, 1) := by decide +kernel
theorem dX1_lookAhead_14 : decode cX1_lookAhead 14 = .ok (.lastore, 1) := by decide +kernel
theorem dX1_lookAhead_15 : decode cX1_lookAhead 15 = .ok (.iconst 0, 1) := by decide +kernel
theorem dX1_lookAhead_16 : decode cX1_lookAhead 16 = .ok (.istore 4, 2) := by decide +kernel
theorem dX1_lookAhead_18 : decode cX1_lookAhead 18 = .ok (.iload 4, 2) := by decide +kernel
theorem dX1_lookAhead_20 : decode cX1_lookAhead 20 = .ok (.iload_n 3, 1) := by decide +kernel
theorem dX1_lookAhead_21 : decode cX1_lookAhead 21 = .ok (.if_icmp .ge 14, 3) := by decide +kernel
theorem dX1_lookAhead_24 : decode cX1_lookAhead 24 = .ok (.aload_n 0, 1) := by decide +kernel
theorem dX1_lookAhead_25 : decode cX1_lookAhead 25 = .ok (.aload_n 1, 1) := by decide +kernel
theorem dX1_lookAhead_26 : decode cX1_lookAhead 26 = .ok (.invokevirtual 41, 3) := by decide +kernel
theorem dX1_lookAhead_29 : decode cX1_lookAhead 29 = .ok (.iinc 4 1, 3) := by decide +kernel
theorem dX1_lookAhead_32 : decode cX1_lookAhead 32 = .ok (.goto (-14), 3) := by decide +kernel
theorem dX1_lookAhead_35 : decode cX1_lookAhead 35 = .ok (.return_, 1) := by decide +kernel
set_option maxRecDepth 20000 in
theorem ggX1_lookBack_J7_fill_d0a16 : GoodIn wsX1_lookBack wsJ7_fill_d0a16 := goodIn_r _ [6] (by decide +kernel) (by decide +kernel)
set_option maxRecDepth 20000 in
theorem gX1_lookBack_J7_fill_d0a16 : GoodIn wsX1_lookBack (va_wsS RX1 35 yJ7_fill_d0a16 wsJ7_fill_d0a16) := goodIn_app (goodIn_of _ (by decide +kernel)) ggX1_lookBack_J7_fill_d0a16
set_option maxRecDepth 20000 in
theorem ggX1_lookBack_X1_ruleOut : GoodIn wsX1_lookBack wsX1_ruleOut := goodIn_r _ [11, 12, 13, 14, 15, 31, 32, 33, 34, 35, 36, 37] (by decide +kernel) (by decide +kernel)
set_option maxRecDepth 20000 in
theorem gX1_lookBack_X1_ruleOut : GoodIn wsX1_lookBack (wsV RX1 45 RX1 yX1_ruleOut wsX1_ruleOut) := goodIn_app (goodIn_of _ (by decide +kernel)) ggX1_lookBack_X1_ruleOut
set_option maxRecDepth 20000 in
theorem ggX1_lookBack_X1_goOn : GoodIn wsX1_lookBack wsX1_goOn := goodIn_r _ [19, 20, 21, 1, 22, 23, 24, 25, 26, 3, 4, 5, 6, 31, 32, 33, 34, 35, 36, 37, 38, 39, 40, 41, 42, 43, 44, 45, 46, 47, 48, 49, 50, 51, 52] (by decide +kernel) (by decide +kernel)
set_option maxRecDepth 20000 in
theorem gX1_lookBack_X1_goOn : GoodIn wsX1_lookBack (wsV RX1 41 RX1 yX1_goOn wsX1_goOn) := goodIn_app (goodIn_of _ (by decide +kernel)) ggX1_lookBack_X1_goOn
set_option maxRecDepth 20000 in
theorem ggX1_lookBack_X1_goBack : GoodIn wsX1_lookBack wsX1_goBack := goodIn_r _ [30, 21, 20, 2, 22, 23, 24, 25, 26, 38, 39, 40, 41, 42, 43, 44, 45, 46, 47, 48, 49, 50, 51, 52, 31, 32, 33, 34, 35, 36, 37] (by decide +kernel) (by decide +kernel)
set_option maxRecDepth 20000 in
theorem gX1_lookBack_X1_goBack : GoodIn wsX1_lookBack (wsV RX1 49 RX1 yX1_goBack wsX1_goBack) := goodIn_app (goodIn_of _ (by decide +kernel)) ggX1_lookBack_X1_goBack
theorem dX1_lookBack_0 : decode cX1_lookBack 0 = .ok (.aload_n 0, 1) := by decide +kernel
theorem dX1_lookBack_1 : decode cX1_lookBack 1 = .ok (.getfield 21, 3) := by decide +kernel
theorem dX1_lookBack_4 : decode cX1_lookBack 4 = .ok (.lconst 1, 1) := by decide +kernel
theorem dX1_lookBack_5 : decode cX1_lookBack 5 = .ok (.invokestatic 35, 3) := by decide +kernel
theorem dX1_lookBack_8 : decode cX1_lookBack 8 = .ok (.aload_n 0, 1) := by decide +kernel
theorem dX1_lookBack_9 : decode cX1_lookBack 9 = .ok (.aload_n 0, 1) := by decide +kernel
theorem dX1_lookBack_10 : decode cX1_lookBack 10 = .ok (.getfield 21, 3) := by decide +kernel
theorem dX1_lookBack_13 : decode cX1_lookBack 13 = .ok (.bipush 9, 2) := by decide +kernel
theorem dX1_lookBack_15 : decode cX1_lookBack 15 = .ok (.invokevirtual 45, 3) := by decide +kernel
theorem dX1_lookBack_18 : decode cX1_lookBack 18 = .ok (.bipush 8, 2) := by decide +kernel
theorem dX1_lookBack_20 : decode cX1_lookBack 20 = .ok (.istore_n 3, 1) := by decide +kernel
theorem dX1_lookBack_21 : decode cX1_lookBack 21 = .ok (.iload_n 3, 1) := by decide +kernel
theorem dX1_lookBack_22 : decode cX1_lookBack 22 = .ok (.iload_n 2, 1) := by decide +kernel
theorem dX1_lookBack_23 : decode cX1_lookBack 23 = .ok (.if_icmp .lt 23, 3) := by decide +kernel
theorem dX1_lookBack_26 : decode cX1_lookBack 26 = .ok (.aload_n 0, 1) := by decide +kernel
theorem dX1_lookBack_27 : decode cX1_lookBack 27 = .ok (.aload_n 1, 1) := by decide +kernel
theorem dX1_lookBack_28 : decode cX1_lookBack 28 = .ok (.invokevirtual 41, 3) := by decide +kernel
theorem dX1_lookBack_31 : decode cX1_lookBack 31 = .ok (.aload_n 0, 1) := by decide +kernel
theorem dX1_lookBack_32 : decode cX1_lookBack 32 = .ok (.aload_n 0, 1) := by decide +kernel
theorem dX1_lookBack_33 : decode cX1_lookBack 33 = .ok (.getfield 21, 3) := by decide +kernel
theorem dX1_lookBack_36 : decode cX1_lookBack 36 = .ok (.iload_n 3, 1) := by decide +kernel
theorem dX1_lookBack_37 : decode cX1_lookBack 37 = .ok (.invokevirtual 45, 3) := by decide +kernel
theorem dX1_lookBack_40 : decode cX1_lookBack 40 = .ok (.iinc 3 (-1), 3) := by decide +kernel
theorem dX1_lookBack_43 : decode cX1_lookBack 43 = .ok (.goto (-22), 3) := by decide +kernel
theorem dX1_lookBack_46 : decode cX1_lookBack 46 = .ok (.aload_n 0, 1) := by decide +kernel
theorem dX1_lookBack_47 : decode cX1_lookBack 47 = .ok (.getfield 25, 3) := by decide +kernel
theorem dX1_lookBack_50 : decode cX1_lookBack 50 = .ok (.lconst 1, 1) := by decide +kernel
theorem dX1_lookBack_51 : decode cX1_lookBack 51 = .ok (.invokestatic 35, 3) := by decide +kernel
theorem dX1_lookBack_54 : decode cX1_lookBack 54 = .ok (.iconst 0, 1) := by decide +kernel
theorem dX1_lookBack_55 : decode cX1_lookBack 55 = .ok (.istore_n 3, 1) := by decide +kernel
theorem dX1_lookBack_56 : decode cX1_lookBack 56 = .ok (.iload_n 3, 1) := by decide +kernel
theorem dX1_lookBack_57 : decode cX1_lookBack 57 = .ok (.iload_n 2, 1) := by decide +kernel
theorem dX1_lookBack_58 : decode cX1_lookBack 58 = .ok (.if_icmp .ge 23, 3) := by decide +kernel
theorem dX1_lookBack_61 : decode cX1_lookBack 61 = .ok (.aload_n 0, 1) := by decide +kernel
theorem dX1_lookBack_62 : decode cX1_lookBack 62 = .ok (.aload_n 0, 1) := by decide +kernel
theorem dX1_lookBack_63 : decode cX1_lookBack 63 = .ok (.getfield 25, 3) := by decide +kernel
theorem dX1_lookBack_66 : decode cX1_lookBack 66 = .ok (.iload_n 3, 1) := by decide +kernel
theorem dX1_lookBack_67 : decode cX1_lookBack 67 = .ok (.invokevirtual 45, 3) := by decide +kernel
theorem dX1_lookBack_70 : decode cX1_lookBack 70 = .ok (.aload_n 0, 1) := by decide +kernel
theorem dX1_lookBack_71 : decode cX1_lookBack 71 = .ok (.aload_n 1, 1) := by decide +kernel
theorem dX1_lookBack_72 : decode cX1_lookBack 72 = .ok (.invokevirtual 49, 3) := by decide +kernel
theorem dX1_lookBack_75 : decode cX1_lookBack 75 = .ok (.iinc 3 1, 3) := by decide +kernel
theorem dX1_lookBack_78 : decode cX1_lookBack 78 = .ok (.goto (-22), 3) := by decide +kernel
theorem dX1_lookBack_81 : decode cX1_lookBack 81 = .ok (.iconst 0, 1) := by decide +kernel
theorem dX1_lookBack_82 : decode cX1_lookBack 82 = .ok (.istore_n 3, 1) := by decide +kernel
theorem dX1_lookBack_83 : decode cX1_lookBack 83 = .ok (.iload_n 3, 1) := by decide +kernel
theorem dX1_lookBack_84 : decode cX1_lookBack 84 = .ok (.iconst 4, 1) := by decide +kernel
theorem dX1_lookBack_85 : decode cX1_lookBack 85 = .ok (.if_icmp .ge 24, 3) := by decide +kernel
theorem dX1_lookBack_88 : decode cX1_lookBack 88 = .ok (.aload_n 0, 1) := by decide +kernel
theorem dX1_lookBack_89 : decode cX1_lookBack 89 = .ok (.getfield 21, 3) := by decide +kernel
theorem dX1_lookBack_92 : decode cX1_lookBack 92 = .ok (.iload_n 3, 1) := by decide +kernel
theorem dX1_lookBack_93 : decode cX1_lookBack 93 = .ok (.dup2, 1) := by decide +kernel
theorem dX1_lookBack_94 : decode cX1_lookBack 94 = .ok (.laload, 1) := by decide +kernel
theorem dX1_lookBack_95 : decode cX1_lookBack 95 = .ok (.aload_n 0, 1) := by decide +kernel
theorem dX1_lookBack_96 : decode cX1_lookBack 96 = .ok (.getfield 25, 3) := by decide +kernel
theorem dX1_lookBack_99 : decode cX1_lookBack 99 = .ok (.iload_n 3, 1) := by decide +kernel
theorem dX1_lookBack_100 : decode cX1_lookBack 100 = .ok (.laload, 1) := by decide +kernel
theorem dX1_lookBack_101 : decode cX1_lookBack 101 = .ok (.lmul, 1) := by decide +kernel
theorem dX1_lookBack_102 : decode cX1_lookBack 102 = .ok (.lastore, 1) := by decide +kernel
theorem dX1_lookBack_103 : decode cX1_lookBack 103 = .ok (.iinc 3 1, 3) := by decide +kernel
theorem dX1_lookBack_106 : decode cX1_lookBack 106 = .ok (.goto (-23), 3) := by decide +kernel
theorem dX1_lookBack_109 : decode cX1_lookBack 109 = .ok (.return_, 1) := by decide +kernel
set_option maxRecDepth 20000 in
theorem ggX1_goOn_J7_fill_d0a16 : GoodIn wsX1_goOn wsJ7_fill_d0a16 := goodIn_r _ [12] (by decide +kernel) (by decide +kernel)
set_option maxRecDepth 20000 in
theorem gX1_goOn_J7_fill_d0a16 : GoodIn wsX1_goOn (va_wsS RX1 35 yJ7_fill_d0a16 wsJ7_fill_d0a16) := goodIn_app (goodIn_of _ (by decide +kernel)) ggX1_goOn_J7_fill_d0a16
theorem dX1_goOn_0 : decode cX1_goOn 0 = .ok (.aload_n 0, 1) := by decide +kernel
theorem dX1_goOn_1 : decode cX1_goOn 1 = .ok (.getfield 28, 3) := by decide +kernel
theorem dX1_goOn_4 : decode cX1_goOn 4 = .ok (.lconst 0, 1) := by decide +kernel
theorem dX1_goOn_5 : decode cX1_goOn 5 = .ok (.invokestatic 35, 3) := by decide +kernel
theorem dX1_goOn_8 : decode cX1_goOn 8 = .ok (.iconst 0, 1) := by decide +kernel
theorem dX1_goOn_9 : decode cX1_goOn 9 = .ok (.istore_n 2, 1) := by decide +kernel
theorem dX1_goOn_10 : decode cX1_goOn 10 = .ok (.iload_n 2, 1) := by decide +kernel
theorem dX1_goOn_11 : decode cX1_goOn 11 = .ok (.iconst 4, 1) := by decide +kernel
theorem dX1_goOn_12 : decode cX1_goOn 12 = .ok (.if_icmp .ge 60, 3) := by decide +kernel
theorem dX1_goOn_15 : decode cX1_goOn 15 = .ok (.aload_n 1, 1) := by decide +kernel
theorem dX1_goOn_16 : decode cX1_goOn 16 = .ok (.getfield 52, 3) := by decide +kernel
theorem dX1_goOn_19 : decode cX1_goOn 19 = .ok (.iload_n 2, 1) := by decide +kernel
theorem dX1_goOn_20 : decode cX1_goOn 20 = .ok (.iaload, 1) := by decide +kernel
theorem dX1_goOn_21 : decode cX1_goOn 21 = .ok (.istore_n 3, 1) := by decide +kernel
theorem dX1_goOn_22 : decode cX1_goOn 22 = .ok (.aload_n 0, 1) := by decide +kernel
theorem dX1_goOn_23 : decode cX1_goOn 23 = .ok (.getfield 28, 3) := by decide +kernel
theorem dX1_goOn_26 : decode cX1_goOn 26 = .ok (.iload_n 2, 1) := by decide +kernel
theorem dX1_goOn_27 : decode cX1_goOn 27 = .ok (.dup2, 1) := by decide +kernel
theorem dX1_goOn_28 : decode cX1_goOn 28 = .ok (.laload, 1) := by decide +kernel
theorem dX1_goOn_29 : decode cX1_goOn 29 = .ok (.aload_n 0, 1) := by decide +kernel
theorem dX1_goOn_30 : decode cX1_goOn 30 = .ok (.getfield 21, 3) := by decide +kernel
theorem dX1_goOn_33 : decode cX1_goOn 33 = .ok (.iload_n 2, 1) := by decide +kernel
theorem dX1_goOn_34 : decode cX1_goOn 34 = .ok (.laload, 1) := by decide +kernel
theorem dX1_goOn_35 : decode cX1_goOn 35 = .ok (.bipush 10, 2) := by decide +kernel
theorem dX1_goOn_37 : decode cX1_goOn 37 = .ok (.iload_n 3, 1) := by decide +kernel
theorem dX1_goOn_38 : decode cX1_goOn 38 = .ok (.isub, 1) := by decide +kernel
theorem dX1_goOn_39 : decode cX1_goOn 39 = .ok (.i2l, 1) := by decide +kernel
theorem dX1_goOn_40 : decode cX1_goOn 40 = .ok (.lmul, 1) := by decide +kernel
theorem dX1_goOn_41 : decode cX1_goOn 41 = .ok (.ladd, 1) := by decide +kernel
theorem dX1_goOn_42 : decode cX1_goOn 42 = .ok (.lastore, 1) := by decide +kernel
theorem dX1_goOn_43 : decode cX1_goOn 43 = .ok (.aload_n 0, 1) := by decide +kernel
theorem dX1_goOn_44 : decode cX1_goOn 44 = .ok (.getfield 28, 3) := by decide +kernel
theorem dX1_goOn_47 : decode cX1_goOn 47 = .ok (.aload_n 1, 1) := by decide +kernel
theorem dX1_goOn_48 : decode cX1_goOn 48 = .ok (.getfield 57, 3) := by decide +kernel
theorem dX1_goOn_51 : decode cX1_goOn 51 = .ok (.iload_n 2, 1) := by decide +kernel
theorem dX1_goOn_52 : decode cX1_goOn 52 = .ok (.iaload, 1) := by decide +kernel
theorem dX1_goOn_53 : decode cX1_goOn 53 = .ok (.dup2, 1) := by decide +kernel
theorem dX1_goOn_54 : decode cX1_goOn 54 = .ok (.laload, 1) := by decide +kernel
theorem dX1_goOn_55 : decode cX1_goOn 55 = .ok (.aload_n 0, 1) := by decide +kernel
theorem dX1_goOn_56 : decode cX1_goOn 56 = .ok (.getfield 21, 3) := by decide +kernel
theorem dX1_goOn_59 : decode cX1_goOn 59 = .ok (.iload_n 2, 1) := by decide +kernel
theorem dX1_goOn_60 : decode cX1_goOn 60 = .ok (.laload, 1) := by decide +kernel
theorem dX1_goOn_61 : decode cX1_goOn 61 = .ok (.iload_n 3, 1) := by decide +kernel
theorem dX1_goOn_62 : decode cX1_goOn 62 = .ok (.i2l, 1) := by decide +kernel
theorem dX1_goOn_63 : decode cX1_goOn 63 = .ok (.lmul, 1) := by decide +kernel
theorem dX1_goOn_64 : decode cX1_goOn 64 = .ok (.ladd, 1) := by decide +kernel
theorem dX1_goOn_65 : decode cX1_goOn 65 = .ok (.lastore, 1) := by decide +kernel
theorem dX1_goOn_66 : decode cX1_goOn 66 = .ok (.iinc 2 1, 3) := by decide +kernel
theorem dX1_goOn_69 : decode cX1_goOn 69 = .ok (.goto (-59), 3) := by decide +kernel
theorem dX1_goOn_72 : decode cX1_goOn 72 = .ok (.aload_n 0, 1) := by decide +kernel
theorem dX1_goOn_73 : decode cX1_goOn 73 = .ok (.getfield 28, 3) := by decide +kernel
theorem dX1_goOn_76 : decode cX1_goOn 76 = .ok (.iconst 0, 1) := by decide +kernel
theorem dX1_goOn_77 : decode cX1_goOn 77 = .ok (.aload_n 0, 1) := by decide +kernel
theorem dX1_goOn_78 : decode cX1_goOn 78 = .ok (.getfield 21, 3) := by decide +kernel
theorem dX1_goOn_81 : decode cX1_goOn 81 = .ok (.iconst 0, 1) := by decide +kernel
theorem dX1_goOn_82 : decode cX1_goOn 82 = .ok (.iconst 4, 1) := by decide +kernel
theorem dX1_goOn_83 : decode cX1_goOn 83 = .ok (.invokestatic 60, 3) := by decide +kernel
theorem dX1_goOn_86 : decode cX1_goOn 86 = .ok (.return_, 1) := by decide +kernel
theorem dX1_goBack_0 : decode cX1_goBack 0 = .ok (.iconst 0, 1) := by decide +kernel
theorem dX1_goBack_1 : decode cX1_goBack 1 = .ok (.istore_n 2, 1) := by decide +kernel
theorem dX1_goBack_2 : decode cX1_goBack 2 = .ok (.iload_n 2, 1) := by decide +kernel
theorem dX1_goBack_3 : decode cX1_goBack 3 = .ok (.iconst 4, 1) := by decide +kernel
theorem dX1_goBack_4 : decode cX1_goBack 4 = .ok (.if_icmp .ge 49, 3) := by decide +kernel
theorem dX1_goBack_7 : decode cX1_goBack 7 = .ok (.aload_n 1, 1) := by decide +kernel
theorem dX1_goBack_8 : decode cX1_goBack 8 = .ok (.getfield 52, 3) := by decide +kernel
theorem dX1_goBack_11 : decode cX1_goBack 11 = .ok (.iload_n 2, 1) := by decide +kernel
theorem dX1_goBack_12 : decode cX1_goBack 12 = .ok (.iaload, 1) := by decide +kernel
theorem dX1_goBack_13 : decode cX1_goBack 13 = .ok (.istore_n 3, 1) := by decide +kernel
theorem dX1_goBack_14 : decode cX1_goBack 14 = .ok (.aload_n 0, 1) := by decide +kernel
theorem dX1_goBack_15 : decode cX1_goBack 15 = .ok (.getfield 28, 3) := by decide +kernel
theorem dX1_goBack_18 : decode cX1_goBack 18 = .ok (.iload_n 2, 1) := by decide +kernel
theorem dX1_goBack_19 : decode cX1_goBack 19 = .ok (.aload_n 0, 1) := by decide +kernel
theorem dX1_goBack_20 : decode cX1_goBack 20 = .ok (.getfield 25, 3) := by decide +kernel
theorem dX1_goBack_23 : decode cX1_goBack 23 = .ok (.iload_n 2, 1) := by decide +kernel
theorem dX1_goBack_24 : decode cX1_goBack 24 = .ok (.laload, 1) := by decide +kernel
theorem dX1_goBack_25 : decode cX1_goBack 25 = .ok (.bipush 10, 2) := by decide +kernel
theorem dX1_goBack_27 : decode cX1_goBack 27 = .ok (.iload_n 3, 1) := by decide +kernel
theorem dX1_goBack_28 : decode cX1_goBack 28 = .ok (.isub, 1) := by decide +kernel
theorem dX1_goBack_29 : decode cX1_goBack 29 = .ok (.i2l, 1) := by decide +kernel
theorem dX1_goBack_30 : decode cX1_goBack 30 = .ok (.lmul, 1) := by decide +kernel
theorem dX1_goBack_31 : decode cX1_goBack 31 = .ok (.aload_n 0, 1) := by decide +kernel
theorem dX1_goBack_32 : decode cX1_goBack 32 = .ok (.getfield 25, 3) := by decide +kernel
theorem dX1_goBack_35 : decode cX1_goBack 35 = .ok (.aload_n 1, 1) := by decide +kernel
theorem dX1_goBack_36 : decode cX1_goBack 36 = .ok (.getfield 57, 3) := by decide +kernel
theorem dX1_goBack_39 : decode cX1_goBack 39 = .ok (.iload_n 2, 1) := by decide +kernel
theorem dX1_goBack_40 : decode cX1_goBack 40 = .ok (.iaload, 1) := by decide +kernel
theorem dX1_goBack_41 : decode cX1_goBack 41 = .ok (.laload, 1) := by decide +kernel
theorem dX1_goBack_42 : decode cX1_goBack 42 = .ok (.iload_n 3, 1) := by decide +kernel
theorem dX1_goBack_43 : decode cX1_goBack 43 = .ok (.i2l, 1) := by decide +kernel
theorem dX1_goBack_44 : decode cX1_goBack 44 = .ok (.lmul, 1) := by decide +kernel
theorem dX1_goBack_45 : decode cX1_goBack 45 = .ok (.ladd, 1) := by decide +kernel
theorem dX1_goBack_46 : decode cX1_goBack 46 = .ok (.lastore, 1) := by decide +kernel
theorem dX1_goBack_47 : decode cX1_goBack 47 = .ok (.iinc 2 1, 3) := by decide +kernel
theorem dX1_goBack_50 : decode cX1_goBack 50 = .ok (.goto (-48), 3) := by decide +kernel
theorem dX1_goBack_53 : decode cX1_goBack 53 = .ok (.aload_n 0, 1) := by decide +kernel
theorem dX1_goBack_54 : decode cX1_goBack 54 = .ok (.getfield 28, 3) := by decide +kernel
theorem dX1_goBack_57 : decode cX1_goBack 57 = .ok (.iconst 0, 1) := by decide +kernel
theorem dX1_goBack_58 : decode cX1_goBack 58 = .ok (.aload_n 0, 1) := by decide +kernel
theorem dX1_goBack_59 : decode cX1_goBack 59 = .ok (.getfield 25, 3) := by decide +kernel
theorem dX1_goBack_62 : decode cX1_goBack 62 = .ok (.iconst 0, 1) := by decide +kernel
theorem dX1_goBack_63 : decode cX1_goBack 63 = .ok (.iconst 4, 1) := by decide +kernel
theorem dX1_goBack_64 : decode cX1_goBack 64 = .ok (.invokestatic 60, 3) := by decide +kernel
theorem dX1_goBack_67 : decode cX1_goBack 67 = .ok (.return_, 1) := by decide +kernel
theorem dX1_ruleOut_0 : decode cX1_ruleOut 0 = .ok (.iconst 0, 1) := by decide +kernel
theorem dX1_ruleOut_1 : decode cX1_ruleOut 1 = .ok (.istore_n 3, 1) := by decide +kernel
theorem dX1_ruleOut_2 : decode cX1_ruleOut 2 = .ok (.iload_n 3, 1) := by decide +kernel
theorem dX1_ruleOut_3 : decode cX1_ruleOut 3 = .ok (.aload_n 0, 1) := by decide +kernel
theorem dX1_ruleOut_4 : decode cX1_ruleOut 4 = .ok (.getfield 31, 3) := by decide +kernel
theorem dX1_ruleOut_7 : decode cX1_ruleOut 7 = .ok (.if_icmp .ge 68, 3) := by decide +kernel
theorem dX1_ruleOut_10 : decode cX1_ruleOut 10 = .ok (.iconst 0, 1) := by decide +kernel
theorem dX1_ruleOut_11 : decode cX1_ruleOut 11 = .ok (.istore 4, 2) := by decide +kernel
theorem dX1_ruleOut_13 : decode cX1_ruleOut 13 = .ok (.iload 4, 2) := by decide +kernel
theorem dX1_ruleOut_15 : decode cX1_ruleOut 15 = .ok (.iconst 4, 1) := by decide +kernel
theorem dX1_ruleOut_16 : decode cX1_ruleOut 16 = .ok (.if_icmp .ge 53, 3) := by decide +kernel
theorem dX1_ruleOut_19 : decode cX1_ruleOut 19 = .ok (.iload 4, 2) := by decide +kernel
theorem dX1_ruleOut_21 : decode cX1_ruleOut 21 = .ok (.aload_n 0, 1) := by decide +kernel
theorem dX1_ruleOut_22 : decode cX1_ruleOut 22 = .ok (.getfield 9, 3) := by decide +kernel
theorem dX1_ruleOut_25 : decode cX1_ruleOut 25 = .ok (.iload_n 3, 1) := by decide +kernel
theorem dX1_ruleOut_26 : decode cX1_ruleOut 26 = .ok (.iaload, 1) := by decide +kernel
theorem dX1_ruleOut_27 : decode cX1_ruleOut 27 = .ok (.if_icmp .ne 7, 3) := by decide +kernel
theorem dX1_ruleOut_30 : decode cX1_ruleOut 30 = .ok (.iconst 1, 1) := by decide +kernel
theorem dX1_ruleOut_31 : decode cX1_ruleOut 31 = .ok (.goto 4, 3) := by decide +kernel
theorem dX1_ruleOut_34 : decode cX1_ruleOut 34 = .ok (.iconst 0, 1) := by decide +kernel
theorem dX1_ruleOut_35 : decode cX1_ruleOut 35 = .ok (.istore 5, 2) := by decide +kernel
theorem dX1_ruleOut_37 : decode cX1_ruleOut 37 = .ok (.aload_n 0, 1) := by decide +kernel
theorem dX1_ruleOut_38 : decode cX1_ruleOut 38 = .ok (.getfield 15, 3) := by decide +kernel
theorem dX1_ruleOut_41 : decode cX1_ruleOut 41 = .ok (.iload_n 3, 1) := by decide +kernel
theorem dX1_ruleOut_42 : decode cX1_ruleOut 42 = .ok (.iaload, 1) := by decide +kernel
theorem dX1_ruleOut_43 : decode cX1_ruleOut 43 = .ok (.iload_n 2, 1) := by decide +kernel
theorem dX1_ruleOut_44 : decode cX1_ruleOut 44 = .ok (.if_icmp .ne 19, 3) := by decide +kernel
theorem dX1_ruleOut_47 : decode cX1_ruleOut 47 = .ok (.iload 5, 2) := by decide +kernel
theorem dX1_ruleOut_49 : decode cX1_ruleOut 49 = .ok (.aload_n 0, 1) := by decide +kernel
theorem dX1_ruleOut_50 : decode cX1_ruleOut 50 = .ok (.getfield 18, 3) := by decide +kernel
theorem dX1_ruleOut_53 : decode cX1_ruleOut 53 = .ok (.iload_n 3, 1) := by decide +kernel
theorem dX1_ruleOut_54 : decode cX1_ruleOut 54 = .ok (.iaload, 1) := by decide +kernel
theorem dX1_ruleOut_55 : decode cX1_ruleOut 55 = .ok (.if_icmp .eq 8, 3) := by decide +kernel
theorem dX1_ruleOut_58 : decode cX1_ruleOut 58 = .ok (.aload_n 1, 1) := by decide +kernel
theorem dX1_ruleOut_59 : decode cX1_ruleOut 59 = .ok (.iload 4, 2) := by decide +kernel
theorem dX1_ruleOut_61 : decode cX1_ruleOut 61 = .ok (.lconst 0, 1) := by decide +kernel
theorem dX1_ruleOut_62 : decode cX1_ruleOut 62 = .ok (.lastore, 1) := by decide +kernel
theorem dX1_ruleOut_63 : decode cX1_ruleOut 63 = .ok (.iinc 4 1, 3) := by decide +kernel
theorem dX1_ruleOut_66 : decode cX1_ruleOut 66 = .ok (.goto (-53), 3) := by decide +kernel
theorem dX1_ruleOut_69 : decode cX1_ruleOut 69 = .ok (.iinc 3 1, 3) := by decide +kernel
theorem dX1_ruleOut_72 : decode cX1_ruleOut 72 = .ok (.goto (-70), 3) := by decide +kernel
theorem dX1_ruleOut_75 : decode cX1_ruleOut 75 = .ok (.return_, 1) := by decide +kernel
theorem dX1_total_0 : decode cX1_total 0 = .ok (.lconst 0, 1) := by decide +kernel
theorem dX1_total_1 : decode cX1_total 1 = .ok (.lstore_n 1, 1) := by decide +kernel
theorem dX1_total_2 : decode cX1_total 2 = .ok (.iconst 0, 1) := by decide +kernel
theorem dX1_total_3 : decode cX1_total 3 = .ok (.istore_n 3, 1) := by decide +kernel
theorem dX1_total_4 : decode cX1_total 4 = .ok (.iload_n 3, 1) := by decide +kernel
theorem dX1_total_5 : decode cX1_total 5 = .ok (.iconst 4, 1) := by decide +kernel
theorem dX1_total_6 : decode cX1_total 6 = .ok (.if_icmp .ge 18, 3) := by decide +kernel
theorem dX1_total_9 : decode cX1_total 9 = .ok (.lload_n 1, 1) := by decide +kernel
theorem dX1_total_10 : decode cX1_total 10 = .ok (.aload_n 0, 1) := by decide +kernel
theorem dX1_total_11 : decode cX1_total 11 = .ok (.getfield 21, 3) := by decide +kernel
theorem dX1_total_14 : decode cX1_total 14 = .ok (.iload_n 3, 1) := by decide +kernel
theorem dX1_total_15 : decode cX1_total 15 = .ok (.laload, 1) := by decide +kernel
theorem dX1_total_16 : decode cX1_total 16 = .ok (.ladd, 1) := by decide +kernel
theorem dX1_total_17 : decode cX1_total 17 = .ok (.lstore_n 1, 1) := by decide +kernel
theorem dX1_total_18 : decode cX1_total 18 = .ok (.iinc 3 1, 3) := by decide +kernel
theorem dX1_total_21 : decode cX1_total 21 = .ok (.goto (-17), 3) := by decide +kernel
theorem dX1_total_24 : decode cX1_total 24 = .ok (.lload_n 1, 1) := by decide +kernel
theorem dX1_total_25 : decode cX1_total 25 = .ok (.lreturn, 1) := by decide +kernel
set_option maxRecDepth 20000 in
theorem ggX1_partOf_X1_total : GoodIn wsX1_partOf wsX1_total := goodIn_r _ [6, 1, 10, 11, 12, 13, 14, 15, 16] (by decide +kernel) (by decide +kernel)
set_option maxRecDepth 20000 in
theorem gX1_partOf_X1_total : GoodIn wsX1_partOf (wsV RX1 66 RX1 yX1_total wsX1_total) := goodIn_app (goodIn_of _ (by decide +kernel)) ggX1_partOf_X1_total
set_option maxRecDepth 20000 in
theorem ggX1_partOf_X1_commonDivisor : GoodIn wsX1_partOf wsX1_commonDivisor := goodIn_r _ [9] (by decide +kernel) (by decide +kernel)
set_option maxRecDepth 20000 in
theorem gX1_partOf_X1_commonDivisor : GoodIn wsX1_partOf (va_wsS RX1 70 yX1_commonDivisor wsX1_commonDivisor) := goodIn_app (goodIn_of _ (by decide +kernel)) ggX1_partOf_X1_commonDivisor
theorem dX1_partOf_0 : decode cX1_partOf 0 = .ok (.aload_n 0, 1) := by decide +kernel
theorem dX1_partOf_1 : decode cX1_partOf 1 = .ok (.invokevirtual 66, 3) := by decide +kernel
theorem dX1_partOf_4 : decode cX1_partOf 4 = .ok (.lstore_n 3, 1) := by decide +kernel
theorem dX1_partOf_5 : decode cX1_partOf 5 = .ok (.aload_n 0, 1) := by decide +kernel
theorem dX1_partOf_6 : decode cX1_partOf 6 = .ok (.getfield 21, 3) := by decide +kernel
theorem dX1_partOf_9 : decode cX1_partOf 9 = .ok (.iload_n 1, 1) := by decide +kernel
theorem dX1_partOf_10 : decode cX1_partOf 10 = .ok (.laload, 1) := by decide +kernel
theorem dX1_partOf_11 : decode cX1_partOf 11 = .ok (.lload_n 3, 1) := by decide +kernel
theorem dX1_partOf_12 : decode cX1_partOf 12 = .ok (.invokestatic 70, 3) := by decide +kernel
theorem dX1_partOf_15 : decode cX1_partOf 15 = .ok (.lstore 5, 2) := by decide +kernel
theorem dX1_partOf_17 : decode cX1_partOf 17 = .ok (.lload 5, 2) := by decide +kernel
theorem dX1_partOf_19 : decode cX1_partOf 19 = .ok (.lconst 0, 1) := by decide +kernel
theorem dX1_partOf_20 : decode cX1_partOf 20 = .ok (.lcmp, 1) := by decide +kernel
theorem dX1_partOf_21 : decode cX1_partOf 21 = .ok (.ifCond .ne 5, 3) := by decide +kernel
theorem dX1_partOf_24 : decode cX1_partOf 24 = .ok (.lconst 0, 1) := by decide +kernel
theorem dX1_partOf_25 : decode cX1_partOf 25 = .ok (.lreturn, 1) := by decide +kernel
theorem dX1_partOf_26 : decode cX1_partOf 26 = .ok (.iload_n 2, 1) := by decide +kernel
theorem dX1_partOf_27 : decode cX1_partOf 27 = .ok (.ifCond .ne 12, 3) := by decide +kernel
theorem dX1_partOf_30 : decode cX1_partOf 30 = .ok (.aload_n 0, 1) := by decide +kernel
theorem dX1_partOf_31 : decode cX1_partOf 31 = .ok (.getfield 21, 3) := by decide +kernel
theorem dX1_partOf_34 : decode cX1_partOf 34 = .ok (.iload_n 1, 1) := by decide +kernel
theorem dX1_partOf_35 : decode cX1_partOf 35 = .ok (.laload, 1) := by decide +kernel
theorem dX1_partOf_36 : decode cX1_partOf 36 = .ok (.goto 4, 3) := by decide +kernel
theorem dX1_partOf_39 : decode cX1_partOf 39 = .ok (.lload_n 3, 1) := by decide +kernel
theorem dX1_partOf_40 : decode cX1_partOf 40 = .ok (.lload 5, 2) := by decide +kernel
theorem dX1_partOf_42 : decode cX1_partOf 42 = .ok (.ldiv, 1) := by decide +kernel
theorem dX1_partOf_43 : decode cX1_partOf 43 = .ok (.lreturn, 1) := by decide +kernel
theorem dX1_commonDivisor_0 : decode cX1_commonDivisor 0 = .ok (.lload_n 0, 1) := by decide +kernel
theorem dX1_commonDivisor_1 : decode cX1_commonDivisor 1 = .ok (.lstore 4, 2) := by decide +kernel
theorem dX1_commonDivisor_3 : decode cX1_commonDivisor 3 = .ok (.lload_n 2, 1) := by decide +kernel
theorem dX1_commonDivisor_4 : decode cX1_commonDivisor 4 = .ok (.lstore 6, 2) := by decide +kernel
theorem dX1_commonDivisor_6 : decode cX1_commonDivisor 6 = .ok (.iconst 0, 1) := by decide +kernel
theorem dX1_commonDivisor_7 : decode cX1_commonDivisor 7 = .ok (.istore 8, 2) := by decide +kernel
theorem dX1_commonDivisor_9 : decode cX1_commonDivisor 9 = .ok (.iload 8, 2) := by decide +kernel
theorem dX1_commonDivisor_11 : decode cX1_commonDivisor 11 = .ok (.bipush 100, 2) := by decide +kernel
theorem dX1_commonDivisor_13 : decode cX1_commonDivisor 13 = .ok (.if_icmp .ge 31, 3) := by decide +kernel
theorem dX1_commonDivisor_16 : decode cX1_commonDivisor 16 = .ok (.lload 6, 2) := by decide +kernel
theorem dX1_commonDivisor_18 : decode cX1_commonDivisor 18 = .ok (.lconst 0, 1) := by decide +kernel
theorem dX1_commonDivisor_19 : decode cX1_commonDivisor 19 = .ok (.lcmp, 1) := by decide +kernel
theorem dX1_commonDivisor_20 : decode cX1_commonDivisor 20 = .ok (.ifCond .eq 24, 3) := by decide +kernel
theorem dX1_commonDivisor_23 : decode cX1_commonDivisor 23 = .ok (.lload 4, 2) := by decide +kernel
theorem dX1_commonDivisor_25 : decode cX1_commonDivisor 25 = .ok (.lload 6, 2) := by decide +kernel
theorem dX1_commonDivisor_27 : decode cX1_commonDivisor 27 = .ok (.lrem, 1) := by decide +kernel
theorem dX1_commonDivisor_28 : decode cX1_commonDivisor 28 = .ok (.lstore 9, 2) := by decide +kernel
theorem dX1_commonDivisor_30 : decode cX1_commonDivisor 30 = .ok (.lload 6, 2) := by decide +kernel
theorem dX1_commonDivisor_32 : decode cX1_commonDivisor 32 = .ok (.lstore 4, 2) := by decide +kernel
theorem dX1_commonDivisor_34 : decode cX1_commonDivisor 34 = .ok (.lload 9, 2) := by decide +kernel
theorem dX1_commonDivisor_36 : decode cX1_commonDivisor 36 = .ok (.lstore 6, 2) := by decide +kernel
theorem dX1_commonDivisor_38 : decode cX1_commonDivisor 38 = .ok (.iinc 8 1, 3) := by decide +kernel
theorem dX1_commonDivisor_41 : decode cX1_commonDivisor 41 = .ok (.goto (-32), 3) := by decide +kernel
theorem dX1_commonDivisor_44 : decode cX1_commonDivisor 44 = .ok (.lload 4, 2) := by decide +kernel
theorem dX1_commonDivisor_46 : decode cX1_commonDivisor 46 = .ok (.lreturn, 1) := by decide +kernel
theorem dX2_init_0 : decode cX2_init 0 = .ok (.aload_n 0, 1) := by decide +kernel
theorem dX2_init_1 : decode cX2_init 1 = .ok (.invokespecial 3, 3) := by decide +kernel
theorem dX2_init_4 : decode cX2_init 4 = .ok (.aload_n 0, 1) := by decide +kernel
theorem dX2_init_5 : decode cX2_init 5 = .ok (.iconst 5, 1) := by decide +kernel
theorem dX2_init_6 : decode cX2_init 6 = .ok (.newarray .int, 2) := by decide +kernel
theorem dX2_init_8 : decode cX2_init 8 = .ok (.putfield 9, 3) := by decide +kernel
theorem dX2_init_11 : decode cX2_init 11 = .ok (.aload_n 0, 1) := by decide +kernel
theorem dX2_init_12 : decode cX2_init 12 = .ok (.bipush 32, 2) := by decide +kernel
theorem dX2_init_14 : decode cX2_init 14 = .ok (.newarray .int, 2) := by decide +kernel
theorem dX2_init_16 : decode cX2_init 16 = .ok (.putfield 15, 3) := by decide +kernel
theorem dX2_init_19 : decode cX2_init 19 = .ok (.return_, 1) := by decide +kernel
set_option maxRecDepth 20000 in
theorem ggX2_takeUp_X8_likeOneAnother : GoodIn wsX2_takeUp wsX8_likeOneAnother := goodIn_r _ [9, 10, 11, 12, 13, 35, 36, 37, 38, 39, 40, 41, 42, 43, 44, 45, 46, 47, 48, 49] (by decide +kernel) (by decide +kernel)
set_option maxRecDepth 20000 in
theorem gX2_takeUp_X8_likeOneAnother : GoodIn wsX2_takeUp (wsV RX2 24 RX8 yX8_likeOneAnother wsX8_likeOneAnother) := goodIn_app (goodIn_of _ (by decide +kernel)) ggX2_takeUp_X8_likeOneAnother
set_option maxRecDepth 20000 in
theorem ggX2_takeUp_X3_isMarried : GoodIn wsX2_takeUp wsX3_isMarried := goodIn_r _ [18, 19, 55, 56, 57, 58, 59, 60, 61, 62, 63, 64] (by decide +kernel) (by decide +kernel)
set_option maxRecDepth 20000 in
theorem gX2_takeUp_X3_isMarried : GoodIn wsX2_takeUp (wsV RX2 28 RX3 yX3_isMarried wsX3_isMarried) := goodIn_app (goodIn_of _ (by decide +kernel)) ggX2_takeUp_X3_isMarried
set_option maxRecDepth 20000 in
theorem ggX2_takeUp_X2_mostWith : GoodIn wsX2_takeUp wsX2_mostWith := goodIn_r _ [24, 3, 2, 25, 26, 27, 28, 11, 12, 13, 50, 51, 52, 53, 54] (by decide +kernel) (by decide +kernel)
set_option maxRecDepth 20000 in
theorem gX2_takeUp_X2_mostWith : GoodIn wsX2_takeUp (wsV RX2 34 RX2 yX2_mostWith wsX2_mostWith) := goodIn_app (goodIn_of _ (by decide +kernel)) ggX2_takeUp_X2_mostWith
set_option maxRecDepth 20000 in
theorem ggX2_takeUp_X2_findFirstPair : GoodIn wsX2_takeUp wsX2_findFirstPair := goodIn_r _ [32, 33, 34, 2, 3, 4, 11, 12, 13, 50, 51, 52, 53, 54] (by decide +kernel) (by decide +kernel)
set_option maxRecDepth 20000 in
theorem gX2_takeUp_X2_findFirstPair : GoodIn wsX2_takeUp (wsV RX2 41 RX2 yX2_findFirstPair wsX2_findFirstPair) := goodIn_app (goodIn_of _ (by decide +kernel)) ggX2_takeUp_X2_findFirstPair
theorem dX2_takeUp_0 : decode cX2_takeUp 0 = .ok (.iconst 0, 1) := by decide +kernel
theorem dX2_takeUp_1 : decode cX2_takeUp 1 = .ok (.istore_n 3, 1) := by decide +kernel
theorem dX2_takeUp_2 : decode cX2_takeUp 2 = .ok (.iload_n 3, 1) := by decide +kernel
theorem dX2_takeUp_3 : decode cX2_takeUp 3 = .ok (.aload_n 1, 1) := by decide +kernel
theorem dX2_takeUp_4 : decode cX2_takeUp 4 = .ok (.getfield 18, 3) := by decide +kernel
theorem dX2_takeUp_7 : decode cX2_takeUp 7 = .ok (.if_icmp .ge 90, 3) := by decide +kernel
theorem dX2_takeUp_10 : decode cX2_takeUp 10 = .ok (.aload_n 0, 1) := by decide +kernel
theorem dX2_takeUp_11 : decode cX2_takeUp 11 = .ok (.getfield 9, 3) := by decide +kernel
theorem dX2_takeUp_14 : decode cX2_takeUp 14 = .ok (.iload_n 3, 1) := by decide +kernel
theorem dX2_takeUp_15 : decode cX2_takeUp 15 = .ok (.iconst 0, 1) := by decide +kernel
theorem dX2_takeUp_16 : decode cX2_takeUp 16 = .ok (.iastore, 1) := by decide +kernel
theorem dX2_takeUp_17 : decode cX2_takeUp 17 = .ok (.iconst 0, 1) := by decide +kernel
theorem dX2_takeUp_18 : decode cX2_takeUp 18 = .ok (.istore 4, 2) := by decide +kernel
theorem dX2_takeUp_20 : decode cX2_takeUp 20 = .ok (.iload 4, 2) := by decide +kernel
theorem dX2_takeUp_22 : decode cX2_takeUp 22 = .ok (.aload_n 1, 1) := by decide +kernel
theorem dX2_takeUp_23 : decode cX2_takeUp 23 = .ok (.getfield 18, 3) := by decide +kernel
theorem dX2_takeUp_26 : decode cX2_takeUp 26 = .ok (.if_icmp .ge 65, 3) := by decide +kernel
theorem dX2_takeUp_29 : decode cX2_takeUp 29 = .ok (.aload_n 1, 1) := by decide +kernel
theorem dX2_takeUp_30 : decode cX2_takeUp 30 = .ok (.iload_n 3, 1) := by decide +kernel
theorem dX2_takeUp_31 : decode cX2_takeUp 31 = .ok (.iload 4, 2) := by decide +kernel
theorem dX2_takeUp_33 : decode cX2_takeUp 33 = .ok (.invokevirtual 24, 3) := by decide +kernel
theorem dX2_takeUp_36 : decode cX2_takeUp 36 = .ok (.ifCond .eq 24, 3) := by decide +kernel
theorem dX2_takeUp_39 : decode cX2_takeUp 39 = .ok (.aload_n 2, 1) := by decide +kernel
theorem dX2_takeUp_40 : decode cX2_takeUp 40 = .ok (.iload_n 3, 1) := by decide +kernel
theorem dX2_takeUp_41 : decode cX2_takeUp 41 = .ok (.invokevirtual 28, 3) := by decide +kernel
theorem dX2_takeUp_44 : decode cX2_takeUp 44 = .ok (.ifCond .ne 16, 3) := by decide +kernel
theorem dX2_takeUp_47 : decode cX2_takeUp 47 = .ok (.aload_n 2, 1) := by decide +kernel
theorem dX2_takeUp_48 : decode cX2_takeUp 48 = .ok (.iload 4, 2) := by decide +kernel
theorem dX2_takeUp_50 : decode cX2_takeUp 50 = .ok (.invokevirtual 28, 3) := by decide +kernel
theorem dX2_takeUp_53 : decode cX2_takeUp 53 = .ok (.ifCond .ne 7, 3) := by decide +kernel
theorem dX2_takeUp_56 : decode cX2_takeUp 56 = .ok (.iconst 1, 1) := by decide +kernel
theorem dX2_takeUp_57 : decode cX2_takeUp 57 = .ok (.goto 4, 3) := by decide +kernel
theorem dX2_takeUp_60 : decode cX2_takeUp 60 = .ok (.iconst 0, 1) := by decide +kernel
theorem dX2_takeUp_61 : decode cX2_takeUp 61 = .ok (.istore 5, 2) := by decide +kernel
theorem dX2_takeUp_63 : decode cX2_takeUp 63 = .ok (.aload_n 0, 1) := by decide +kernel
theorem dX2_takeUp_64 : decode cX2_takeUp 64 = .ok (.getfield 9, 3) := by decide +kernel
theorem dX2_takeUp_67 : decode cX2_takeUp 67 = .ok (.iload_n 3, 1) := by decide +kernel
theorem dX2_takeUp_68 : decode cX2_takeUp 68 = .ok (.dup2, 1) := by decide +kernel
theorem dX2_takeUp_69 : decode cX2_takeUp 69 = .ok (.iaload, 1) := by decide +kernel
theorem dX2_takeUp_70 : decode cX2_takeUp 70 = .ok (.iload 5, 2) := by decide +kernel
theorem dX2_takeUp_72 : decode cX2_takeUp 72 = .ok (.ifCond .eq 10, 3) := by decide +kernel
theorem dX2_takeUp_75 : decode cX2_takeUp 75 = .ok (.iconst 1, 1) := by decide +kernel
theorem dX2_takeUp_76 : decode cX2_takeUp 76 = .ok (.iload 4, 2) := by decide +kernel
theorem dX2_takeUp_78 : decode cX2_takeUp 78 = .ok (.ishl, 1) := by decide +kernel
theorem dX2_takeUp_79 : decode cX2_takeUp 79 = .ok (.goto 4, 3) := by decide +kernel
theorem dX2_takeUp_82 : decode cX2_takeUp 82 = .ok (.iconst 0, 1) := by decide +kernel
theorem dX2_takeUp_83 : decode cX2_takeUp 83 = .ok (.ior, 1) := by decide +kernel
theorem dX2_takeUp_84 : decode cX2_takeUp 84 = .ok (.iastore, 1) := by decide +kernel
theorem dX2_takeUp_85 : decode cX2_takeUp 85 = .ok (.iinc 4 1, 3) := by decide +kernel
theorem dX2_takeUp_88 : decode cX2_takeUp 88 = .ok (.goto (-68), 3) := by decide +kernel
theorem dX2_takeUp_91 : decode cX2_takeUp 91 = .ok (.iinc 3 1, 3) := by decide +kernel
theorem dX2_takeUp_94 : decode cX2_takeUp 94 = .ok (.goto (-92), 3) := by decide +kernel
theorem dX2_takeUp_97 : decode cX2_takeUp 97 = .ok (.iconst 0, 1) := by decide +kernel
theorem dX2_takeUp_98 : decode cX2_takeUp 98 = .ok (.istore_n 3, 1) := by decide +kernel
theorem dX2_takeUp_99 : decode cX2_takeUp 99 = .ok (.iload_n 3, 1) := by decide +kernel
theorem dX2_takeUp_100 : decode cX2_takeUp 100 = .ok (.aload_n 1, 1) := by decide +kernel
theorem dX2_takeUp_101 : decode cX2_takeUp 101 = .ok (.getfield 18, 3) := by decide +kernel
theorem dX2_takeUp_104 : decode cX2_takeUp 104 = .ok (.if_icmp .ge 44, 3) := by decide +kernel
theorem dX2_takeUp_107 : decode cX2_takeUp 107 = .ok (.iconst 0, 1) := by decide +kernel
theorem dX2_takeUp_108 : decode cX2_takeUp 108 = .ok (.istore 4, 2) := by decide +kernel
theorem dX2_takeUp_110 : decode cX2_takeUp 110 = .ok (.iload 4, 2) := by decide +kernel
theorem dX2_takeUp_112 : decode cX2_takeUp 112 = .ok (.iconst 1, 1) := by decide +kernel
theorem dX2_takeUp_113 : decode cX2_takeUp 113 = .ok (.iload_n 3, 1) := by decide +kernel
theorem dX2_takeUp_114 : decode cX2_takeUp 114 = .ok (.ishl, 1) := by decide +kernel
theorem dX2_takeUp_115 : decode cX2_takeUp 115 = .ok (.if_icmp .ge 27, 3) := by decide +kernel
theorem dX2_takeUp_118 : decode cX2_takeUp 118 = .ok (.aload_n 0, 1) := by decide +kernel
theorem dX2_takeUp_119 : decode cX2_takeUp 119 = .ok (.getfield 15, 3) := by decide +kernel
theorem dX2_takeUp_122 : decode cX2_takeUp 122 = .ok (.iload 4, 2) := by decide +kernel
theorem dX2_takeUp_124 : decode cX2_takeUp 124 = .ok (.iconst 1, 1) := by decide +kernel
theorem dX2_takeUp_125 : decode cX2_takeUp 125 = .ok (.iload_n 3, 1) := by decide +kernel
theorem dX2_takeUp_126 : decode cX2_takeUp 126 = .ok (.ishl, 1) := by decide +kernel
theorem dX2_takeUp_127 : decode cX2_takeUp 127 = .ok (.iadd, 1) := by decide +kernel
theorem dX2_takeUp_128 : decode cX2_takeUp 128 = .ok (.aload_n 0, 1) := by decide +kernel
theorem dX2_takeUp_129 : decode cX2_takeUp 129 = .ok (.iload_n 3, 1) := by decide +kernel
theorem dX2_takeUp_130 : decode cX2_takeUp 130 = .ok (.iload 4, 2) := by decide +kernel
theorem dX2_takeUp_132 : decode cX2_takeUp 132 = .ok (.invokevirtual 34, 3) := by decide +kernel
theorem dX2_takeUp_135 : decode cX2_takeUp 135 = .ok (.iastore, 1) := by decide +kernel
theorem dX2_takeUp_136 : decode cX2_takeUp 136 = .ok (.iinc 4 1, 3) := by decide +kernel
theorem dX2_takeUp_139 : decode cX2_takeUp 139 = .ok (.goto (-29), 3) := by decide +kernel
theorem dX2_takeUp_142 : decode cX2_takeUp 142 = .ok (.iinc 3 1, 3) := by decide +kernel
theorem dX2_takeUp_145 : decode cX2_takeUp 145 = .ok (.goto (-46), 3) := by decide +kernel
theorem dX2_takeUp_148 : decode cX2_takeUp 148 = .ok (.aload_n 0, 1) := by decide +kernel
theorem dX2_takeUp_149 : decode cX2_takeUp 149 = .ok (.aload_n 0, 1) := by decide +kernel
theorem dX2_takeUp_150 : decode cX2_takeUp 150 = .ok (.getfield 15, 3) := by decide +kernel
theorem dX2_takeUp_153 : decode cX2_takeUp 153 = .ok (.iconst 1, 1) := by decide +kernel
theorem dX2_takeUp_154 : decode cX2_takeUp 154 = .ok (.aload_n 1, 1) := by decide +kernel
theorem dX2_takeUp_155 : decode cX2_takeUp 155 = .ok (.getfield 18, 3) := by decide +kernel
theorem dX2_takeUp_158 : decode cX2_takeUp 158 = .ok (.ishl, 1) := by decide +kernel
theorem dX2_takeUp_159 : decode cX2_takeUp 159 = .ok (.iconst 1, 1) := by decide +kernel
theorem dX2_takeUp_160 : decode cX2_takeUp 160 = .ok (.isub, 1) := by decide +kernel
theorem dX2_takeUp_161 : decode cX2_takeUp 161 = .ok (.iaload, 1) := by decide +kernel
theorem dX2_takeUp_162 : decode cX2_takeUp 162 = .ok (.putfield 38, 3) := by decide +kernel
theorem dX2_takeUp_165 : decode cX2_takeUp 165 = .ok (.aload_n 0, 1) := by decide +kernel
theorem dX2_takeUp_166 : decode cX2_takeUp 166 = .ok (.aload_n 1, 1) := by decide +kernel
theorem dX2_takeUp_167 : decode cX2_takeUp 167 = .ok (.getfield 18, 3) := by decide +kernel
theorem dX2_takeUp_170 : decode cX2_takeUp 170 = .ok (.invokevirtual 41, 3) := by decide +kernel
theorem dX2_takeUp_173 : decode cX2_takeUp 173 = .ok (.return_, 1) := by decide +kernel
set_option maxRecDepth 20000 in
theorem ggX2_mostWith_X10_bitOf : GoodIn wsX2_mostWith wsX10_bitOf := goodIn_r _ [9] (by decide +kernel) (by decide +kernel)
set_option maxRecDepth 20000 in
theorem gX2_mostWith_X10_bitOf_n45 : GoodIn wsX2_mostWith (wsX10_bitOf) := ggX2_mostWith_X10_bitOf
theorem dX2_mostWith_0 : decode cX2_mostWith 0 = .ok (.aload_n 0, 1) := by decide +kernel
theorem dX2_mostWith_1 : decode cX2_mostWith 1 = .ok (.getfield 15, 3) := by decide +kernel
theorem dX2_mostWith_4 : decode cX2_mostWith 4 = .ok (.iload_n 2, 1) := by decide +kernel
theorem dX2_mostWith_5 : decode cX2_mostWith 5 = .ok (.iaload, 1) := by decide +kernel
theorem dX2_mostWith_6 : decode cX2_mostWith 6 = .ok (.istore_n 3, 1) := by decide +kernel
theorem dX2_mostWith_7 : decode cX2_mostWith 7 = .ok (.iconst 0, 1) := by decide +kernel
theorem dX2_mostWith_8 : decode cX2_mostWith 8 = .ok (.istore 4, 2) := by decide +kernel
theorem dX2_mostWith_10 : decode cX2_mostWith 10 = .ok (.iload 4, 2) := by decide +kernel
theorem dX2_mostWith_12 : decode cX2_mostWith 12 = .ok (.iload_n 1, 1) := by decide +kernel
theorem dX2_mostWith_13 : decode cX2_mostWith 13 = .ok (.if_icmp .ge 44, 3) := by decide +kernel
theorem dX2_mostWith_16 : decode cX2_mostWith 16 = .ok (.iload_n 2, 1) := by decide +kernel
theorem dX2_mostWith_17 : decode cX2_mostWith 17 = .ok (.aload_n 0, 1) := by decide +kernel
theorem dX2_mostWith_18 : decode cX2_mostWith 18 = .ok (.getfield 9, 3) := by decide +kernel
theorem dX2_mostWith_21 : decode cX2_mostWith 21 = .ok (.iload_n 1, 1) := by decide +kernel
theorem dX2_mostWith_22 : decode cX2_mostWith 22 = .ok (.iaload, 1) := by decide +kernel
theorem dX2_mostWith_23 : decode cX2_mostWith 23 = .ok (.iand, 1) := by decide +kernel
theorem dX2_mostWith_24 : decode cX2_mostWith 24 = .ok (.iload 4, 2) := by decide +kernel
theorem dX2_mostWith_26 : decode cX2_mostWith 26 = .ok (.invokestatic 45, 3) := by decide +kernel
theorem dX2_mostWith_29 : decode cX2_mostWith 29 = .ok (.iconst 1, 1) := by decide +kernel
theorem dX2_mostWith_30 : decode cX2_mostWith 30 = .ok (.if_icmp .ne 21, 3) := by decide +kernel
theorem dX2_mostWith_33 : decode cX2_mostWith 33 = .ok (.iload_n 3, 1) := by decide +kernel
theorem dX2_mostWith_34 : decode cX2_mostWith 34 = .ok (.iconst 1, 1) := by decide +kernel
theorem dX2_mostWith_35 : decode cX2_mostWith 35 = .ok (.aload_n 0, 1) := by decide +kernel
theorem dX2_mostWith_36 : decode cX2_mostWith 36 = .ok (.getfield 15, 3) := by decide +kernel
theorem dX2_mostWith_39 : decode cX2_mostWith 39 = .ok (.iload_n 2, 1) := by decide +kernel
theorem dX2_mostWith_40 : decode cX2_mostWith 40 = .ok (.iconst 1, 1) := by decide +kernel
theorem dX2_mostWith_41 : decode cX2_mostWith 41 = .ok (.iload 4, 2) := by decide +kernel
theorem dX2_mostWith_43 : decode cX2_mostWith 43 = .ok (.ishl, 1) := by decide +kernel
theorem dX2_mostWith_44 : decode cX2_mostWith 44 = .ok (.isub, 1) := by decide +kernel
theorem dX2_mostWith_45 : decode cX2_mostWith 45 = .ok (.iaload, 1) := by decide +kernel
theorem dX2_mostWith_46 : decode cX2_mostWith 46 = .ok (.iadd, 1) := by decide +kernel
theorem dX2_mostWith_47 : decode cX2_mostWith 47 = .ok (.invokestatic 48, 3) := by decide +kernel
theorem dX2_mostWith_50 : decode cX2_mostWith 50 = .ok (.istore_n 3, 1) := by decide +kernel
theorem dX2_mostWith_51 : decode cX2_mostWith 51 = .ok (.iinc 4 1, 3) := by decide +kernel
theorem dX2_mostWith_54 : decode cX2_mostWith 54 = .ok (.goto (-44), 3) := by decide +kernel
theorem dX2_mostWith_57 : decode cX2_mostWith 57 = .ok (.iload_n 3, 1) := by decide +kernel
theorem dX2_mostWith_58 : decode cX2_mostWith 58 = .ok (.ireturn, 1) := by decide +kernel
set_option maxRecDepth 20000 in
theorem ggX2_findFirstPair_X10_bitOf : GoodIn wsX2_findFirstPair wsX10_bitOf := goodIn_r _ [8] (by decide +kernel) (by decide +kernel)
set_option maxRecDepth 20000 in
theorem gX2_findFirstPair_X10_bitOf_n45 : GoodIn wsX2_findFirstPair (wsX10_bitOf) := ggX2_findFirstPair_X10_bitOf
theorem dX2_findFirstPair_0 : decode cX2_findFirstPair 0 = .ok (.aload_n 0, 1) := by decide +kernel
theorem dX2_findFirstPair_1 : decode cX2_findFirstPair 1 = .ok (.iconst (-1), 1) := by decide +kernel
theorem dX2_findFirstPair_2 : decode cX2_findFirstPair 2 = .ok (.putfield 53, 3) := by decide +kernel
theorem dX2_findFirstPair_5 : decode cX2_findFirstPair 5 = .ok (.aload_n 0, 1) := by decide +kernel
theorem dX2_findFirstPair_6 : decode cX2_findFirstPair 6 = .ok (.iconst (-1), 1) := by decide +kernel
theorem dX2_findFirstPair_7 : decode cX2_findFirstPair 7 = .ok (.putfield 56, 3) := by decide +kernel
theorem dX2_findFirstPair_10 : decode cX2_findFirstPair 10 = .ok (.iconst 0, 1) := by decide +kernel
theorem dX2_findFirstPair_11 : decode cX2_findFirstPair 11 = .ok (.istore_n 2, 1) := by decide +kernel
theorem dX2_findFirstPair_12 : decode cX2_findFirstPair 12 = .ok (.iload_n 2, 1) := by decide +kernel
theorem dX2_findFirstPair_13 : decode cX2_findFirstPair 13 = .ok (.iload_n 1, 1) := by decide +kernel
theorem dX2_findFirstPair_14 : decode cX2_findFirstPair 14 = .ok (.if_icmp .ge 96, 3) := by decide +kernel
theorem dX2_findFirstPair_17 : decode cX2_findFirstPair 17 = .ok (.iconst 1, 1) := by decide +kernel
theorem dX2_findFirstPair_18 : decode cX2_findFirstPair 18 = .ok (.iload_n 1, 1) := by decide +kernel
theorem dX2_findFirstPair_19 : decode cX2_findFirstPair 19 = .ok (.ishl, 1) := by decide +kernel
theorem dX2_findFirstPair_20 : decode cX2_findFirstPair 20 = .ok (.iconst 1, 1) := by decide +kernel
theorem dX2_findFirstPair_21 : decode cX2_findFirstPair 21 = .ok (.isub, 1) := by decide +kernel
theorem dX2_findFirstPair_22 : decode cX2_findFirstPair 22 = .ok (.iconst 2, 1) := by decide +kernel
theorem dX2_findFirstPair_23 : decode cX2_findFirstPair 23 = .ok (.iload_n 2, 1) := by decide +kernel
theorem dX2_findFirstPair_24 : decode cX2_findFirstPair 24 = .ok (.ishl, 1) := by decide +kernel
theorem dX2_findFirstPair_25 : decode cX2_findFirstPair 25 = .ok (.ineg, 1) := by decide +kernel
theorem dX2_findFirstPair_26 : decode cX2_findFirstPair 26 = .ok (.iand, 1) := by decide +kernel
theorem dX2_findFirstPair_27 : decode cX2_findFirstPair 27 = .ok (.istore_n 3, 1) := by decide +kernel
theorem dX2_findFirstPair_28 : decode cX2_findFirstPair 28 = .ok (.iload_n 2, 1) := by decide +kernel
theorem dX2_findFirstPair_29 : decode cX2_findFirstPair 29 = .ok (.iconst 1, 1) := by decide +kernel
theorem dX2_findFirstPair_30 : decode cX2_findFirstPair 30 = .ok (.iadd, 1) := by decide +kernel
theorem dX2_findFirstPair_31 : decode cX2_findFirstPair 31 = .ok (.istore 4, 2) := by decide +kernel
theorem dX2_findFirstPair_33 : decode cX2_findFirstPair 33 = .ok (.iload 4, 2) := by decide +kernel
theorem dX2_findFirstPair_35 : decode cX2_findFirstPair 35 = .ok (.iload_n 1, 1) := by decide +kernel
theorem dX2_findFirstPair_36 : decode cX2_findFirstPair 36 = .ok (.if_icmp .ge 68, 3) := by decide +kernel
theorem dX2_findFirstPair_39 : decode cX2_findFirstPair 39 = .ok (.aload_n 0, 1) := by decide +kernel
theorem dX2_findFirstPair_40 : decode cX2_findFirstPair 40 = .ok (.getfield 9, 3) := by decide +kernel
theorem dX2_findFirstPair_43 : decode cX2_findFirstPair 43 = .ok (.iload_n 2, 1) := by decide +kernel
theorem dX2_findFirstPair_44 : decode cX2_findFirstPair 44 = .ok (.iaload, 1) := by decide +kernel
theorem dX2_findFirstPair_45 : decode cX2_findFirstPair 45 = .ok (.iload 4, 2) := by decide +kernel
theorem dX2_findFirstPair_47 : decode cX2_findFirstPair 47 = .ok (.invokestatic 45, 3) := by decide +kernel
theorem dX2_findFirstPair_50 : decode cX2_findFirstPair 50 = .ok (.iconst 1, 1) := by decide +kernel
theorem dX2_findFirstPair_51 : decode cX2_findFirstPair 51 = .ok (.if_icmp .ne 7, 3) := by decide +kernel
theorem dX2_findFirstPair_54 : decode cX2_findFirstPair 54 = .ok (.iconst 1, 1) := by decide +kernel
theorem dX2_findFirstPair_55 : decode cX2_findFirstPair 55 = .ok (.goto 4, 3) := by decide +kernel
theorem dX2_findFirstPair_58 : decode cX2_findFirstPair 58 = .ok (.iconst 0, 1) := by decide +kernel
theorem dX2_findFirstPair_59 : decode cX2_findFirstPair 59 = .ok (.istore 5, 2) := by decide +kernel
theorem dX2_findFirstPair_61 : decode cX2_findFirstPair 61 = .ok (.iload 5, 2) := by decide +kernel
theorem dX2_findFirstPair_63 : decode cX2_findFirstPair 63 = .ok (.ifCond .eq 35, 3) := by decide +kernel
theorem dX2_findFirstPair_66 : decode cX2_findFirstPair 66 = .ok (.iconst 1, 1) := by decide +kernel
theorem dX2_findFirstPair_67 : decode cX2_findFirstPair 67 = .ok (.aload_n 0, 1) := by decide +kernel
theorem dX2_findFirstPair_68 : decode cX2_findFirstPair 68 = .ok (.getfield 15, 3) := by decide +kernel
theorem dX2_findFirstPair_71 : decode cX2_findFirstPair 71 = .ok (.iload_n 3, 1) := by decide +kernel
theorem dX2_findFirstPair_72 : decode cX2_findFirstPair 72 = .ok (.iconst 1, 1) := by decide +kernel
theorem dX2_findFirstPair_73 : decode cX2_findFirstPair 73 = .ok (.iload 4, 2) := by decide +kernel
theorem dX2_findFirstPair_75 : decode cX2_findFirstPair 75 = .ok (.ishl, 1) := by decide +kernel
theorem dX2_findFirstPair_76 : decode cX2_findFirstPair 76 = .ok (.isub, 1) := by decide +kernel
theorem dX2_findFirstPair_77 : decode cX2_findFirstPair 77 = .ok (.iaload, 1) := by decide +kernel
theorem dX2_findFirstPair_78 : decode cX2_findFirstPair 78 = .ok (.iadd, 1) := by decide +kernel
theorem dX2_findFirstPair_79 : decode cX2_findFirstPair 79 = .ok (.aload_n 0, 1) := by decide +kernel
theorem dX2_findFirstPair_80 : decode cX2_findFirstPair 80 = .ok (.getfield 38, 3) := by decide +kernel
theorem dX2_findFirstPair_83 : decode cX2_findFirstPair 83 = .ok (.if_icmp .ne 15, 3) := by decide +kernel
theorem dX2_findFirstPair_86 : decode cX2_findFirstPair 86 = .ok (.aload_n 0, 1) := by decide +kernel
theorem dX2_findFirstPair_87 : decode cX2_findFirstPair 87 = .ok (.iload_n 2, 1) := by decide +kernel
theorem dX2_findFirstPair_88 : decode cX2_findFirstPair 88 = .ok (.putfield 53, 3) := by decide +kernel
theorem dX2_findFirstPair_91 : decode cX2_findFirstPair 91 = .ok (.aload_n 0, 1) := by decide +kernel
theorem dX2_findFirstPair_92 : decode cX2_findFirstPair 92 = .ok (.iload 4, 2) := by decide +kernel
theorem dX2_findFirstPair_94 : decode cX2_findFirstPair 94 = .ok (.putfield 56, 3) := by decide +kernel
theorem dX2_findFirstPair_97 : decode cX2_findFirstPair 97 = .ok (.return_, 1) := by decide +kernel
theorem dX2_findFirstPair_98 : decode cX2_findFirstPair 98 = .ok (.iinc 4 1, 3) := by decide +kernel
theorem dX2_findFirstPair_101 : decode cX2_findFirstPair 101 = .ok (.goto (-68), 3) := by decide +kernel
theorem dX2_findFirstPair_104 : decode cX2_findFirstPair 104 = .ok (.iinc 2 1, 3) := by decide +kernel
theorem dX2_findFirstPair_107 : decode cX2_findFirstPair 107 = .ok (.goto (-95), 3) := by decide +kernel
theorem dX2_findFirstPair_110 : decode cX2_findFirstPair 110 = .ok (.return_, 1) := by decide +kernel
theorem dX3_init_0 : decode cX3_init 0 = .ok (.aload_n 0, 1) := by decide +kernel
theorem dX3_init_1 : decode cX3_init 1 = .ok (.invokespecial 3, 3) := by decide +kernel
theorem dX3_init_4 : decode cX3_init 4 = .ok (.aload_n 0, 1) := by decide +kernel
theorem dX3_init_5 : decode cX3_init 5 = .ok (.iconst 5, 1) := by decide +kernel
theorem dX3_init_6 : decode cX3_init 6 = .ok (.newarray .int, 2) := by decide +kernel
theorem dX3_init_8 : decode cX3_init 8 = .ok (.putfield 9, 3) := by decide +kernel
theorem dX3_init_11 : decode cX3_init 11 = .ok (.aload_n 0, 1) := by decide +kernel
theorem dX3_init_12 : decode cX3_init 12 = .ok (.iconst 5, 1) := by decide +kernel
theorem dX3_init_13 : decode cX3_init 13 = .ok (.newarray .int, 2) := by decide +kernel
theorem dX3_init_15 : decode cX3_init 15 = .ok (.putfield 15, 3) := by decide +kernel
theorem dX3_init_18 : decode cX3_init 18 = .ok (.aload_n 0, 1) := by decide +kernel
theorem dX3_init_19 : decode cX3_init 19 = .ok (.bipush 6, 2) := by decide +kernel
theorem dX3_init_21 : decode cX3_init 21 = .ok (.newarray .int, 2) := by decide +kernel
theorem dX3_init_23 : decode cX3_init 23 = .ok (.putfield 18, 3) := by decide +kernel
theorem dX3_init_26 : decode cX3_init 26 = .ok (.return_, 1) := by decide +kernel
set_option maxRecDepth 20000 in
theorem ggX3_beginAnew_J7_fill_53178 : GoodIn wsX3_beginAnew wsJ7_fill_53178 := goodIn_r _ [14] (by decide +kernel) (by decide +kernel)
set_option maxRecDepth 20000 in
theorem gX3_beginAnew_J7_fill_53178 : GoodIn wsX3_beginAnew (va_wsS RX3 43 yJ7_fill_53178 wsJ7_fill_53178) := goodIn_app (goodIn_of _ (by decide +kernel)) ggX3_beginAnew_J7_fill_53178
theorem dX3_beginAnew_0 : decode cX3_beginAnew 0 = .ok (.aload_n 0, 1) := by decide +kernel
theorem dX3_beginAnew_1 : decode cX3_beginAnew 1 = .ok (.iconst 0, 1) := by decide +kernel
theorem dX3_beginAnew_2 : decode cX3_beginAnew 2 = .ok (.putfield 21, 3) := by decide +kernel
theorem dX3_beginAnew_5 : decode cX3_beginAnew 5 = .ok (.aload_n 0, 1) := by decide +kernel
theorem dX3_beginAnew_6 : decode cX3_beginAnew 6 = .ok (.iconst 0, 1) := by decide +kernel
theorem dX3_beginAnew_7 : decode cX3_beginAnew 7 = .ok (.putfield 25, 3) := by decide +kernel
theorem dX3_beginAnew_10 : decode cX3_beginAnew 10 = .ok (.aload_n 0, 1) := by decide +kernel
theorem dX3_beginAnew_11 : decode cX3_beginAnew 11 = .ok (.iconst 0, 1) := by decide +kernel
theorem dX3_beginAnew_12 : decode cX3_beginAnew 12 = .ok (.putfield 28, 3) := by decide +kernel
theorem dX3_beginAnew_15 : decode cX3_beginAnew 15 = .ok (.aload_n 0, 1) := by decide +kernel
theorem dX3_beginAnew_16 : decode cX3_beginAnew 16 = .ok (.iconst 0, 1) := by decide +kernel
theorem dX3_beginAnew_17 : decode cX3_beginAnew 17 = .ok (.putfield 31, 3) := by decide +kernel
theorem dX3_beginAnew_20 : decode cX3_beginAnew 20 = .ok (.aload_n 0, 1) := by decide +kernel
theorem dX3_beginAnew_21 : decode cX3_beginAnew 21 = .ok (.iconst 0, 1) := by decide +kernel
theorem dX3_beginAnew_22 : decode cX3_beginAnew 22 = .ok (.putfield 34, 3) := by decide +kernel
theorem dX3_beginAnew_25 : decode cX3_beginAnew 25 = .ok (.aload_n 0, 1) := by decide +kernel
theorem dX3_beginAnew_26 : decode cX3_beginAnew 26 = .ok (.iconst 0, 1) := by decide +kernel
theorem dX3_beginAnew_27 : decode cX3_beginAnew 27 = .ok (.putfield 37, 3) := by decide +kernel
theorem dX3_beginAnew_30 : decode cX3_beginAnew 30 = .ok (.aload_n 0, 1) := by decide +kernel
theorem dX3_beginAnew_31 : decode cX3_beginAnew 31 = .ok (.iconst 0, 1) := by decide +kernel
theorem dX3_beginAnew_32 : decode cX3_beginAnew 32 = .ok (.putfield 40, 3) := by decide +kernel
theorem dX3_beginAnew_35 : decode cX3_beginAnew 35 = .ok (.aload_n 0, 1) := by decide +kernel
theorem dX3_beginAnew_36 : decode cX3_beginAnew 36 = .ok (.getfield 9, 3) := by decide +kernel
theorem dX3_beginAnew_39 : decode cX3_beginAnew 39 = .ok (.iload_n 1, 1) := by decide +kernel
theorem dX3_beginAnew_40 : decode cX3_beginAnew 40 = .ok (.invokestatic 43, 3) := by decide +kernel
theorem dX3_beginAnew_43 : decode cX3_beginAnew 43 = .ok (.aload_n 0, 1) := by decide +kernel
theorem dX3_beginAnew_44 : decode cX3_beginAnew 44 = .ok (.getfield 15, 3) := by decide +kernel
theorem dX3_beginAnew_47 : decode cX3_beginAnew 47 = .ok (.iconst (-1), 1) := by decide +kernel
theorem dX3_beginAnew_48 : decode cX3_beginAnew 48 = .ok (.invokestatic 43, 3) := by decide +kernel
theorem dX3_beginAnew_51 : decode cX3_beginAnew 51 = .ok (.aload_n 0, 1) := by decide +kernel
theorem dX3_beginAnew_52 : decode cX3_beginAnew 52 = .ok (.getfield 18, 3) := by decide +kernel
theorem dX3_beginAnew_55 : decode cX3_beginAnew 55 = .ok (.iconst 0, 1) := by decide +kernel
theorem dX3_beginAnew_56 : decode cX3_beginAnew 56 = .ok (.invokestatic 43, 3) := by decide +kernel
theorem dX3_beginAnew_59 : decode cX3_beginAnew 59 = .ok (.return_, 1) := by decide +kernel
theorem dX3_copyFrom_0 : decode cX3_copyFrom 0 = .ok (.aload_n 0, 1) := by decide +kernel
theorem dX3_copyFrom_1 : decode cX3_copyFrom 1 = .ok (.aload_n 1, 1) := by decide +kernel
theorem dX3_copyFrom_2 : decode cX3_copyFrom 2 = .ok (.getfield 21, 3) := by decide +kernel
theorem dX3_copyFrom_5 : decode cX3_copyFrom 5 = .ok (.putfield 21, 3) := by decide +kernel
theorem dX3_copyFrom_8 : decode cX3_copyFrom 8 = .ok (.aload_n 0, 1) := by decide +kernel
theorem dX3_copyFrom_9 : decode cX3_copyFrom 9 = .ok (.aload_n 1, 1) := by decide +kernel
theorem dX3_copyFrom_10 : decode cX3_copyFrom 10 = .ok (.getfield 25, 3) := by decide +kernel
theorem dX3_copyFrom_13 : decode cX3_copyFrom 13 = .ok (.putfield 25, 3) := by decide +kernel
theorem dX3_copyFrom_16 : decode cX3_copyFrom 16 = .ok (.aload_n 0, 1) := by decide +kernel
theorem dX3_copyFrom_17 : decode cX3_copyFrom 17 = .ok (.aload_n 1, 1) := by decide +kernel
theorem dX3_copyFrom_18 : decode cX3_copyFrom 18 = .ok (.getfield 28, 3) := by decide +kernel
theorem dX3_copyFrom_21 : decode cX3_copyFrom 21 = .ok (.putfield 28, 3) := by decide +kernel
theorem dX3_copyFrom_24 : decode cX3_copyFrom 24 = .ok (.aload_n 0, 1) := by decide +kernel
theorem dX3_copyFrom_25 : decode cX3_copyFrom 25 = .ok (.aload_n 1, 1) := by decide +kernel
theorem dX3_copyFrom_26 : decode cX3_copyFrom 26 = .ok (.getfield 31, 3) := by decide +kernel
theorem dX3_copyFrom_29 : decode cX3_copyFrom 29 = .ok (.putfield 31, 3) := by decide +kernel
theorem dX3_copyFrom_32 : decode cX3_copyFrom 32 = .ok (.aload_n 0, 1) := by decide +kernel
theorem dX3_copyFrom_33 : decode cX3_copyFrom 33 = .ok (.aload_n 1, 1) := by decide +kernel
theorem dX3_copyFrom_34 : decode cX3_copyFrom 34 = .ok (.getfield 34, 3) := by decide +kernel
theorem dX3_copyFrom_37 : decode cX3_copyFrom 37 = .ok (.putfield 34, 3) := by decide +kernel
theorem dX3_copyFrom_40 : decode cX3_copyFrom 40 = .ok (.aload_n 0, 1) := by decide +kernel
theorem dX3_copyFrom_41 : decode cX3_copyFrom 41 = .ok (.aload_n 1, 1) := by decide +kernel
theorem dX3_copyFrom_42 : decode cX3_copyFrom 42 = .ok (.getfield 37, 3) := by decide +kernel
theorem dX3_copyFrom_45 : decode cX3_copyFrom 45 = .ok (.putfield 37, 3) := by decide +kernel
theorem dX3_copyFrom_48 : decode cX3_copyFrom 48 = .ok (.aload_n 0, 1) := by decide +kernel
theorem dX3_copyFrom_49 : decode cX3_copyFrom 49 = .ok (.aload_n 1, 1) := by decide +kernel
theorem dX3_copyFrom_50 : decode cX3_copyFrom 50 = .ok (.getfield 40, 3) := by decide +kernel
theorem dX3_copyFrom_53 : decode cX3_copyFrom 53 = .ok (.putfield 40, 3) := by decide +kernel
theorem dX3_copyFrom_56 : decode cX3_copyFrom 56 = .ok (.aload_n 1, 1) := by decide +kernel
theorem dX3_copyFrom_57 : decode cX3_copyFrom 57 = .ok (.getfield 9, 3) := by decide +kernel
theorem dX3_copyFrom_60 : decode cX3_copyFrom 60 = .ok (.iconst 0, 1) := by decide +kernel
theorem dX3_copyFrom_61 : decode cX3_copyFrom 61 = .ok (.aload_n 0, 1) := by decide +kernel
theorem dX3_copyFrom_62 : decode cX3_copyFrom 62 = .ok (.getfield 9, 3) := by decide +kernel
theorem dX3_copyFrom_65 : decode cX3_copyFrom 65 = .ok (.iconst 0, 1) := by decide +kernel
theorem dX3_copyFrom_66 : decode cX3_copyFrom 66 = .ok (.iconst 5, 1) := by decide +kernel
theorem dX3_copyFrom_67 : decode cX3_copyFrom 67 = .ok (.invokestatic 49, 3) := by decide +kernel
theorem dX3_copyFrom_70 : decode cX3_copyFrom 70 = .ok (.aload_n 1, 1) := by decide +kernel
theorem dX3_copyFrom_71 : decode cX3_copyFrom 71 = .ok (.getfield 15, 3) := by decide +kernel
theorem dX3_copyFrom_74 : decode cX3_copyFrom 74 = .ok (.iconst 0, 1) := by decide +kernel
theorem dX3_copyFrom_75 : decode cX3_copyFrom 75 = .ok (.aload_n 0, 1) := by decide +kernel
theorem dX3_copyFrom_76 : decode cX3_copyFrom 76 = .ok (.getfield 15, 3) := by decide +kernel
theorem dX3_copyFrom_79 : decode cX3_copyFrom 79 = .ok (.iconst 0, 1) := by decide +kernel
theorem dX3_copyFrom_80 : decode cX3_copyFrom 80 = .ok (.iconst 5, 1) := by decide +kernel
theorem dX3_copyFrom_81 : decode cX3_copyFrom 81 = .ok (.invokestatic 49, 3) := by decide +kernel
theorem dX3_copyFrom_84 : decode cX3_copyFrom 84 = .ok (.aload_n 1, 1) := by decide +kernel
theorem dX3_copyFrom_85 : decode cX3_copyFrom 85 = .ok (.getfield 18, 3) := by decide +kernel
theorem dX3_copyFrom_88 : decode cX3_copyFrom 88 = .ok (.iconst 0, 1) := by decide +kernel
theorem dX3_copyFrom_89 : decode cX3_copyFrom 89 = .ok (.aload_n 0, 1) := by decide +kernel
theorem dX3_copyFrom_90 : decode cX3_copyFrom 90 = .ok (.getfield 18, 3) := by decide +kernel
theorem dX3_copyFrom_93 : decode cX3_copyFrom 93 = .ok (.iconst 0, 1) := by decide +kernel
theorem dX3_copyFrom_94 : decode cX3_copyFrom 94 = .ok (.bipush 6, 2) := by decide +kernel
theorem dX3_copyFrom_96 : decode cX3_copyFrom 96 = .ok (.invokestatic 49, 3) := by decide +kernel
theorem dX3_copyFrom_99 : decode cX3_copyFrom 99 = .ok (.return_, 1) := by decide +kernel
theorem dX3_isMarried_0 : decode cX3_isMarried 0 = .ok (.aload_n 0, 1) := by decide +kernel
theorem dX3_isMarried_1 : decode cX3_isMarried 1 = .ok (.getfield 15, 3) := by decide +kernel
theorem dX3_isMarried_4 : decode cX3_isMarried 4 = .ok (.iload_n 1, 1) := by decide +kernel
theorem dX3_isMarried_5 : decode cX3_isMarried 5 = .ok (.iaload, 1) := by decide +kernel
theorem dX3_isMarried_6 : decode cX3_isMarried 6 = .ok (.iconst (-1), 1) := by decide +kernel
theorem dX3_isMarried_7 : decode cX3_isMarried 7 = .ok (.if_icmp .eq 7, 3) := by decide +kernel
theorem dX3_isMarried_10 : decode cX3_isMarried 10 = .ok (.iconst 1, 1) := by decide +kernel
theorem dX3_isMarried_11 : decode cX3_isMarried 11 = .ok (.goto 4, 3) := by decide +kernel
theorem dX3_isMarried_14 : decode cX3_isMarried 14 = .ok (.iconst 0, 1) := by decide +kernel
theorem dX3_isMarried_15 : decode cX3_isMarried 15 = .ok (.ireturn, 1) := by decide +kernel
theorem dX3_holdingBits_0 : decode cX3_holdingBits 0 = .ok (.iconst 0, 1) := by decide +kernel
theorem dX3_holdingBits_1 : decode cX3_holdingBits 1 = .ok (.istore_n 2, 1) := by decide +kernel
theorem dX3_holdingBits_2 : decode cX3_holdingBits 2 = .ok (.iconst 0, 1) := by decide +kernel
theorem dX3_holdingBits_3 : decode cX3_holdingBits 3 = .ok (.istore_n 3, 1) := by decide +kernel
theorem dX3_holdingBits_4 : decode cX3_holdingBits 4 = .ok (.iload_n 3, 1) := by decide +kernel
theorem dX3_holdingBits_5 : decode cX3_holdingBits 5 = .ok (.iload_n 1, 1) := by decide +kernel
theorem dX3_holdingBits_6 : decode cX3_holdingBits 6 = .ok (.if_icmp .ge 24, 3) := by decide +kernel
theorem dX3_holdingBits_9 : decode cX3_holdingBits 9 = .ok (.aload_n 0, 1) := by decide +kernel
theorem dX3_holdingBits_10 : decode cX3_holdingBits 10 = .ok (.getfield 18, 3) := by decide +kernel
theorem dX3_holdingBits_13 : decode cX3_holdingBits 13 = .ok (.iload_n 3, 1) := by decide +kernel
theorem dX3_holdingBits_14 : decode cX3_holdingBits 14 = .ok (.iaload, 1) := by decide +kernel
theorem dX3_holdingBits_15 : decode cX3_holdingBits 15 = .ok (.ifCond .le 9, 3) := by decide +kernel
theorem dX3_holdingBits_18 : decode cX3_holdingBits 18 = .ok (.iload_n 2, 1) := by decide +kernel
theorem dX3_holdingBits_19 : decode cX3_holdingBits 19 = .ok (.iconst 1, 1) := by decide +kernel
theorem dX3_holdingBits_20 : decode cX3_holdingBits 20 = .ok (.iload_n 3, 1) := by decide +kernel
theorem dX3_holdingBits_21 : decode cX3_holdingBits 21 = .ok (.ishl, 1) := by decide +kernel
theorem dX3_holdingBits_22 : decode cX3_holdingBits 22 = .ok (.ior, 1) := by decide +kernel
theorem dX3_holdingBits_23 : decode cX3_holdingBits 23 = .ok (.istore_n 2, 1) := by decide +kernel
theorem dX3_holdingBits_24 : decode cX3_holdingBits 24 = .ok (.iinc 3 1, 3) := by decide +kernel
theorem dX3_holdingBits_27 : decode cX3_holdingBits 27 = .ok (.goto (-23), 3) := by decide +kernel
theorem dX3_holdingBits_30 : decode cX3_holdingBits 30 = .ok (.iload_n 2, 1) := by decide +kernel
theorem dX3_holdingBits_31 : decode cX3_holdingBits 31 = .ok (.ireturn, 1) := by decide +kernel
set_option maxRecDepth 20000 in
theorem ggX3_letCenturyGo_J7_fill_53178 : GoodIn wsX3_letCenturyGo wsJ7_fill_53178 := goodIn_r _ [14] (by decide +kernel) (by decide +kernel)
set_option maxRecDepth 20000 in
theorem gX3_letCenturyGo_J7_fill_53178 : GoodIn wsX3_letCenturyGo (va_wsS RX3 43 yJ7_fill_53178 wsJ7_fill_53178) := goodIn_app (goodIn_of _ (by decide +kernel)) ggX3_letCenturyGo_J7_fill_53178
set_option maxRecDepth 20000 in
theorem ggX3_letCenturyGo_X3_letWorksFall : GoodIn wsX3_letCenturyGo wsX3_letWorksFall := goodIn_r _ [19, 20, 21, 22, 23, 24, 25, 26, 27, 18, 28, 29, 30, 31, 32, 33, 34, 35, 36, 37, 38] (by decide +kernel) (by decide +kernel)
set_option maxRecDepth 20000 in
theorem gX3_letCenturyGo_X3_letWorksFall : GoodIn wsX3_letCenturyGo (wsV RX3 70 RX3 yX3_letWorksFall wsX3_letWorksFall) := goodIn_app (goodIn_of _ (by decide +kernel)) ggX3_letCenturyGo_X3_letWorksFall
theorem dX3_letCenturyGo_0 : decode cX3_letCenturyGo 0 = .ok (.iload_n 2, 1) := by decide +kernel
theorem dX3_letCenturyGo_1 : decode cX3_letCenturyGo 1 = .ok (.iload_n 2, 1) := by decide +kernel
theorem dX3_letCenturyGo_2 : decode cX3_letCenturyGo 2 = .ok (.imul, 1) := by decide +kernel
theorem dX3_letCenturyGo_3 : decode cX3_letCenturyGo 3 = .ok (.bipush 31, 2) := by decide +kernel
theorem dX3_letCenturyGo_5 : decode cX3_letCenturyGo 5 = .ok (.iload_n 2, 1) := by decide +kernel
theorem dX3_letCenturyGo_6 : decode cX3_letCenturyGo 6 = .ok (.imul, 1) := by decide +kernel
theorem dX3_letCenturyGo_7 : decode cX3_letCenturyGo 7 = .ok (.iadd, 1) := by decide +kernel
theorem dX3_letCenturyGo_8 : decode cX3_letCenturyGo 8 = .ok (.bipush 17, 2) := by decide +kernel
theorem dX3_letCenturyGo_10 : decode cX3_letCenturyGo 10 = .ok (.aload_n 0, 1) := by decide +kernel
theorem dX3_letCenturyGo_11 : decode cX3_letCenturyGo 11 = .ok (.getfield 21, 3) := by decide +kernel
theorem dX3_letCenturyGo_14 : decode cX3_letCenturyGo 14 = .ok (.imul, 1) := by decide +kernel
theorem dX3_letCenturyGo_15 : decode cX3_letCenturyGo 15 = .ok (.iadd, 1) := by decide +kernel
theorem dX3_letCenturyGo_16 : decode cX3_letCenturyGo 16 = .ok (.iconst 5, 1) := by decide +kernel
theorem dX3_letCenturyGo_17 : decode cX3_letCenturyGo 17 = .ok (.iadd, 1) := by decide +kernel
theorem dX3_letCenturyGo_18 : decode cX3_letCenturyGo 18 = .ok (.ldc 55, 2) := by decide +kernel
theorem dX3_letCenturyGo_20 : decode cX3_letCenturyGo 20 = .ok (.irem, 1) := by decide +kernel
theorem dX3_letCenturyGo_21 : decode cX3_letCenturyGo 21 = .ok (.bipush 10, 2) := by decide +kernel
theorem dX3_letCenturyGo_23 : decode cX3_letCenturyGo 23 = .ok (.irem, 1) := by decide +kernel
theorem dX3_letCenturyGo_24 : decode cX3_letCenturyGo 24 = .ok (.istore_n 3, 1) := by decide +kernel
theorem dX3_letCenturyGo_25 : decode cX3_letCenturyGo 25 = .ok (.iload_n 3, 1) := by decide +kernel
theorem dX3_letCenturyGo_26 : decode cX3_letCenturyGo 26 = .ok (.aload_n 1, 1) := by decide +kernel
theorem dX3_letCenturyGo_27 : decode cX3_letCenturyGo 27 = .ok (.getfield 56, 3) := by decide +kernel
theorem dX3_letCenturyGo_30 : decode cX3_letCenturyGo 30 = .ok (.aload_n 0, 1) := by decide +kernel
theorem dX3_letCenturyGo_31 : decode cX3_letCenturyGo 31 = .ok (.getfield 25, 3) := by decide +kernel
theorem dX3_letCenturyGo_34 : decode cX3_letCenturyGo 34 = .ok (.iaload, 1) := by decide +kernel
theorem dX3_letCenturyGo_35 : decode cX3_letCenturyGo 35 = .ok (.if_icmp .ge 16, 3) := by decide +kernel
theorem dX3_letCenturyGo_38 : decode cX3_letCenturyGo 38 = .ok (.aload_n 0, 1) := by decide +kernel
theorem dX3_letCenturyGo_39 : decode cX3_letCenturyGo 39 = .ok (.aload_n 1, 1) := by decide +kernel
theorem dX3_letCenturyGo_40 : decode cX3_letCenturyGo 40 = .ok (.getfield 61, 3) := by decide +kernel
theorem dX3_letCenturyGo_43 : decode cX3_letCenturyGo 43 = .ok (.aload_n 0, 1) := by decide +kernel
theorem dX3_letCenturyGo_44 : decode cX3_letCenturyGo 44 = .ok (.getfield 25, 3) := by decide +kernel
theorem dX3_letCenturyGo_47 : decode cX3_letCenturyGo 47 = .ok (.iaload, 1) := by decide +kernel
theorem dX3_letCenturyGo_48 : decode cX3_letCenturyGo 48 = .ok (.putfield 25, 3) := by decide +kernel
theorem dX3_letCenturyGo_51 : decode cX3_letCenturyGo 51 = .ok (.aload_n 0, 1) := by decide +kernel
theorem dX3_letCenturyGo_52 : decode cX3_letCenturyGo 52 = .ok (.dup, 1) := by decide +kernel
theorem dX3_letCenturyGo_53 : decode cX3_letCenturyGo 53 = .ok (.getfield 21, 3) := by decide +kernel
theorem dX3_letCenturyGo_56 : decode cX3_letCenturyGo 56 = .ok (.iconst 1, 1) := by decide +kernel
theorem dX3_letCenturyGo_57 : decode cX3_letCenturyGo 57 = .ok (.iadd, 1) := by decide +kernel
theorem dX3_letCenturyGo_58 : decode cX3_letCenturyGo 58 = .ok (.putfield 21, 3) := by decide +kernel
theorem dX3_letCenturyGo_61 : decode cX3_letCenturyGo 61 = .ok (.aload_n 0, 1) := by decide +kernel
theorem dX3_letCenturyGo_62 : decode cX3_letCenturyGo 62 = .ok (.aload_n 0, 1) := by decide +kernel
theorem dX3_letCenturyGo_63 : decode cX3_letCenturyGo 63 = .ok (.getfield 37, 3) := by decide +kernel
theorem dX3_letCenturyGo_66 : decode cX3_letCenturyGo 66 = .ok (.putfield 34, 3) := by decide +kernel
theorem dX3_letCenturyGo_69 : decode cX3_letCenturyGo 69 = .ok (.aload_n 0, 1) := by decide +kernel
theorem dX3_letCenturyGo_70 : decode cX3_letCenturyGo 70 = .ok (.iconst 0, 1) := by decide +kernel
theorem dX3_letCenturyGo_71 : decode cX3_letCenturyGo 71 = .ok (.putfield 37, 3) := by decide +kernel
theorem dX3_letCenturyGo_74 : decode cX3_letCenturyGo 74 = .ok (.aload_n 0, 1) := by decide +kernel
theorem dX3_letCenturyGo_75 : decode cX3_letCenturyGo 75 = .ok (.getfield 9, 3) := by decide +kernel
theorem dX3_letCenturyGo_78 : decode cX3_letCenturyGo 78 = .ok (.aload_n 1, 1) := by decide +kernel
theorem dX3_letCenturyGo_79 : decode cX3_letCenturyGo 79 = .ok (.getfield 64, 3) := by decide +kernel
theorem dX3_letCenturyGo_82 : decode cX3_letCenturyGo 82 = .ok (.invokestatic 43, 3) := by decide +kernel
theorem dX3_letCenturyGo_85 : decode cX3_letCenturyGo 85 = .ok (.aload_n 0, 1) := by decide +kernel
theorem dX3_letCenturyGo_86 : decode cX3_letCenturyGo 86 = .ok (.aload_n 1, 1) := by decide +kernel
theorem dX3_letCenturyGo_87 : decode cX3_letCenturyGo 87 = .ok (.getfield 67, 3) := by decide +kernel
theorem dX3_letCenturyGo_90 : decode cX3_letCenturyGo 90 = .ok (.invokevirtual 70, 3) := by decide +kernel
theorem dX3_letCenturyGo_93 : decode cX3_letCenturyGo 93 = .ok (.ireturn, 1) := by decide +kernel
set_option maxRecDepth 20000 in
theorem ggX3_letWorksFall_X3_holdingBits : GoodIn wsX3_letWorksFall wsX3_holdingBits := goodIn_r _ [10, 1, 11, 12, 13, 14, 15, 16, 17, 18, 19, 20] (by decide +kernel) (by decide +kernel)
set_option maxRecDepth 20000 in
theorem gX3_letWorksFall_X3_holdingBits : GoodIn wsX3_letWorksFall (wsV RX3 74 RX3 yX3_holdingBits wsX3_holdingBits) := goodIn_app (goodIn_of _ (by decide +kernel)) ggX3_letWorksFall_X3_holdingBits
theorem dX3_letWorksFall_0 : decode cX3_letWorksFall 0 = .ok (.aload_n 0, 1) := by decide +kernel
theorem dX3_letWorksFall_1 : decode cX3_letWorksFall 1 = .ok (.iload_n 1, 1) := by decide +kernel
theorem dX3_letWorksFall_2 : decode cX3_letWorksFall 2 = .ok (.invokevirtual 74, 3) := by decide +kernel
theorem dX3_letWorksFall_5 : decode cX3_letWorksFall 5 = .ok (.istore_n 2, 1) := by decide +kernel
theorem dX3_letWorksFall_6 : decode cX3_letWorksFall 6 = .ok (.iconst 0, 1) := by decide +kernel
theorem dX3_letWorksFall_7 : decode cX3_letWorksFall 7 = .ok (.istore_n 3, 1) := by decide +kernel
theorem dX3_letWorksFall_8 : decode cX3_letWorksFall 8 = .ok (.iload_n 3, 1) := by decide +kernel
theorem dX3_letWorksFall_9 : decode cX3_letWorksFall 9 = .ok (.iload_n 1, 1) := by decide +kernel
theorem dX3_letWorksFall_10 : decode cX3_letWorksFall 10 = .ok (.if_icmp .ge 27, 3) := by decide +kernel
theorem dX3_letWorksFall_13 : decode cX3_letWorksFall 13 = .ok (.aload_n 0, 1) := by decide +kernel
theorem dX3_letWorksFall_14 : decode cX3_letWorksFall 14 = .ok (.getfield 18, 3) := by decide +kernel
theorem dX3_letWorksFall_17 : decode cX3_letWorksFall 17 = .ok (.iload_n 3, 1) := by decide +kernel
theorem dX3_letWorksFall_18 : decode cX3_letWorksFall 18 = .ok (.iconst 0, 1) := by decide +kernel
theorem dX3_letWorksFall_19 : decode cX3_letWorksFall 19 = .ok (.aload_n 0, 1) := by decide +kernel
theorem dX3_letWorksFall_20 : decode cX3_letWorksFall 20 = .ok (.getfield 18, 3) := by decide +kernel
theorem dX3_letWorksFall_23 : decode cX3_letWorksFall 23 = .ok (.iload_n 3, 1) := by decide +kernel
theorem dX3_letWorksFall_24 : decode cX3_letWorksFall 24 = .ok (.iaload, 1) := by decide +kernel
theorem dX3_letWorksFall_25 : decode cX3_letWorksFall 25 = .ok (.iconst 1, 1) := by decide +kernel
theorem dX3_letWorksFall_26 : decode cX3_letWorksFall 26 = .ok (.isub, 1) := by decide +kernel
theorem dX3_letWorksFall_27 : decode cX3_letWorksFall 27 = .ok (.invokestatic 77, 3) := by decide +kernel
theorem dX3_letWorksFall_30 : decode cX3_letWorksFall 30 = .ok (.iastore, 1) := by decide +kernel
theorem dX3_letWorksFall_31 : decode cX3_letWorksFall 31 = .ok (.iinc 3 1, 3) := by decide +kernel
theorem dX3_letWorksFall_34 : decode cX3_letWorksFall 34 = .ok (.goto (-26), 3) := by decide +kernel
theorem dX3_letWorksFall_37 : decode cX3_letWorksFall 37 = .ok (.iload_n 2, 1) := by decide +kernel
theorem dX3_letWorksFall_38 : decode cX3_letWorksFall 38 = .ok (.aload_n 0, 1) := by decide +kernel
theorem dX3_letWorksFall_39 : decode cX3_letWorksFall 39 = .ok (.iload_n 1, 1) := by decide +kernel
theorem dX3_letWorksFall_40 : decode cX3_letWorksFall 40 = .ok (.invokevirtual 74, 3) := by decide +kernel
theorem dX3_letWorksFall_43 : decode cX3_letWorksFall 43 = .ok (.iconst (-1), 1) := by decide +kernel
theorem dX3_letWorksFall_44 : decode cX3_letWorksFall 44 = .ok (.ixor, 1) := by decide +kernel
theorem dX3_letWorksFall_45 : decode cX3_letWorksFall 45 = .ok (.iand, 1) := by decide +kernel
theorem dX3_letWorksFall_46 : decode cX3_letWorksFall 46 = .ok (.ireturn, 1) := by decide +kernel
theorem dX4_init_0 : decode cX4_init 0 = .ok (.aload_n 0, 1) := by decide +kernel
theorem dX4_init_1 : decode cX4_init 1 = .ok (.invokespecial 3, 3) := by decide +kernel
theorem dX4_init_4 : decode cX4_init 4 = .ok (.aload_n 0, 1) := by decide +kernel
theorem dX4_init_5 : decode cX4_init 5 = .ok (.bipush 45, 2) := by decide +kernel
theorem dX4_init_7 : decode cX4_init 7 = .ok (.newarray .int, 2) := by decide +kernel
theorem dX4_init_9 : decode cX4_init 9 = .ok (.putfield 9, 3) := by decide +kernel
theorem dX4_init_12 : decode cX4_init 12 = .ok (.aload_n 0, 1) := by decide +kernel
theorem dX4_init_13 : decode cX4_init 13 = .ok (.bipush 32, 2) := by decide +kernel
theorem dX4_init_15 : decode cX4_init 15 = .ok (.newarray .int, 2) := by decide +kernel
theorem dX4_init_17 : decode cX4_init 17 = .ok (.putfield 15, 3) := by decide +kernel
theorem dX4_init_20 : decode cX4_init 20 = .ok (.return_, 1) := by decide +kernel
set_option maxRecDepth 20000 in
theorem ggX4_takeUp_X8_priceOf : GoodIn wsX4_takeUp wsX8_priceOf := goodIn_r _ [12, 13, 14, 15, 16, 17, 18, 19, 20, 21, 22, 23, 24, 25, 26, 27, 28, 29, 30, 31, 32, 33, 34, 35, 36, 37] (by decide +kernel) (by decide +kernel)
set_option maxRecDepth 20000 in
theorem gX4_takeUp_X8_priceOf : GoodIn wsX4_takeUp (wsV RX4 39 RX8 yX8_priceOf wsX8_priceOf) := goodIn_app (goodIn_of _ (by decide +kernel)) ggX4_takeUp_X8_priceOf
theorem dX4_takeUp_0 : decode cX4_takeUp 0 = .ok (.aload_n 0, 1) := by decide +kernel
theorem dX4_takeUp_1 : decode cX4_takeUp 1 = .ok (.aload_n 1, 1) := by decide +kernel
theorem dX4_takeUp_2 : decode cX4_takeUp 2 = .ok (.getfield 18, 3) := by decide +kernel
theorem dX4_takeUp_5 : decode cX4_takeUp 5 = .ok (.putfield 24, 3) := by decide +kernel
theorem dX4_takeUp_8 : decode cX4_takeUp 8 = .ok (.aload_n 0, 1) := by decide +kernel
theorem dX4_takeUp_9 : decode cX4_takeUp 9 = .ok (.iload_n 3, 1) := by decide +kernel
theorem dX4_takeUp_10 : decode cX4_takeUp 10 = .ok (.putfield 25, 3) := by decide +kernel
theorem dX4_takeUp_13 : decode cX4_takeUp 13 = .ok (.aload_n 0, 1) := by decide +kernel
theorem dX4_takeUp_14 : decode cX4_takeUp 14 = .ok (.iconst 1, 1) := by decide +kernel
theorem dX4_takeUp_15 : decode cX4_takeUp 15 = .ok (.aload_n 0, 1) := by decide +kernel
theorem dX4_takeUp_16 : decode cX4_takeUp 16 = .ok (.getfield 24, 3) := by decide +kernel
theorem dX4_takeUp_19 : decode cX4_takeUp 19 = .ok (.ishl, 1) := by decide +kernel
theorem dX4_takeUp_20 : decode cX4_takeUp 20 = .ok (.iconst 1, 1) := by decide +kernel
theorem dX4_takeUp_21 : decode cX4_takeUp 21 = .ok (.isub, 1) := by decide +kernel
theorem dX4_takeUp_22 : decode cX4_takeUp 22 = .ok (.aload_n 2, 1) := by decide +kernel
theorem dX4_takeUp_23 : decode cX4_takeUp 23 = .ok (.getfield 28, 3) := by decide +kernel
theorem dX4_takeUp_26 : decode cX4_takeUp 26 = .ok (.iconst (-1), 1) := by decide +kernel
theorem dX4_takeUp_27 : decode cX4_takeUp 27 = .ok (.ixor, 1) := by decide +kernel
theorem dX4_takeUp_28 : decode cX4_takeUp 28 = .ok (.iand, 1) := by decide +kernel
theorem dX4_takeUp_29 : decode cX4_takeUp 29 = .ok (.putfield 33, 3) := by decide +kernel
theorem dX4_takeUp_32 : decode cX4_takeUp 32 = .ok (.iconst 0, 1) := by decide +kernel
theorem dX4_takeUp_33 : decode cX4_takeUp 33 = .ok (.istore 4, 2) := by decide +kernel
theorem dX4_takeUp_35 : decode cX4_takeUp 35 = .ok (.iload 4, 2) := by decide +kernel
theorem dX4_takeUp_37 : decode cX4_takeUp 37 = .ok (.aload_n 0, 1) := by decide +kernel
theorem dX4_takeUp_38 : decode cX4_takeUp 38 = .ok (.getfield 24, 3) := by decide +kernel
theorem dX4_takeUp_41 : decode cX4_takeUp 41 = .ok (.if_icmp .ge 53, 3) := by decide +kernel
theorem dX4_takeUp_44 : decode cX4_takeUp 44 = .ok (.iconst 0, 1) := by decide +kernel
theorem dX4_takeUp_45 : decode cX4_takeUp 45 = .ok (.istore 5, 2) := by decide +kernel
theorem dX4_takeUp_47 : decode cX4_takeUp 47 = .ok (.iload 5, 2) := by decide +kernel
theorem dX4_takeUp_49 : decode cX4_takeUp 49 = .ok (.aload_n 0, 1) := by decide +kernel
theorem dX4_takeUp_50 : decode cX4_takeUp 50 = .ok (.getfield 25, 3) := by decide +kernel
theorem dX4_takeUp_53 : decode cX4_takeUp 53 = .ok (.if_icmp .ge 35, 3) := by decide +kernel
theorem dX4_takeUp_56 : decode cX4_takeUp 56 = .ok (.aload_n 0, 1) := by decide +kernel
theorem dX4_takeUp_57 : decode cX4_takeUp 57 = .ok (.getfield 9, 3) := by decide +kernel
theorem dX4_takeUp_60 : decode cX4_takeUp 60 = .ok (.iload 4, 2) := by decide +kernel
theorem dX4_takeUp_62 : decode cX4_takeUp 62 = .ok (.bipush 9, 2) := by decide +kernel
theorem dX4_takeUp_64 : decode cX4_takeUp 64 = .ok (.imul, 1) := by decide +kernel
theorem dX4_takeUp_65 : decode cX4_takeUp 65 = .ok (.iload 5, 2) := by decide +kernel
theorem dX4_takeUp_67 : decode cX4_takeUp 67 = .ok (.iadd, 1) := by decide +kernel
theorem dX4_takeUp_68 : decode cX4_takeUp 68 = .ok (.aload_n 1, 1) := by decide +kernel
theorem dX4_takeUp_69 : decode cX4_takeUp 69 = .ok (.iload 4, 2) := by decide +kernel
theorem dX4_takeUp_71 : decode cX4_takeUp 71 = .ok (.aload_n 2, 1) := by decide +kernel
theorem dX4_takeUp_72 : decode cX4_takeUp 72 = .ok (.getfield 36, 3) := by decide +kernel
theorem dX4_takeUp_75 : decode cX4_takeUp 75 = .ok (.iload 5, 2) := by decide +kernel
theorem dX4_takeUp_77 : decode cX4_takeUp 77 = .ok (.iadd, 1) := by decide +kernel
theorem dX4_takeUp_78 : decode cX4_takeUp 78 = .ok (.invokevirtual 39, 3) := by decide +kernel
theorem dX4_takeUp_81 : decode cX4_takeUp 81 = .ok (.iastore, 1) := by decide +kernel
theorem dX4_takeUp_82 : decode cX4_takeUp 82 = .ok (.iinc 5 1, 3) := by decide +kernel
theorem dX4_takeUp_85 : decode cX4_takeUp 85 = .ok (.goto (-38), 3) := by decide +kernel
theorem dX4_takeUp_88 : decode cX4_takeUp 88 = .ok (.iinc 4 1, 3) := by decide +kernel
theorem dX4_takeUp_91 : decode cX4_takeUp 91 = .ok (.goto (-56), 3) := by decide +kernel
theorem dX4_takeUp_94 : decode cX4_takeUp 94 = .ok (.return_, 1) := by decide +kernel
set_option maxRecDepth 20000 in
theorem ggX4_mostOf_J7_fill_53178 : GoodIn wsX4_mostOf wsJ7_fill_53178 := goodIn_r _ [6] (by decide +kernel) (by decide +kernel)
set_option maxRecDepth 20000 in
theorem gX4_mostOf_J7_fill_53178 : GoodIn wsX4_mostOf (va_wsS RX4 43 yJ7_fill_53178 wsJ7_fill_53178) := goodIn_app (goodIn_of _ (by decide +kernel)) ggX4_mostOf_J7_fill_53178
set_option maxRecDepth 20000 in
theorem ggX4_mostOf_X10_bitOf : GoodIn wsX4_mostOf wsX10_bitOf := goodIn_r _ [9] (by decide +kernel) (by decide +kernel)
set_option maxRecDepth 20000 in
theorem gX4_mostOf_X10_bitOf_n49 : GoodIn wsX4_mostOf (wsX10_bitOf) := ggX4_mostOf_X10_bitOf
set_option maxRecDepth 20000 in
theorem ggX4_mostOf_X4_mostWith : GoodIn wsX4_mostOf wsX4_mostWith := goodIn_r _ [14, 1, 15, 16, 17, 18, 19, 20, 7, 8, 9, 21, 22, 23, 24, 25] (by decide +kernel) (by decide +kernel)
set_option maxRecDepth 20000 in
theorem gX4_mostOf_X4_mostWith : GoodIn wsX4_mostOf (wsV RX4 52 RX4 yX4_mostWith wsX4_mostWith) := goodIn_app (goodIn_of _ (by decide +kernel)) ggX4_mostOf_X4_mostWith
theorem dX4_mostOf_0 : decode cX4_mostOf 0 = .ok (.aload_n 0, 1) := by decide +kernel
theorem dX4_mostOf_1 : decode cX4_mostOf 1 = .ok (.getfield 15, 3) := by decide +kernel
theorem dX4_mostOf_4 : decode cX4_mostOf 4 = .ok (.iconst 0, 1) := by decide +kernel
theorem dX4_mostOf_5 : decode cX4_mostOf 5 = .ok (.invokestatic 43, 3) := by decide +kernel
theorem dX4_mostOf_8 : decode cX4_mostOf 8 = .ok (.iconst 0, 1) := by decide +kernel
theorem dX4_mostOf_9 : decode cX4_mostOf 9 = .ok (.istore_n 3, 1) := by decide +kernel
theorem dX4_mostOf_10 : decode cX4_mostOf 10 = .ok (.iload_n 3, 1) := by decide +kernel
theorem dX4_mostOf_11 : decode cX4_mostOf 11 = .ok (.aload_n 0, 1) := by decide +kernel
theorem dX4_mostOf_12 : decode cX4_mostOf 12 = .ok (.getfield 25, 3) := by decide +kernel
theorem dX4_mostOf_15 : decode cX4_mostOf 15 = .ok (.if_icmp .ge 50, 3) := by decide +kernel
theorem dX4_mostOf_18 : decode cX4_mostOf 18 = .ok (.iload_n 1, 1) := by decide +kernel
theorem dX4_mostOf_19 : decode cX4_mostOf 19 = .ok (.istore 4, 2) := by decide +kernel
theorem dX4_mostOf_21 : decode cX4_mostOf 21 = .ok (.iload 4, 2) := by decide +kernel
theorem dX4_mostOf_23 : decode cX4_mostOf 23 = .ok (.ifCond .le 36, 3) := by decide +kernel
theorem dX4_mostOf_26 : decode cX4_mostOf 26 = .ok (.iload_n 2, 1) := by decide +kernel
theorem dX4_mostOf_27 : decode cX4_mostOf 27 = .ok (.iload_n 3, 1) := by decide +kernel
theorem dX4_mostOf_28 : decode cX4_mostOf 28 = .ok (.invokestatic 49, 3) := by decide +kernel
theorem dX4_mostOf_31 : decode cX4_mostOf 31 = .ok (.ifCond .ne 28, 3) := by decide +kernel
theorem dX4_mostOf_34 : decode cX4_mostOf 34 = .ok (.aload_n 0, 1) := by decide +kernel
theorem dX4_mostOf_35 : decode cX4_mostOf 35 = .ok (.getfield 15, 3) := by decide +kernel
theorem dX4_mostOf_38 : decode cX4_mostOf 38 = .ok (.iload 4, 2) := by decide +kernel
theorem dX4_mostOf_40 : decode cX4_mostOf 40 = .ok (.aload_n 0, 1) := by decide +kernel
theorem dX4_mostOf_41 : decode cX4_mostOf 41 = .ok (.iload 4, 2) := by decide +kernel
theorem dX4_mostOf_43 : decode cX4_mostOf 43 = .ok (.iload_n 3, 1) := by decide +kernel
theorem dX4_mostOf_44 : decode cX4_mostOf 44 = .ok (.invokevirtual 52, 3) := by decide +kernel
theorem dX4_mostOf_47 : decode cX4_mostOf 47 = .ok (.iastore, 1) := by decide +kernel
theorem dX4_mostOf_48 : decode cX4_mostOf 48 = .ok (.iload 4, 2) := by decide +kernel
theorem dX4_mostOf_50 : decode cX4_mostOf 50 = .ok (.iconst 1, 1) := by decide +kernel
theorem dX4_mostOf_51 : decode cX4_mostOf 51 = .ok (.isub, 1) := by decide +kernel
theorem dX4_mostOf_52 : decode cX4_mostOf 52 = .ok (.iload_n 1, 1) := by decide +kernel
theorem dX4_mostOf_53 : decode cX4_mostOf 53 = .ok (.iand, 1) := by decide +kernel
theorem dX4_mostOf_54 : decode cX4_mostOf 54 = .ok (.istore 4, 2) := by decide +kernel
theorem dX4_mostOf_56 : decode cX4_mostOf 56 = .ok (.goto (-35), 3) := by decide +kernel
theorem dX4_mostOf_59 : decode cX4_mostOf 59 = .ok (.iinc 3 1, 3) := by decide +kernel
theorem dX4_mostOf_62 : decode cX4_mostOf 62 = .ok (.goto (-52), 3) := by decide +kernel
theorem dX4_mostOf_65 : decode cX4_mostOf 65 = .ok (.aload_n 0, 1) := by decide +kernel
theorem dX4_mostOf_66 : decode cX4_mostOf 66 = .ok (.getfield 15, 3) := by decide +kernel
theorem dX4_mostOf_69 : decode cX4_mostOf 69 = .ok (.iload_n 1, 1) := by decide +kernel
theorem dX4_mostOf_70 : decode cX4_mostOf 70 = .ok (.iaload, 1) := by decide +kernel
theorem dX4_mostOf_71 : decode cX4_mostOf 71 = .ok (.ireturn, 1) := by decide +kernel
set_option maxRecDepth 20000 in
theorem ggX4_mostWith_X10_bitOf : GoodIn wsX4_mostWith wsX10_bitOf := goodIn_r _ [10] (by decide +kernel) (by decide +kernel)
set_option maxRecDepth 20000 in
theorem gX4_mostWith_X10_bitOf_n49 : GoodIn wsX4_mostWith (wsX10_bitOf) := ggX4_mostWith_X10_bitOf
theorem dX4_mostWith_0 : decode cX4_mostWith 0 = .ok (.aload_n 0, 1) := by decide +kernel
theorem dX4_mostWith_1 : decode cX4_mostWith 1 = .ok (.getfield 15, 3) := by decide +kernel
theorem dX4_mostWith_4 : decode cX4_mostWith 4 = .ok (.iload_n 1, 1) := by decide +kernel
theorem dX4_mostWith_5 : decode cX4_mostWith 5 = .ok (.iaload, 1) := by decide +kernel
theorem dX4_mostWith_6 : decode cX4_mostWith 6 = .ok (.istore_n 3, 1) := by decide +kernel
theorem dX4_mostWith_7 : decode cX4_mostWith 7 = .ok (.iconst 0, 1) := by decide +kernel
theorem dX4_mostWith_8 : decode cX4_mostWith 8 = .ok (.istore 4, 2) := by decide +kernel
theorem dX4_mostWith_10 : decode cX4_mostWith 10 = .ok (.iload 4, 2) := by decide +kernel
theorem dX4_mostWith_12 : decode cX4_mostWith 12 = .ok (.aload_n 0, 1) := by decide +kernel
theorem dX4_mostWith_13 : decode cX4_mostWith 13 = .ok (.getfield 24, 3) := by decide +kernel
theorem dX4_mostWith_16 : decode cX4_mostWith 16 = .ok (.if_icmp .ge 48, 3) := by decide +kernel
theorem dX4_mostWith_19 : decode cX4_mostWith 19 = .ok (.iload_n 1, 1) := by decide +kernel
theorem dX4_mostWith_20 : decode cX4_mostWith 20 = .ok (.iload 4, 2) := by decide +kernel
theorem dX4_mostWith_22 : decode cX4_mostWith 22 = .ok (.invokestatic 49, 3) := by decide +kernel
theorem dX4_mostWith_25 : decode cX4_mostWith 25 = .ok (.iconst 1, 1) := by decide +kernel
theorem dX4_mostWith_26 : decode cX4_mostWith 26 = .ok (.if_icmp .ne 32, 3) := by decide +kernel
theorem dX4_mostWith_29 : decode cX4_mostWith 29 = .ok (.iload_n 3, 1) := by decide +kernel
theorem dX4_mostWith_30 : decode cX4_mostWith 30 = .ok (.aload_n 0, 1) := by decide +kernel
theorem dX4_mostWith_31 : decode cX4_mostWith 31 = .ok (.getfield 9, 3) := by decide +kernel
theorem dX4_mostWith_34 : decode cX4_mostWith 34 = .ok (.iload 4, 2) := by decide +kernel
theorem dX4_mostWith_36 : decode cX4_mostWith 36 = .ok (.bipush 9, 2) := by decide +kernel
theorem dX4_mostWith_38 : decode cX4_mostWith 38 = .ok (.imul, 1) := by decide +kernel
theorem dX4_mostWith_39 : decode cX4_mostWith 39 = .ok (.iload_n 2, 1) := by decide +kernel
theorem dX4_mostWith_40 : decode cX4_mostWith 40 = .ok (.iadd, 1) := by decide +kernel
theorem dX4_mostWith_41 : decode cX4_mostWith 41 = .ok (.iaload, 1) := by decide +kernel
theorem dX4_mostWith_42 : decode cX4_mostWith 42 = .ok (.aload_n 0, 1) := by decide +kernel
theorem dX4_mostWith_43 : decode cX4_mostWith 43 = .ok (.getfield 15, 3) := by decide +kernel
theorem dX4_mostWith_46 : decode cX4_mostWith 46 = .ok (.iload_n 1, 1) := by decide +kernel
theorem dX4_mostWith_47 : decode cX4_mostWith 47 = .ok (.iconst 1, 1) := by decide +kernel
theorem dX4_mostWith_48 : decode cX4_mostWith 48 = .ok (.iload 4, 2) := by decide +kernel
theorem dX4_mostWith_50 : decode cX4_mostWith 50 = .ok (.ishl, 1) := by decide +kernel
theorem dX4_mostWith_51 : decode cX4_mostWith 51 = .ok (.isub, 1) := by decide +kernel
theorem dX4_mostWith_52 : decode cX4_mostWith 52 = .ok (.iaload, 1) := by decide +kernel
theorem dX4_mostWith_53 : decode cX4_mostWith 53 = .ok (.iadd, 1) := by decide +kernel
theorem dX4_mostWith_54 : decode cX4_mostWith 54 = .ok (.invokestatic 55, 3) := by decide +kernel
theorem dX4_mostWith_57 : decode cX4_mostWith 57 = .ok (.istore_n 3, 1) := by decide +kernel
theorem dX4_mostWith_58 : decode cX4_mostWith 58 = .ok (.iinc 4 1, 3) := by decide +kernel
theorem dX4_mostWith_61 : decode cX4_mostWith 61 = .ok (.goto (-51), 3) := by decide +kernel
theorem dX4_mostWith_64 : decode cX4_mostWith 64 = .ok (.iload_n 3, 1) := by decide +kernel
theorem dX4_mostWith_65 : decode cX4_mostWith 65 = .ok (.ireturn, 1) := by decide +kernel
set_option maxRecDepth 20000 in
theorem ggX4_dayOf_X4_mostOf : GoodIn wsX4_dayOf wsX4_mostOf := goodIn_r _ [8, 9, 10, 11, 12, 13, 14, 15, 16, 17, 18, 19, 20, 7, 21, 2, 3, 22, 23, 24, 25, 30, 31, 32, 33, 34] (by decide +kernel) (by decide +kernel)
set_option maxRecDepth 20000 in
theorem gX4_dayOf_X4_mostOf : GoodIn wsX4_dayOf (wsV RX4 60 RX4 yX4_mostOf wsX4_mostOf) := goodIn_app (goodIn_of _ (by decide +kernel)) ggX4_dayOf_X4_mostOf
set_option maxRecDepth 20000 in
theorem ggX4_dayOf_X10_bitOf : GoodIn wsX4_dayOf wsX10_bitOf := goodIn_r _ [17] (by decide +kernel) (by decide +kernel)
set_option maxRecDepth 20000 in
theorem gX4_dayOf_X10_bitOf_n49 : GoodIn wsX4_dayOf (wsX10_bitOf) := ggX4_dayOf_X10_bitOf
set_option maxRecDepth 20000 in
theorem ggX4_dayOf_X4_firstDay : GoodIn wsX4_dayOf wsX4_firstDay := goodIn_r _ [29, 10, 3, 4, 5, 6, 7, 8, 9, 11, 12, 13, 14, 15, 16, 17, 18, 19, 20, 21, 2, 22, 23, 24, 25, 30, 31, 32, 33, 34] (by decide +kernel) (by decide +kernel)
set_option maxRecDepth 20000 in
theorem gX4_dayOf_X4_firstDay : GoodIn wsX4_dayOf (wsV RX4 63 RX4 yX4_firstDay wsX4_firstDay) := goodIn_app (goodIn_of _ (by decide +kernel)) ggX4_dayOf_X4_firstDay
theorem dX4_dayOf_0 : decode cX4_dayOf 0 = .ok (.aload_n 0, 1) := by decide +kernel
theorem dX4_dayOf_1 : decode cX4_dayOf 1 = .ok (.aload_n 0, 1) := by decide +kernel
theorem dX4_dayOf_2 : decode cX4_dayOf 2 = .ok (.getfield 33, 3) := by decide +kernel
theorem dX4_dayOf_5 : decode cX4_dayOf 5 = .ok (.iconst 0, 1) := by decide +kernel
theorem dX4_dayOf_6 : decode cX4_dayOf 6 = .ok (.invokevirtual 60, 3) := by decide +kernel
theorem dX4_dayOf_9 : decode cX4_dayOf 9 = .ok (.istore_n 2, 1) := by decide +kernel
theorem dX4_dayOf_10 : decode cX4_dayOf 10 = .ok (.aload_n 0, 1) := by decide +kernel
theorem dX4_dayOf_11 : decode cX4_dayOf 11 = .ok (.getfield 33, 3) := by decide +kernel
theorem dX4_dayOf_14 : decode cX4_dayOf 14 = .ok (.istore_n 3, 1) := by decide +kernel
theorem dX4_dayOf_15 : decode cX4_dayOf 15 = .ok (.iconst 0, 1) := by decide +kernel
theorem dX4_dayOf_16 : decode cX4_dayOf 16 = .ok (.istore 4, 2) := by decide +kernel
theorem dX4_dayOf_18 : decode cX4_dayOf 18 = .ok (.iconst (-1), 1) := by decide +kernel
theorem dX4_dayOf_19 : decode cX4_dayOf 19 = .ok (.istore 5, 2) := by decide +kernel
theorem dX4_dayOf_21 : decode cX4_dayOf 21 = .ok (.iconst 0, 1) := by decide +kernel
theorem dX4_dayOf_22 : decode cX4_dayOf 22 = .ok (.istore 6, 2) := by decide +kernel
theorem dX4_dayOf_24 : decode cX4_dayOf 24 = .ok (.iload 6, 2) := by decide +kernel
theorem dX4_dayOf_26 : decode cX4_dayOf 26 = .ok (.iload_n 1, 1) := by decide +kernel
theorem dX4_dayOf_27 : decode cX4_dayOf 27 = .ok (.if_icmp .gt 84, 3) := by decide +kernel
theorem dX4_dayOf_30 : decode cX4_dayOf 30 = .ok (.iload 6, 2) := by decide +kernel
theorem dX4_dayOf_32 : decode cX4_dayOf 32 = .ok (.aload_n 0, 1) := by decide +kernel
theorem dX4_dayOf_33 : decode cX4_dayOf 33 = .ok (.getfield 24, 3) := by decide +kernel
theorem dX4_dayOf_36 : decode cX4_dayOf 36 = .ok (.if_icmp .ge 75, 3) := by decide +kernel
theorem dX4_dayOf_39 : decode cX4_dayOf 39 = .ok (.iconst (-1), 1) := by decide +kernel
theorem dX4_dayOf_40 : decode cX4_dayOf 40 = .ok (.istore 5, 2) := by decide +kernel
theorem dX4_dayOf_42 : decode cX4_dayOf 42 = .ok (.aload_n 0, 1) := by decide +kernel
theorem dX4_dayOf_43 : decode cX4_dayOf 43 = .ok (.getfield 33, 3) := by decide +kernel
theorem dX4_dayOf_46 : decode cX4_dayOf 46 = .ok (.iload 6, 2) := by decide +kernel
theorem dX4_dayOf_48 : decode cX4_dayOf 48 = .ok (.invokestatic 49, 3) := by decide +kernel
theorem dX4_dayOf_51 : decode cX4_dayOf 51 = .ok (.iconst 1, 1) := by decide +kernel
theorem dX4_dayOf_52 : decode cX4_dayOf 52 = .ok (.if_icmp .ne 22, 3) := by decide +kernel
theorem dX4_dayOf_55 : decode cX4_dayOf 55 = .ok (.iload_n 3, 1) := by decide +kernel
theorem dX4_dayOf_56 : decode cX4_dayOf 56 = .ok (.iconst 1, 1) := by decide +kernel
theorem dX4_dayOf_57 : decode cX4_dayOf 57 = .ok (.iload 6, 2) := by decide +kernel
theorem dX4_dayOf_59 : decode cX4_dayOf 59 = .ok (.ishl, 1) := by decide +kernel
theorem dX4_dayOf_60 : decode cX4_dayOf 60 = .ok (.isub, 1) := by decide +kernel
theorem dX4_dayOf_61 : decode cX4_dayOf 61 = .ok (.istore_n 3, 1) := by decide +kernel
theorem dX4_dayOf_62 : decode cX4_dayOf 62 = .ok (.aload_n 0, 1) := by decide +kernel
theorem dX4_dayOf_63 : decode cX4_dayOf 63 = .ok (.iload 6, 2) := by decide +kernel
theorem dX4_dayOf_65 : decode cX4_dayOf 65 = .ok (.iload_n 2, 1) := by decide +kernel
theorem dX4_dayOf_66 : decode cX4_dayOf 66 = .ok (.iload_n 3, 1) := by decide +kernel
theorem dX4_dayOf_67 : decode cX4_dayOf 67 = .ok (.iload 4, 2) := by decide +kernel
theorem dX4_dayOf_69 : decode cX4_dayOf 69 = .ok (.invokevirtual 63, 3) := by decide +kernel
theorem dX4_dayOf_72 : decode cX4_dayOf 72 = .ok (.istore 5, 2) := by decide +kernel
theorem dX4_dayOf_74 : decode cX4_dayOf 74 = .ok (.iload 5, 2) := by decide +kernel
theorem dX4_dayOf_76 : decode cX4_dayOf 76 = .ok (.iconst (-1), 1) := by decide +kernel
theorem dX4_dayOf_77 : decode cX4_dayOf 77 = .ok (.if_icmp .eq 28, 3) := by decide +kernel
theorem dX4_dayOf_80 : decode cX4_dayOf 80 = .ok (.iload_n 2, 1) := by decide +kernel
theorem dX4_dayOf_81 : decode cX4_dayOf 81 = .ok (.aload_n 0, 1) := by decide +kernel
theorem dX4_dayOf_82 : decode cX4_dayOf 82 = .ok (.getfield 9, 3) := by decide +kernel
theorem dX4_dayOf_85 : decode cX4_dayOf 85 = .ok (.iload 6, 2) := by decide +kernel
theorem dX4_dayOf_87 : decode cX4_dayOf 87 = .ok (.bipush 9, 2) := by decide +kernel
theorem dX4_dayOf_89 : decode cX4_dayOf 89 = .ok (.imul, 1) := by decide +kernel
theorem dX4_dayOf_90 : decode cX4_dayOf 90 = .ok (.iload 5, 2) := by decide +kernel
theorem dX4_dayOf_92 : decode cX4_dayOf 92 = .ok (.iadd, 1) := by decide +kernel
theorem dX4_dayOf_93 : decode cX4_dayOf 93 = .ok (.iaload, 1) := by decide +kernel
theorem dX4_dayOf_94 : decode cX4_dayOf 94 = .ok (.isub, 1) := by decide +kernel
theorem dX4_dayOf_95 : decode cX4_dayOf 95 = .ok (.istore_n 2, 1) := by decide +kernel
theorem dX4_dayOf_96 : decode cX4_dayOf 96 = .ok (.iload 4, 2) := by decide +kernel
theorem dX4_dayOf_98 : decode cX4_dayOf 98 = .ok (.iconst 1, 1) := by decide +kernel
theorem dX4_dayOf_99 : decode cX4_dayOf 99 = .ok (.iload 5, 2) := by decide +kernel
theorem dX4_dayOf_101 : decode cX4_dayOf 101 = .ok (.ishl, 1) := by decide +kernel
theorem dX4_dayOf_102 : decode cX4_dayOf 102 = .ok (.ior, 1) := by decide +kernel
theorem dX4_dayOf_103 : decode cX4_dayOf 103 = .ok (.istore 4, 2) := by decide +kernel
theorem dX4_dayOf_105 : decode cX4_dayOf 105 = .ok (.iinc 6 1, 3) := by decide +kernel
theorem dX4_dayOf_108 : decode cX4_dayOf 108 = .ok (.goto (-84), 3) := by decide +kernel
theorem dX4_dayOf_111 : decode cX4_dayOf 111 = .ok (.iload 5, 2) := by decide +kernel
theorem dX4_dayOf_113 : decode cX4_dayOf 113 = .ok (.ireturn, 1) := by decide +kernel
set_option maxRecDepth 20000 in
theorem ggX4_firstDay_X4_mostOf : GoodIn wsX4_firstDay wsX4_mostOf := goodIn_r _ [7, 8, 1, 9, 10, 11, 12, 13, 14, 15, 16, 17, 18, 6, 19, 20, 2, 21, 22, 23, 24, 25, 26, 27, 28, 29] (by decide +kernel) (by decide +kernel)
set_option maxRecDepth 20000 in
theorem gX4_firstDay_X4_mostOf : GoodIn wsX4_firstDay (wsV RX4 60 RX4 yX4_mostOf wsX4_mostOf) := goodIn_app (goodIn_of _ (by decide +kernel)) ggX4_firstDay_X4_mostOf
set_option maxRecDepth 20000 in
theorem ggX4_firstDay_X10_bitOf : GoodIn wsX4_firstDay wsX10_bitOf := goodIn_r _ [15] (by decide +kernel) (by decide +kernel)
set_option maxRecDepth 20000 in
theorem gX4_firstDay_X10_bitOf_n49 : GoodIn wsX4_firstDay (wsX10_bitOf) := ggX4_firstDay_X10_bitOf
theorem dX4_firstDay_0 : decode cX4_firstDay 0 = .ok (.aload_n 0, 1) := by decide +kernel
theorem dX4_firstDay_1 : decode cX4_firstDay 1 = .ok (.iload_n 3, 1) := by decide +kernel
theorem dX4_firstDay_2 : decode cX4_firstDay 2 = .ok (.iload 4, 2) := by decide +kernel
theorem dX4_firstDay_4 : decode cX4_firstDay 4 = .ok (.invokevirtual 60, 3) := by decide +kernel
theorem dX4_firstDay_7 : decode cX4_firstDay 7 = .ok (.iload_n 2, 1) := by decide +kernel
theorem dX4_firstDay_8 : decode cX4_firstDay 8 = .ok (.if_icmp .lt 5, 3) := by decide +kernel
theorem dX4_firstDay_11 : decode cX4_firstDay 11 = .ok (.iconst (-1), 1) := by decide +kernel
theorem dX4_firstDay_12 : decode cX4_firstDay 12 = .ok (.ireturn, 1) := by decide +kernel
theorem dX4_firstDay_13 : decode cX4_firstDay 13 = .ok (.iconst 0, 1) := by decide +kernel
theorem dX4_firstDay_14 : decode cX4_firstDay 14 = .ok (.istore 5, 2) := by decide +kernel
theorem dX4_firstDay_16 : decode cX4_firstDay 16 = .ok (.iload 5, 2) := by decide +kernel
theorem dX4_firstDay_18 : decode cX4_firstDay 18 = .ok (.aload_n 0, 1) := by decide +kernel
theorem dX4_firstDay_19 : decode cX4_firstDay 19 = .ok (.getfield 25, 3) := by decide +kernel
theorem dX4_firstDay_22 : decode cX4_firstDay 22 = .ok (.if_icmp .ge 55, 3) := by decide +kernel
theorem dX4_firstDay_25 : decode cX4_firstDay 25 = .ok (.aload_n 0, 1) := by decide +kernel
theorem dX4_firstDay_26 : decode cX4_firstDay 26 = .ok (.getfield 9, 3) := by decide +kernel
theorem dX4_firstDay_29 : decode cX4_firstDay 29 = .ok (.iload_n 1, 1) := by decide +kernel
theorem dX4_firstDay_30 : decode cX4_firstDay 30 = .ok (.bipush 9, 2) := by decide +kernel
theorem dX4_firstDay_32 : decode cX4_firstDay 32 = .ok (.imul, 1) := by decide +kernel
theorem dX4_firstDay_33 : decode cX4_firstDay 33 = .ok (.iload 5, 2) := by decide +kernel
theorem dX4_firstDay_35 : decode cX4_firstDay 35 = .ok (.iadd, 1) := by decide +kernel
theorem dX4_firstDay_36 : decode cX4_firstDay 36 = .ok (.iaload, 1) := by decide +kernel
theorem dX4_firstDay_37 : decode cX4_firstDay 37 = .ok (.istore 6, 2) := by decide +kernel
theorem dX4_firstDay_39 : decode cX4_firstDay 39 = .ok (.iload 4, 2) := by decide +kernel
theorem dX4_firstDay_41 : decode cX4_firstDay 41 = .ok (.iload 5, 2) := by decide +kernel
theorem dX4_firstDay_43 : decode cX4_firstDay 43 = .ok (.invokestatic 49, 3) := by decide +kernel
theorem dX4_firstDay_46 : decode cX4_firstDay 46 = .ok (.ifCond .ne 25, 3) := by decide +kernel
theorem dX4_firstDay_49 : decode cX4_firstDay 49 = .ok (.iload 6, 2) := by decide +kernel
theorem dX4_firstDay_51 : decode cX4_firstDay 51 = .ok (.aload_n 0, 1) := by decide +kernel
theorem dX4_firstDay_52 : decode cX4_firstDay 52 = .ok (.iload_n 3, 1) := by decide +kernel
theorem dX4_firstDay_53 : decode cX4_firstDay 53 = .ok (.iload 4, 2) := by decide +kernel
theorem dX4_firstDay_55 : decode cX4_firstDay 55 = .ok (.iconst 1, 1) := by decide +kernel
theorem dX4_firstDay_56 : decode cX4_firstDay 56 = .ok (.iload 5, 2) := by decide +kernel
theorem dX4_firstDay_58 : decode cX4_firstDay 58 = .ok (.ishl, 1) := by decide +kernel
theorem dX4_firstDay_59 : decode cX4_firstDay 59 = .ok (.ior, 1) := by decide +kernel
theorem dX4_firstDay_60 : decode cX4_firstDay 60 = .ok (.invokevirtual 60, 3) := by decide +kernel
theorem dX4_firstDay_63 : decode cX4_firstDay 63 = .ok (.iadd, 1) := by decide +kernel
theorem dX4_firstDay_64 : decode cX4_firstDay 64 = .ok (.iload_n 2, 1) := by decide +kernel
theorem dX4_firstDay_65 : decode cX4_firstDay 65 = .ok (.if_icmp .lt 6, 3) := by decide +kernel
theorem dX4_firstDay_68 : decode cX4_firstDay 68 = .ok (.iload 5, 2) := by decide +kernel
theorem dX4_firstDay_70 : decode cX4_firstDay 70 = .ok (.ireturn, 1) := by decide +kernel
theorem dX4_firstDay_71 : decode cX4_firstDay 71 = .ok (.iinc 5 1, 3) := by decide +kernel
theorem dX4_firstDay_74 : decode cX4_firstDay 74 = .ok (.goto (-58), 3) := by decide +kernel
theorem dX4_firstDay_77 : decode cX4_firstDay 77 = .ok (.iconst (-1), 1) := by decide +kernel
theorem dX4_firstDay_78 : decode cX4_firstDay 78 = .ok (.ireturn, 1) := by decide +kernel
set_option maxRecDepth 20000 in
theorem ggX5_init_X3_init : GoodIn wsX5_init wsX3_init := goodIn_r _ [10, 11, 2, 3, 12, 13, 14, 15, 19, 20, 21, 22, 23, 24, 25, 26, 27, 28] (by decide +kernel) (by decide +kernel)
set_option maxRecDepth 20000 in
theorem gX5_init_X3_init : GoodIn wsX5_init (wsX3_init) := ggX5_init_X3_init
theorem dX5_init_0 : decode cX5_init 0 = .ok (.aload_n 0, 1) := by decide +kernel
theorem dX5_init_1 : decode cX5_init 1 = .ok (.invokespecial 3, 3) := by decide +kernel
theorem dX5_init_4 : decode cX5_init 4 = .ok (.aload_n 0, 1) := by decide +kernel
theorem dX5_init_5 : decode cX5_init 5 = .ok (.bipush 8, 2) := by decide +kernel
theorem dX5_init_7 : decode cX5_init 7 = .ok (.anewarray 9, 3) := by decide +kernel
theorem dX5_init_10 : decode cX5_init 10 = .ok (.putfield 11, 3) := by decide +kernel
theorem dX5_init_13 : decode cX5_init 13 = .ok (.iconst 0, 1) := by decide +kernel
theorem dX5_init_14 : decode cX5_init 14 = .ok (.istore_n 1, 1) := by decide +kernel
theorem dX5_init_15 : decode cX5_init 15 = .ok (.iload_n 1, 1) := by decide +kernel
theorem dX5_init_16 : decode cX5_init 16 = .ok (.bipush 8, 2) := by decide +kernel
theorem dX5_init_18 : decode cX5_init 18 = .ok (.if_icmp .ge 22, 3) := by decide +kernel
theorem dX5_init_21 : decode cX5_init 21 = .ok (.aload_n 0, 1) := by decide +kernel
theorem dX5_init_22 : decode cX5_init 22 = .ok (.getfield 11, 3) := by decide +kernel
theorem dX5_init_25 : decode cX5_init 25 = .ok (.iload_n 1, 1) := by decide +kernel
theorem dX5_init_26 : decode cX5_init 26 = .ok (.new 9, 3) := by decide +kernel
theorem dX5_init_29 : decode cX5_init 29 = .ok (.dup, 1) := by decide +kernel
theorem dX5_init_30 : decode cX5_init 30 = .ok (.invokespecial 17, 3) := by decide +kernel
theorem dX5_init_33 : decode cX5_init 33 = .ok (.aastore, 1) := by decide +kernel
theorem dX5_init_34 : decode cX5_init 34 = .ok (.iinc 1 1, 3) := by decide +kernel
theorem dX5_init_37 : decode cX5_init 37 = .ok (.goto (-22), 3) := by decide +kernel
theorem dX5_init_40 : decode cX5_init 40 = .ok (.return_, 1) := by decide +kernel
set_option maxRecDepth 20000 in
theorem ggX5_remember_X3_copyFrom : GoodIn wsX5_remember wsX3_copyFrom := goodIn_r _ [12, 13, 14, 15, 16, 17, 18, 19, 20, 21, 22, 23, 24, 25, 26, 30, 31, 32, 33, 34, 35, 36, 37, 38, 39] (by decide +kernel) (by decide +kernel)
set_option maxRecDepth 20000 in
theorem gX5_remember_X3_copyFrom : GoodIn wsX5_remember (wsV RX5 22 RX3 yX3_copyFrom wsX3_copyFrom) := goodIn_app (goodIn_of _ (by decide +kernel)) ggX5_remember_X3_copyFrom
theorem dX5_remember_0 : decode cX5_remember 0 = .ok (.aload_n 0, 1) := by decide +kernel
theorem dX5_remember_1 : decode cX5_remember 1 = .ok (.getfield 11, 3) := by decide +kernel
theorem dX5_remember_4 : decode cX5_remember 4 = .ok (.aload_n 0, 1) := by decide +kernel
theorem dX5_remember_5 : decode cX5_remember 5 = .ok (.getfield 18, 3) := by decide +kernel
theorem dX5_remember_8 : decode cX5_remember 8 = .ok (.aaload, 1) := by decide +kernel
theorem dX5_remember_9 : decode cX5_remember 9 = .ok (.aload_n 1, 1) := by decide +kernel
theorem dX5_remember_10 : decode cX5_remember 10 = .ok (.invokevirtual 22, 3) := by decide +kernel
theorem dX5_remember_13 : decode cX5_remember 13 = .ok (.aload_n 0, 1) := by decide +kernel
theorem dX5_remember_14 : decode cX5_remember 14 = .ok (.aload_n 0, 1) := by decide +kernel
theorem dX5_remember_15 : decode cX5_remember 15 = .ok (.getfield 18, 3) := by decide +kernel
theorem dX5_remember_18 : decode cX5_remember 18 = .ok (.iconst 1, 1) := by decide +kernel
theorem dX5_remember_19 : decode cX5_remember 19 = .ok (.iadd, 1) := by decide +kernel
theorem dX5_remember_20 : decode cX5_remember 20 = .ok (.bipush 8, 2) := by decide +kernel
theorem dX5_remember_22 : decode cX5_remember 22 = .ok (.irem, 1) := by decide +kernel
theorem dX5_remember_23 : decode cX5_remember 23 = .ok (.putfield 18, 3) := by decide +kernel
theorem dX5_remember_26 : decode cX5_remember 26 = .ok (.aload_n 0, 1) := by decide +kernel
theorem dX5_remember_27 : decode cX5_remember 27 = .ok (.aload_n 0, 1) := by decide +kernel
theorem dX5_remember_28 : decode cX5_remember 28 = .ok (.getfield 26, 3) := by decide +kernel
theorem dX5_remember_31 : decode cX5_remember 31 = .ok (.iconst 1, 1) := by decide +kernel
theorem dX5_remember_32 : decode cX5_remember 32 = .ok (.iadd, 1) := by decide +kernel
theorem dX5_remember_33 : decode cX5_remember 33 = .ok (.bipush 8, 2) := by decide +kernel
theorem dX5_remember_35 : decode cX5_remember 35 = .ok (.invokestatic 29, 3) := by decide +kernel
theorem dX5_remember_38 : decode cX5_remember 38 = .ok (.putfield 26, 3) := by decide +kernel
theorem dX5_remember_41 : decode cX5_remember 41 = .ok (.return_, 1) := by decide +kernel
set_option maxRecDepth 20000 in
theorem ggX5_recall_X3_copyFrom : GoodIn wsX5_recall wsX3_copyFrom := goodIn_r _ [12, 13, 14, 15, 16, 17, 18, 19, 20, 21, 22, 23, 24, 25, 26, 30, 31, 32, 33, 34, 35, 36, 37, 38, 39] (by decide +kernel) (by decide +kernel)
set_option maxRecDepth 20000 in
theorem gX5_recall_X3_copyFrom : GoodIn wsX5_recall (wsV RX5 22 RX3 yX3_copyFrom wsX3_copyFrom) := goodIn_app (goodIn_of _ (by decide +kernel)) ggX5_recall_X3_copyFrom
theorem dX5_recall_0 : decode cX5_recall 0 = .ok (.aload_n 0, 1) := by decide +kernel
theorem dX5_recall_1 : decode cX5_recall 1 = .ok (.aload_n 0, 1) := by decide +kernel
theorem dX5_recall_2 : decode cX5_recall 2 = .ok (.getfield 18, 3) := by decide +kernel
theorem dX5_recall_5 : decode cX5_recall 5 = .ok (.bipush 8, 2) := by decide +kernel
theorem dX5_recall_7 : decode cX5_recall 7 = .ok (.iadd, 1) := by decide +kernel
theorem dX5_recall_8 : decode cX5_recall 8 = .ok (.iconst 1, 1) := by decide +kernel
theorem dX5_recall_9 : decode cX5_recall 9 = .ok (.isub, 1) := by decide +kernel
theorem dX5_recall_10 : decode cX5_recall 10 = .ok (.bipush 8, 2) := by decide +kernel
theorem dX5_recall_12 : decode cX5_recall 12 = .ok (.irem, 1) := by decide +kernel
theorem dX5_recall_13 : decode cX5_recall 13 = .ok (.putfield 18, 3) := by decide +kernel
theorem dX5_recall_16 : decode cX5_recall 16 = .ok (.aload_n 1, 1) := by decide +kernel
theorem dX5_recall_17 : decode cX5_recall 17 = .ok (.aload_n 0, 1) := by decide +kernel
theorem dX5_recall_18 : decode cX5_recall 18 = .ok (.getfield 11, 3) := by decide +kernel
theorem dX5_recall_21 : decode cX5_recall 21 = .ok (.aload_n 0, 1) := by decide +kernel
theorem dX5_recall_22 : decode cX5_recall 22 = .ok (.getfield 18, 3) := by decide +kernel
theorem dX5_recall_25 : decode cX5_recall 25 = .ok (.aaload, 1) := by decide +kernel
theorem dX5_recall_26 : decode cX5_recall 26 = .ok (.invokevirtual 22, 3) := by decide +kernel
theorem dX5_recall_29 : decode cX5_recall 29 = .ok (.aload_n 0, 1) := by decide +kernel
theorem dX5_recall_30 : decode cX5_recall 30 = .ok (.iconst 0, 1) := by decide +kernel
theorem dX5_recall_31 : decode cX5_recall 31 = .ok (.aload_n 0, 1) := by decide +kernel
theorem dX5_recall_32 : decode cX5_recall 32 = .ok (.getfield 26, 3) := by decide +kernel
theorem dX5_recall_35 : decode cX5_recall 35 = .ok (.iconst 1, 1) := by decide +kernel
theorem dX5_recall_36 : decode cX5_recall 36 = .ok (.isub, 1) := by decide +kernel
theorem dX5_recall_37 : decode cX5_recall 37 = .ok (.invokestatic 35, 3) := by decide +kernel
theorem dX5_recall_40 : decode cX5_recall 40 = .ok (.putfield 26, 3) := by decide +kernel
theorem dX5_recall_43 : decode cX5_recall 43 = .ok (.return_, 1) := by decide +kernel
