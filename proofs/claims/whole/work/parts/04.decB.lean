theorem dX6_init_0 : decode cX6_init 0 = .ok (.aload_n 0, 1) := by decide +kernel
theorem dX6_init_1 : decode cX6_init 1 = .ok (.invokespecial 3, 3) := by decide +kernel
theorem dX6_init_4 : decode cX6_init 4 = .ok (.aload_n 0, 1) := by decide +kernel
theorem dX6_init_5 : decode cX6_init 5 = .ok (.iconst 5, 1) := by decide +kernel
theorem dX6_init_6 : decode cX6_init 6 = .ok (.newarray .int, 2) := by decide +kernel
theorem dX6_init_8 : decode cX6_init 8 = .ok (.putfield 9, 3) := by decide +kernel
theorem dX6_init_11 : decode cX6_init 11 = .ok (.aload_n 0, 1) := by decide +kernel
theorem dX6_init_12 : decode cX6_init 12 = .ok (.iconst 5, 1) := by decide +kernel
theorem dX6_init_13 : decode cX6_init 13 = .ok (.newarray .int, 2) := by decide +kernel
theorem dX6_init_15 : decode cX6_init 15 = .ok (.putfield 15, 3) := by decide +kernel
theorem dX6_init_18 : decode cX6_init 18 = .ok (.aload_n 0, 1) := by decide +kernel
theorem dX6_init_19 : decode cX6_init 19 = .ok (.bipush 6, 2) := by decide +kernel
theorem dX6_init_21 : decode cX6_init 21 = .ok (.newarray .int, 2) := by decide +kernel
theorem dX6_init_23 : decode cX6_init 23 = .ok (.putfield 18, 3) := by decide +kernel
theorem dX6_init_26 : decode cX6_init 26 = .ok (.aload_n 0, 1) := by decide +kernel
theorem dX6_init_27 : decode cX6_init 27 = .ok (.bipush 64, 2) := by decide +kernel
theorem dX6_init_29 : decode cX6_init 29 = .ok (.newarray .int, 2) := by decide +kernel
theorem dX6_init_31 : decode cX6_init 31 = .ok (.putfield 21, 3) := by decide +kernel
theorem dX6_init_34 : decode cX6_init 34 = .ok (.aload_n 0, 1) := by decide +kernel
theorem dX6_init_35 : decode cX6_init 35 = .ok (.bipush 64, 2) := by decide +kernel
theorem dX6_init_37 : decode cX6_init 37 = .ok (.newarray .int, 2) := by decide +kernel
theorem dX6_init_39 : decode cX6_init 39 = .ok (.putfield 24, 3) := by decide +kernel
theorem dX6_init_42 : decode cX6_init 42 = .ok (.aload_n 0, 1) := by decide +kernel
theorem dX6_init_43 : decode cX6_init 43 = .ok (.bipush 64, 2) := by decide +kernel
theorem dX6_init_45 : decode cX6_init 45 = .ok (.newarray .int, 2) := by decide +kernel
theorem dX6_init_47 : decode cX6_init 47 = .ok (.putfield 27, 3) := by decide +kernel
theorem dX6_init_50 : decode cX6_init 50 = .ok (.aload_n 0, 1) := by decide +kernel
theorem dX6_init_51 : decode cX6_init 51 = .ok (.bipush 64, 2) := by decide +kernel
theorem dX6_init_53 : decode cX6_init 53 = .ok (.newarray .int, 2) := by decide +kernel
theorem dX6_init_55 : decode cX6_init 55 = .ok (.putfield 30, 3) := by decide +kernel
theorem dX6_init_58 : decode cX6_init 58 = .ok (.return_, 1) := by decide +kernel
set_option maxRecDepth 20000 in
theorem ggX6_takeUp_X8_skillBitsOf : GoodIn wsX6_takeUp wsX8_skillBitsOf := goodIn_r _ [17, 18, 32, 33, 34, 35, 36, 37, 38, 39, 40, 41, 42, 43, 44, 45, 46] (by decide +kernel) (by decide +kernel)
set_option maxRecDepth 20000 in
theorem gX6_takeUp_X8_skillBitsOf : GoodIn wsX6_takeUp (wsV RX6 47 RX8 yX8_skillBitsOf wsX8_skillBitsOf) := goodIn_app (goodIn_of _ (by decide +kernel)) ggX6_takeUp_X8_skillBitsOf
set_option maxRecDepth 20000 in
theorem ggX6_takeUp_X10_bitOf : GoodIn wsX6_takeUp wsX10_bitOf := goodIn_r _ [21] (by decide +kernel) (by decide +kernel)
set_option maxRecDepth 20000 in
theorem gX6_takeUp_X10_bitOf_n56 : GoodIn wsX6_takeUp (wsX10_bitOf) := ggX6_takeUp_X10_bitOf
set_option maxRecDepth 20000 in
theorem ggX6_takeUp_X6_addUpSets : GoodIn wsX6_takeUp wsX6_addUpSets := goodIn_r _ [26, 4, 27, 28, 29, 30, 31, 11, 47, 48, 49, 50, 51, 52, 53, 54, 55, 56, 32, 33, 34, 35, 36, 37, 38, 39, 40, 41, 42, 43, 44, 45, 46] (by decide +kernel) (by decide +kernel)
set_option maxRecDepth 20000 in
theorem gX6_takeUp_X6_addUpSets : GoodIn wsX6_takeUp (wsV RX6 69 RX6 yX6_addUpSets wsX6_addUpSets) := goodIn_app (goodIn_of _ (by decide +kernel)) ggX6_takeUp_X6_addUpSets
theorem dX6_takeUp_0 : decode cX6_takeUp 0 = .ok (.aload_n 0, 1) := by decide +kernel
theorem dX6_takeUp_1 : decode cX6_takeUp 1 = .ok (.aload_n 1, 1) := by decide +kernel
theorem dX6_takeUp_2 : decode cX6_takeUp 2 = .ok (.getfield 33, 3) := by decide +kernel
theorem dX6_takeUp_5 : decode cX6_takeUp 5 = .ok (.putfield 39, 3) := by decide +kernel
theorem dX6_takeUp_8 : decode cX6_takeUp 8 = .ok (.aload_n 0, 1) := by decide +kernel
theorem dX6_takeUp_9 : decode cX6_takeUp 9 = .ok (.aload_n 1, 1) := by decide +kernel
theorem dX6_takeUp_10 : decode cX6_takeUp 10 = .ok (.getfield 40, 3) := by decide +kernel
theorem dX6_takeUp_13 : decode cX6_takeUp 13 = .ok (.putfield 43, 3) := by decide +kernel
theorem dX6_takeUp_16 : decode cX6_takeUp 16 = .ok (.aload_n 0, 1) := by decide +kernel
theorem dX6_takeUp_17 : decode cX6_takeUp 17 = .ok (.iconst 0, 1) := by decide +kernel
theorem dX6_takeUp_18 : decode cX6_takeUp 18 = .ok (.putfield 44, 3) := by decide +kernel
theorem dX6_takeUp_21 : decode cX6_takeUp 21 = .ok (.iconst 0, 1) := by decide +kernel
theorem dX6_takeUp_22 : decode cX6_takeUp 22 = .ok (.istore_n 3, 1) := by decide +kernel
theorem dX6_takeUp_23 : decode cX6_takeUp 23 = .ok (.iload_n 3, 1) := by decide +kernel
theorem dX6_takeUp_24 : decode cX6_takeUp 24 = .ok (.aload_n 0, 1) := by decide +kernel
theorem dX6_takeUp_25 : decode cX6_takeUp 25 = .ok (.getfield 39, 3) := by decide +kernel
theorem dX6_takeUp_28 : decode cX6_takeUp 28 = .ok (.if_icmp .ge 48, 3) := by decide +kernel
theorem dX6_takeUp_31 : decode cX6_takeUp 31 = .ok (.aload_n 0, 1) := by decide +kernel
theorem dX6_takeUp_32 : decode cX6_takeUp 32 = .ok (.getfield 15, 3) := by decide +kernel
theorem dX6_takeUp_35 : decode cX6_takeUp 35 = .ok (.iload_n 3, 1) := by decide +kernel
theorem dX6_takeUp_36 : decode cX6_takeUp 36 = .ok (.aload_n 1, 1) := by decide +kernel
theorem dX6_takeUp_37 : decode cX6_takeUp 37 = .ok (.iload_n 3, 1) := by decide +kernel
theorem dX6_takeUp_38 : decode cX6_takeUp 38 = .ok (.invokevirtual 47, 3) := by decide +kernel
theorem dX6_takeUp_41 : decode cX6_takeUp 41 = .ok (.iastore, 1) := by decide +kernel
theorem dX6_takeUp_42 : decode cX6_takeUp 42 = .ok (.aload_n 0, 1) := by decide +kernel
theorem dX6_takeUp_43 : decode cX6_takeUp 43 = .ok (.getfield 9, 3) := by decide +kernel
theorem dX6_takeUp_46 : decode cX6_takeUp 46 = .ok (.iload_n 3, 1) := by decide +kernel
theorem dX6_takeUp_47 : decode cX6_takeUp 47 = .ok (.aload_n 2, 1) := by decide +kernel
theorem dX6_takeUp_48 : decode cX6_takeUp 48 = .ok (.getfield 51, 3) := by decide +kernel
theorem dX6_takeUp_51 : decode cX6_takeUp 51 = .ok (.iload_n 3, 1) := by decide +kernel
theorem dX6_takeUp_52 : decode cX6_takeUp 52 = .ok (.invokestatic 56, 3) := by decide +kernel
theorem dX6_takeUp_55 : decode cX6_takeUp 55 = .ok (.iconst 1, 1) := by decide +kernel
theorem dX6_takeUp_56 : decode cX6_takeUp 56 = .ok (.if_icmp .ne 7, 3) := by decide +kernel
theorem dX6_takeUp_59 : decode cX6_takeUp 59 = .ok (.iconst 0, 1) := by decide +kernel
theorem dX6_takeUp_60 : decode cX6_takeUp 60 = .ok (.goto 9, 3) := by decide +kernel
theorem dX6_takeUp_63 : decode cX6_takeUp 63 = .ok (.aload_n 2, 1) := by decide +kernel
theorem dX6_takeUp_64 : decode cX6_takeUp 64 = .ok (.getfield 60, 3) := by decide +kernel
theorem dX6_takeUp_67 : decode cX6_takeUp 67 = .ok (.iload_n 3, 1) := by decide +kernel
theorem dX6_takeUp_68 : decode cX6_takeUp 68 = .ok (.iaload, 1) := by decide +kernel
theorem dX6_takeUp_69 : decode cX6_takeUp 69 = .ok (.iastore, 1) := by decide +kernel
theorem dX6_takeUp_70 : decode cX6_takeUp 70 = .ok (.iinc 3 1, 3) := by decide +kernel
theorem dX6_takeUp_73 : decode cX6_takeUp 73 = .ok (.goto (-50), 3) := by decide +kernel
theorem dX6_takeUp_76 : decode cX6_takeUp 76 = .ok (.iconst 0, 1) := by decide +kernel
theorem dX6_takeUp_77 : decode cX6_takeUp 77 = .ok (.istore_n 3, 1) := by decide +kernel
theorem dX6_takeUp_78 : decode cX6_takeUp 78 = .ok (.iload_n 3, 1) := by decide +kernel
theorem dX6_takeUp_79 : decode cX6_takeUp 79 = .ok (.aload_n 0, 1) := by decide +kernel
theorem dX6_takeUp_80 : decode cX6_takeUp 80 = .ok (.getfield 43, 3) := by decide +kernel
theorem dX6_takeUp_83 : decode cX6_takeUp 83 = .ok (.if_icmp .ge 70, 3) := by decide +kernel
theorem dX6_takeUp_86 : decode cX6_takeUp 86 = .ok (.aload_n 2, 1) := by decide +kernel
theorem dX6_takeUp_87 : decode cX6_takeUp 87 = .ok (.getfield 63, 3) := by decide +kernel
theorem dX6_takeUp_90 : decode cX6_takeUp 90 = .ok (.iload_n 3, 1) := by decide +kernel
theorem dX6_takeUp_91 : decode cX6_takeUp 91 = .ok (.iaload, 1) := by decide +kernel
theorem dX6_takeUp_92 : decode cX6_takeUp 92 = .ok (.ifCond .le 7, 3) := by decide +kernel
theorem dX6_takeUp_95 : decode cX6_takeUp 95 = .ok (.iconst 1, 1) := by decide +kernel
theorem dX6_takeUp_96 : decode cX6_takeUp 96 = .ok (.goto 4, 3) := by decide +kernel
theorem dX6_takeUp_99 : decode cX6_takeUp 99 = .ok (.iconst 0, 1) := by decide +kernel
theorem dX6_takeUp_100 : decode cX6_takeUp 100 = .ok (.istore 4, 2) := by decide +kernel
theorem dX6_takeUp_102 : decode cX6_takeUp 102 = .ok (.aload_n 0, 1) := by decide +kernel
theorem dX6_takeUp_103 : decode cX6_takeUp 103 = .ok (.getfield 18, 3) := by decide +kernel
theorem dX6_takeUp_106 : decode cX6_takeUp 106 = .ok (.iload_n 3, 1) := by decide +kernel
theorem dX6_takeUp_107 : decode cX6_takeUp 107 = .ok (.iload 4, 2) := by decide +kernel
theorem dX6_takeUp_109 : decode cX6_takeUp 109 = .ok (.ifCond .eq 7, 3) := by decide +kernel
theorem dX6_takeUp_112 : decode cX6_takeUp 112 = .ok (.iconst 0, 1) := by decide +kernel
theorem dX6_takeUp_113 : decode cX6_takeUp 113 = .ok (.goto 9, 3) := by decide +kernel
theorem dX6_takeUp_116 : decode cX6_takeUp 116 = .ok (.aload_n 1, 1) := by decide +kernel
theorem dX6_takeUp_117 : decode cX6_takeUp 117 = .ok (.getfield 66, 3) := by decide +kernel
theorem dX6_takeUp_120 : decode cX6_takeUp 120 = .ok (.iload_n 3, 1) := by decide +kernel
theorem dX6_takeUp_121 : decode cX6_takeUp 121 = .ok (.iaload, 1) := by decide +kernel
theorem dX6_takeUp_122 : decode cX6_takeUp 122 = .ok (.iastore, 1) := by decide +kernel
theorem dX6_takeUp_123 : decode cX6_takeUp 123 = .ok (.aload_n 0, 1) := by decide +kernel
theorem dX6_takeUp_124 : decode cX6_takeUp 124 = .ok (.dup, 1) := by decide +kernel
theorem dX6_takeUp_125 : decode cX6_takeUp 125 = .ok (.getfield 44, 3) := by decide +kernel
theorem dX6_takeUp_128 : decode cX6_takeUp 128 = .ok (.iload 4, 2) := by decide +kernel
theorem dX6_takeUp_130 : decode cX6_takeUp 130 = .ok (.ifCond .eq 12, 3) := by decide +kernel
theorem dX6_takeUp_133 : decode cX6_takeUp 133 = .ok (.aload_n 1, 1) := by decide +kernel
theorem dX6_takeUp_134 : decode cX6_takeUp 134 = .ok (.getfield 66, 3) := by decide +kernel
theorem dX6_takeUp_137 : decode cX6_takeUp 137 = .ok (.iload_n 3, 1) := by decide +kernel
theorem dX6_takeUp_138 : decode cX6_takeUp 138 = .ok (.iaload, 1) := by decide +kernel
theorem dX6_takeUp_139 : decode cX6_takeUp 139 = .ok (.goto 4, 3) := by decide +kernel
theorem dX6_takeUp_142 : decode cX6_takeUp 142 = .ok (.iconst 0, 1) := by decide +kernel
theorem dX6_takeUp_143 : decode cX6_takeUp 143 = .ok (.iadd, 1) := by decide +kernel
theorem dX6_takeUp_144 : decode cX6_takeUp 144 = .ok (.putfield 44, 3) := by decide +kernel
theorem dX6_takeUp_147 : decode cX6_takeUp 147 = .ok (.iinc 3 1, 3) := by decide +kernel
theorem dX6_takeUp_150 : decode cX6_takeUp 150 = .ok (.goto (-72), 3) := by decide +kernel
theorem dX6_takeUp_153 : decode cX6_takeUp 153 = .ok (.aload_n 0, 1) := by decide +kernel
theorem dX6_takeUp_154 : decode cX6_takeUp 154 = .ok (.aload_n 1, 1) := by decide +kernel
theorem dX6_takeUp_155 : decode cX6_takeUp 155 = .ok (.invokevirtual 69, 3) := by decide +kernel
theorem dX6_takeUp_158 : decode cX6_takeUp 158 = .ok (.return_, 1) := by decide +kernel
theorem dX6_addUpSets_0 : decode cX6_addUpSets 0 = .ok (.iconst 0, 1) := by decide +kernel
theorem dX6_addUpSets_1 : decode cX6_addUpSets 1 = .ok (.istore_n 2, 1) := by decide +kernel
theorem dX6_addUpSets_2 : decode cX6_addUpSets 2 = .ok (.iload_n 2, 1) := by decide +kernel
theorem dX6_addUpSets_3 : decode cX6_addUpSets 3 = .ok (.aload_n 0, 1) := by decide +kernel
theorem dX6_addUpSets_4 : decode cX6_addUpSets 4 = .ok (.getfield 43, 3) := by decide +kernel
theorem dX6_addUpSets_7 : decode cX6_addUpSets 7 = .ok (.if_icmp .ge 101, 3) := by decide +kernel
theorem dX6_addUpSets_10 : decode cX6_addUpSets 10 = .ok (.iconst 1, 1) := by decide +kernel
theorem dX6_addUpSets_11 : decode cX6_addUpSets 11 = .ok (.iload_n 2, 1) := by decide +kernel
theorem dX6_addUpSets_12 : decode cX6_addUpSets 12 = .ok (.ishl, 1) := by decide +kernel
theorem dX6_addUpSets_13 : decode cX6_addUpSets 13 = .ok (.istore_n 3, 1) := by decide +kernel
theorem dX6_addUpSets_14 : decode cX6_addUpSets 14 = .ok (.iload_n 3, 1) := by decide +kernel
theorem dX6_addUpSets_15 : decode cX6_addUpSets 15 = .ok (.istore 4, 2) := by decide +kernel
theorem dX6_addUpSets_17 : decode cX6_addUpSets 17 = .ok (.iload 4, 2) := by decide +kernel
theorem dX6_addUpSets_19 : decode cX6_addUpSets 19 = .ok (.iconst 2, 1) := by decide +kernel
theorem dX6_addUpSets_20 : decode cX6_addUpSets 20 = .ok (.iload_n 3, 1) := by decide +kernel
theorem dX6_addUpSets_21 : decode cX6_addUpSets 21 = .ok (.imul, 1) := by decide +kernel
theorem dX6_addUpSets_22 : decode cX6_addUpSets 22 = .ok (.if_icmp .ge 80, 3) := by decide +kernel
theorem dX6_addUpSets_25 : decode cX6_addUpSets 25 = .ok (.iload 4, 2) := by decide +kernel
theorem dX6_addUpSets_27 : decode cX6_addUpSets 27 = .ok (.iload_n 3, 1) := by decide +kernel
theorem dX6_addUpSets_28 : decode cX6_addUpSets 28 = .ok (.isub, 1) := by decide +kernel
theorem dX6_addUpSets_29 : decode cX6_addUpSets 29 = .ok (.istore 5, 2) := by decide +kernel
theorem dX6_addUpSets_31 : decode cX6_addUpSets 31 = .ok (.aload_n 0, 1) := by decide +kernel
theorem dX6_addUpSets_32 : decode cX6_addUpSets 32 = .ok (.getfield 21, 3) := by decide +kernel
theorem dX6_addUpSets_35 : decode cX6_addUpSets 35 = .ok (.iload 4, 2) := by decide +kernel
theorem dX6_addUpSets_37 : decode cX6_addUpSets 37 = .ok (.aload_n 0, 1) := by decide +kernel
theorem dX6_addUpSets_38 : decode cX6_addUpSets 38 = .ok (.getfield 21, 3) := by decide +kernel
theorem dX6_addUpSets_41 : decode cX6_addUpSets 41 = .ok (.iload 5, 2) := by decide +kernel
theorem dX6_addUpSets_43 : decode cX6_addUpSets 43 = .ok (.iaload, 1) := by decide +kernel
theorem dX6_addUpSets_44 : decode cX6_addUpSets 44 = .ok (.aload_n 1, 1) := by decide +kernel
theorem dX6_addUpSets_45 : decode cX6_addUpSets 45 = .ok (.getfield 73, 3) := by decide +kernel
theorem dX6_addUpSets_48 : decode cX6_addUpSets 48 = .ok (.iload_n 2, 1) := by decide +kernel
theorem dX6_addUpSets_49 : decode cX6_addUpSets 49 = .ok (.iaload, 1) := by decide +kernel
theorem dX6_addUpSets_50 : decode cX6_addUpSets 50 = .ok (.iadd, 1) := by decide +kernel
theorem dX6_addUpSets_51 : decode cX6_addUpSets 51 = .ok (.iastore, 1) := by decide +kernel
theorem dX6_addUpSets_52 : decode cX6_addUpSets 52 = .ok (.aload_n 0, 1) := by decide +kernel
theorem dX6_addUpSets_53 : decode cX6_addUpSets 53 = .ok (.getfield 24, 3) := by decide +kernel
theorem dX6_addUpSets_56 : decode cX6_addUpSets 56 = .ok (.iload 4, 2) := by decide +kernel
theorem dX6_addUpSets_58 : decode cX6_addUpSets 58 = .ok (.aload_n 0, 1) := by decide +kernel
theorem dX6_addUpSets_59 : decode cX6_addUpSets 59 = .ok (.getfield 24, 3) := by decide +kernel
theorem dX6_addUpSets_62 : decode cX6_addUpSets 62 = .ok (.iload 5, 2) := by decide +kernel
theorem dX6_addUpSets_64 : decode cX6_addUpSets 64 = .ok (.iaload, 1) := by decide +kernel
theorem dX6_addUpSets_65 : decode cX6_addUpSets 65 = .ok (.iconst 1, 1) := by decide +kernel
theorem dX6_addUpSets_66 : decode cX6_addUpSets 66 = .ok (.aload_n 1, 1) := by decide +kernel
theorem dX6_addUpSets_67 : decode cX6_addUpSets 67 = .ok (.getfield 76, 3) := by decide +kernel
theorem dX6_addUpSets_70 : decode cX6_addUpSets 70 = .ok (.iload_n 2, 1) := by decide +kernel
theorem dX6_addUpSets_71 : decode cX6_addUpSets 71 = .ok (.iaload, 1) := by decide +kernel
theorem dX6_addUpSets_72 : decode cX6_addUpSets 72 = .ok (.ishl, 1) := by decide +kernel
theorem dX6_addUpSets_73 : decode cX6_addUpSets 73 = .ok (.ior, 1) := by decide +kernel
theorem dX6_addUpSets_74 : decode cX6_addUpSets 74 = .ok (.iastore, 1) := by decide +kernel
theorem dX6_addUpSets_75 : decode cX6_addUpSets 75 = .ok (.aload_n 0, 1) := by decide +kernel
theorem dX6_addUpSets_76 : decode cX6_addUpSets 76 = .ok (.getfield 27, 3) := by decide +kernel
theorem dX6_addUpSets_79 : decode cX6_addUpSets 79 = .ok (.iload 4, 2) := by decide +kernel
theorem dX6_addUpSets_81 : decode cX6_addUpSets 81 = .ok (.aload_n 0, 1) := by decide +kernel
theorem dX6_addUpSets_82 : decode cX6_addUpSets 82 = .ok (.getfield 27, 3) := by decide +kernel
theorem dX6_addUpSets_85 : decode cX6_addUpSets 85 = .ok (.iload 5, 2) := by decide +kernel
theorem dX6_addUpSets_87 : decode cX6_addUpSets 87 = .ok (.iaload, 1) := by decide +kernel
theorem dX6_addUpSets_88 : decode cX6_addUpSets 88 = .ok (.aload_n 0, 1) := by decide +kernel
theorem dX6_addUpSets_89 : decode cX6_addUpSets 89 = .ok (.getfield 18, 3) := by decide +kernel
theorem dX6_addUpSets_92 : decode cX6_addUpSets 92 = .ok (.iload_n 2, 1) := by decide +kernel
theorem dX6_addUpSets_93 : decode cX6_addUpSets 93 = .ok (.iaload, 1) := by decide +kernel
theorem dX6_addUpSets_94 : decode cX6_addUpSets 94 = .ok (.iadd, 1) := by decide +kernel
theorem dX6_addUpSets_95 : decode cX6_addUpSets 95 = .ok (.iastore, 1) := by decide +kernel
theorem dX6_addUpSets_96 : decode cX6_addUpSets 96 = .ok (.iinc 4 1, 3) := by decide +kernel
theorem dX6_addUpSets_99 : decode cX6_addUpSets 99 = .ok (.goto (-82), 3) := by decide +kernel
theorem dX6_addUpSets_102 : decode cX6_addUpSets 102 = .ok (.iinc 2 1, 3) := by decide +kernel
theorem dX6_addUpSets_105 : decode cX6_addUpSets 105 = .ok (.goto (-103), 3) := by decide +kernel
theorem dX6_addUpSets_108 : decode cX6_addUpSets 108 = .ok (.return_, 1) := by decide +kernel
set_option maxRecDepth 20000 in
theorem ggX6_mostFrom_J7_fill_53178 : GoodIn wsX6_mostFrom wsJ7_fill_53178 := goodIn_r _ [12] (by decide +kernel) (by decide +kernel)
set_option maxRecDepth 20000 in
theorem gX6_mostFrom_J7_fill_53178 : GoodIn wsX6_mostFrom (va_wsS RX6 84 yJ7_fill_53178 wsJ7_fill_53178) := goodIn_app (goodIn_of _ (by decide +kernel)) ggX6_mostFrom_J7_fill_53178
set_option maxRecDepth 20000 in
theorem ggX6_mostFrom_X6_mostWith : GoodIn wsX6_mostFrom wsX6_mostWith := goodIn_r _ [17, 6, 18, 19, 20, 21, 16, 22, 23, 8, 24, 25, 26, 27, 28, 29, 30, 31, 32, 33, 34, 35] (by decide +kernel) (by decide +kernel)
set_option maxRecDepth 20000 in
theorem gX6_mostFrom_X6_mostWith : GoodIn wsX6_mostFrom (wsV RX6 90 RX6 yX6_mostWith wsX6_mostWith) := goodIn_app (goodIn_of _ (by decide +kernel)) ggX6_mostFrom_X6_mostWith
theorem dX6_mostFrom_0 : decode cX6_mostFrom 0 = .ok (.iconst 1, 1) := by decide +kernel
theorem dX6_mostFrom_1 : decode cX6_mostFrom 1 = .ok (.iconst 0, 1) := by decide +kernel
theorem dX6_mostFrom_2 : decode cX6_mostFrom 2 = .ok (.aload_n 0, 1) := by decide +kernel
theorem dX6_mostFrom_3 : decode cX6_mostFrom 3 = .ok (.getfield 43, 3) := by decide +kernel
theorem dX6_mostFrom_6 : decode cX6_mostFrom 6 = .ok (.iload_n 1, 1) := by decide +kernel
theorem dX6_mostFrom_7 : decode cX6_mostFrom 7 = .ok (.isub, 1) := by decide +kernel
theorem dX6_mostFrom_8 : decode cX6_mostFrom 8 = .ok (.invokestatic 79, 3) := by decide +kernel
theorem dX6_mostFrom_11 : decode cX6_mostFrom 11 = .ok (.ishl, 1) := by decide +kernel
theorem dX6_mostFrom_12 : decode cX6_mostFrom 12 = .ok (.istore_n 2, 1) := by decide +kernel
theorem dX6_mostFrom_13 : decode cX6_mostFrom 13 = .ok (.aload_n 0, 1) := by decide +kernel
theorem dX6_mostFrom_14 : decode cX6_mostFrom 14 = .ok (.getfield 30, 3) := by decide +kernel
theorem dX6_mostFrom_17 : decode cX6_mostFrom 17 = .ok (.iconst 0, 1) := by decide +kernel
theorem dX6_mostFrom_18 : decode cX6_mostFrom 18 = .ok (.invokestatic 84, 3) := by decide +kernel
theorem dX6_mostFrom_21 : decode cX6_mostFrom 21 = .ok (.iconst 0, 1) := by decide +kernel
theorem dX6_mostFrom_22 : decode cX6_mostFrom 22 = .ok (.istore_n 3, 1) := by decide +kernel
theorem dX6_mostFrom_23 : decode cX6_mostFrom 23 = .ok (.iload_n 3, 1) := by decide +kernel
theorem dX6_mostFrom_24 : decode cX6_mostFrom 24 = .ok (.aload_n 0, 1) := by decide +kernel
theorem dX6_mostFrom_25 : decode cX6_mostFrom 25 = .ok (.getfield 39, 3) := by decide +kernel
theorem dX6_mostFrom_28 : decode cX6_mostFrom 28 = .ok (.if_icmp .ge 49, 3) := by decide +kernel
theorem dX6_mostFrom_31 : decode cX6_mostFrom 31 = .ok (.iload_n 2, 1) := by decide +kernel
theorem dX6_mostFrom_32 : decode cX6_mostFrom 32 = .ok (.iconst 1, 1) := by decide +kernel
theorem dX6_mostFrom_33 : decode cX6_mostFrom 33 = .ok (.isub, 1) := by decide +kernel
theorem dX6_mostFrom_34 : decode cX6_mostFrom 34 = .ok (.istore 4, 2) := by decide +kernel
theorem dX6_mostFrom_36 : decode cX6_mostFrom 36 = .ok (.iload 4, 2) := by decide +kernel
theorem dX6_mostFrom_38 : decode cX6_mostFrom 38 = .ok (.ifCond .le 33, 3) := by decide +kernel
theorem dX6_mostFrom_41 : decode cX6_mostFrom 41 = .ok (.aload_n 0, 1) := by decide +kernel
theorem dX6_mostFrom_42 : decode cX6_mostFrom 42 = .ok (.getfield 9, 3) := by decide +kernel
theorem dX6_mostFrom_45 : decode cX6_mostFrom 45 = .ok (.iload_n 3, 1) := by decide +kernel
theorem dX6_mostFrom_46 : decode cX6_mostFrom 46 = .ok (.iaload, 1) := by decide +kernel
theorem dX6_mostFrom_47 : decode cX6_mostFrom 47 = .ok (.ifCond .le 24, 3) := by decide +kernel
theorem dX6_mostFrom_50 : decode cX6_mostFrom 50 = .ok (.aload_n 0, 1) := by decide +kernel
theorem dX6_mostFrom_51 : decode cX6_mostFrom 51 = .ok (.getfield 30, 3) := by decide +kernel
theorem dX6_mostFrom_54 : decode cX6_mostFrom 54 = .ok (.iload 4, 2) := by decide +kernel
theorem dX6_mostFrom_56 : decode cX6_mostFrom 56 = .ok (.aload_n 0, 1) := by decide +kernel
theorem dX6_mostFrom_57 : decode cX6_mostFrom 57 = .ok (.iload_n 3, 1) := by decide +kernel
theorem dX6_mostFrom_58 : decode cX6_mostFrom 58 = .ok (.iload 4, 2) := by decide +kernel
theorem dX6_mostFrom_60 : decode cX6_mostFrom 60 = .ok (.iload_n 1, 1) := by decide +kernel
theorem dX6_mostFrom_61 : decode cX6_mostFrom 61 = .ok (.invokevirtual 90, 3) := by decide +kernel
theorem dX6_mostFrom_64 : decode cX6_mostFrom 64 = .ok (.iastore, 1) := by decide +kernel
theorem dX6_mostFrom_65 : decode cX6_mostFrom 65 = .ok (.iinc 4 (-1), 3) := by decide +kernel
theorem dX6_mostFrom_68 : decode cX6_mostFrom 68 = .ok (.goto (-32), 3) := by decide +kernel
theorem dX6_mostFrom_71 : decode cX6_mostFrom 71 = .ok (.iinc 3 1, 3) := by decide +kernel
theorem dX6_mostFrom_74 : decode cX6_mostFrom 74 = .ok (.goto (-51), 3) := by decide +kernel
theorem dX6_mostFrom_77 : decode cX6_mostFrom 77 = .ok (.aload_n 0, 1) := by decide +kernel
theorem dX6_mostFrom_78 : decode cX6_mostFrom 78 = .ok (.getfield 30, 3) := by decide +kernel
theorem dX6_mostFrom_81 : decode cX6_mostFrom 81 = .ok (.iload_n 2, 1) := by decide +kernel
theorem dX6_mostFrom_82 : decode cX6_mostFrom 82 = .ok (.iconst 1, 1) := by decide +kernel
theorem dX6_mostFrom_83 : decode cX6_mostFrom 83 = .ok (.isub, 1) := by decide +kernel
theorem dX6_mostFrom_84 : decode cX6_mostFrom 84 = .ok (.iaload, 1) := by decide +kernel
theorem dX6_mostFrom_85 : decode cX6_mostFrom 85 = .ok (.ireturn, 1) := by decide +kernel
set_option maxRecDepth 20000 in
theorem ggX6_mostWith_X6_fits : GoodIn wsX6_mostWith wsX6_fits := goodIn_r _ [7, 8, 9, 10, 11, 12, 13, 14, 15, 16, 17, 18, 19, 20, 21] (by decide +kernel) (by decide +kernel)
set_option maxRecDepth 20000 in
theorem gX6_mostWith_X6_fits : GoodIn wsX6_mostWith (wsV RX6 94 RX6 yX6_fits wsX6_fits) := goodIn_app (goodIn_of _ (by decide +kernel)) ggX6_mostWith_X6_fits
theorem dX6_mostWith_0 : decode cX6_mostWith 0 = .ok (.aload_n 0, 1) := by decide +kernel
theorem dX6_mostWith_1 : decode cX6_mostWith 1 = .ok (.getfield 30, 3) := by decide +kernel
theorem dX6_mostWith_4 : decode cX6_mostWith 4 = .ok (.iload_n 2, 1) := by decide +kernel
theorem dX6_mostWith_5 : decode cX6_mostWith 5 = .ok (.iaload, 1) := by decide +kernel
theorem dX6_mostWith_6 : decode cX6_mostWith 6 = .ok (.istore 4, 2) := by decide +kernel
theorem dX6_mostWith_8 : decode cX6_mostWith 8 = .ok (.iload_n 2, 1) := by decide +kernel
theorem dX6_mostWith_9 : decode cX6_mostWith 9 = .ok (.istore 5, 2) := by decide +kernel
theorem dX6_mostWith_11 : decode cX6_mostWith 11 = .ok (.iload 5, 2) := by decide +kernel
theorem dX6_mostWith_13 : decode cX6_mostWith 13 = .ok (.ifCond .le 58, 3) := by decide +kernel
theorem dX6_mostWith_16 : decode cX6_mostWith 16 = .ok (.aload_n 0, 1) := by decide +kernel
theorem dX6_mostWith_17 : decode cX6_mostWith 17 = .ok (.getfield 27, 3) := by decide +kernel
theorem dX6_mostWith_20 : decode cX6_mostWith 20 = .ok (.iload 5, 2) := by decide +kernel
theorem dX6_mostWith_22 : decode cX6_mostWith 22 = .ok (.iload_n 3, 1) := by decide +kernel
theorem dX6_mostWith_23 : decode cX6_mostWith 23 = .ok (.ishl, 1) := by decide +kernel
theorem dX6_mostWith_24 : decode cX6_mostWith 24 = .ok (.iaload, 1) := by decide +kernel
theorem dX6_mostWith_25 : decode cX6_mostWith 25 = .ok (.aload_n 0, 1) := by decide +kernel
theorem dX6_mostWith_26 : decode cX6_mostWith 26 = .ok (.getfield 30, 3) := by decide +kernel
theorem dX6_mostWith_29 : decode cX6_mostWith 29 = .ok (.iload_n 2, 1) := by decide +kernel
theorem dX6_mostWith_30 : decode cX6_mostWith 30 = .ok (.iload 5, 2) := by decide +kernel
theorem dX6_mostWith_32 : decode cX6_mostWith 32 = .ok (.ixor, 1) := by decide +kernel
theorem dX6_mostWith_33 : decode cX6_mostWith 33 = .ok (.iaload, 1) := by decide +kernel
theorem dX6_mostWith_34 : decode cX6_mostWith 34 = .ok (.iadd, 1) := by decide +kernel
theorem dX6_mostWith_35 : decode cX6_mostWith 35 = .ok (.istore 6, 2) := by decide +kernel
theorem dX6_mostWith_37 : decode cX6_mostWith 37 = .ok (.iload 6, 2) := by decide +kernel
theorem dX6_mostWith_39 : decode cX6_mostWith 39 = .ok (.iload 4, 2) := by decide +kernel
theorem dX6_mostWith_41 : decode cX6_mostWith 41 = .ok (.if_icmp .le 19, 3) := by decide +kernel
theorem dX6_mostWith_44 : decode cX6_mostWith 44 = .ok (.aload_n 0, 1) := by decide +kernel
theorem dX6_mostWith_45 : decode cX6_mostWith 45 = .ok (.iload_n 1, 1) := by decide +kernel
theorem dX6_mostWith_46 : decode cX6_mostWith 46 = .ok (.iload 5, 2) := by decide +kernel
theorem dX6_mostWith_48 : decode cX6_mostWith 48 = .ok (.iload_n 3, 1) := by decide +kernel
theorem dX6_mostWith_49 : decode cX6_mostWith 49 = .ok (.ishl, 1) := by decide +kernel
theorem dX6_mostWith_50 : decode cX6_mostWith 50 = .ok (.invokevirtual 94, 3) := by decide +kernel
theorem dX6_mostWith_53 : decode cX6_mostWith 53 = .ok (.ifCond .eq 7, 3) := by decide +kernel
theorem dX6_mostWith_56 : decode cX6_mostWith 56 = .ok (.iload 6, 2) := by decide +kernel
theorem dX6_mostWith_58 : decode cX6_mostWith 58 = .ok (.istore 4, 2) := by decide +kernel
theorem dX6_mostWith_60 : decode cX6_mostWith 60 = .ok (.iload 5, 2) := by decide +kernel
theorem dX6_mostWith_62 : decode cX6_mostWith 62 = .ok (.iconst 1, 1) := by decide +kernel
theorem dX6_mostWith_63 : decode cX6_mostWith 63 = .ok (.isub, 1) := by decide +kernel
theorem dX6_mostWith_64 : decode cX6_mostWith 64 = .ok (.iload_n 2, 1) := by decide +kernel
theorem dX6_mostWith_65 : decode cX6_mostWith 65 = .ok (.iand, 1) := by decide +kernel
theorem dX6_mostWith_66 : decode cX6_mostWith 66 = .ok (.istore 5, 2) := by decide +kernel
theorem dX6_mostWith_68 : decode cX6_mostWith 68 = .ok (.goto (-57), 3) := by decide +kernel
theorem dX6_mostWith_71 : decode cX6_mostWith 71 = .ok (.iload 4, 2) := by decide +kernel
theorem dX6_mostWith_73 : decode cX6_mostWith 73 = .ok (.ireturn, 1) := by decide +kernel
theorem dX6_fits_0 : decode cX6_fits 0 = .ok (.aload_n 0, 1) := by decide +kernel
theorem dX6_fits_1 : decode cX6_fits 1 = .ok (.getfield 21, 3) := by decide +kernel
theorem dX6_fits_4 : decode cX6_fits 4 = .ok (.iload_n 2, 1) := by decide +kernel
theorem dX6_fits_5 : decode cX6_fits 5 = .ok (.iaload, 1) := by decide +kernel
theorem dX6_fits_6 : decode cX6_fits 6 = .ok (.aload_n 0, 1) := by decide +kernel
theorem dX6_fits_7 : decode cX6_fits 7 = .ok (.getfield 9, 3) := by decide +kernel
theorem dX6_fits_10 : decode cX6_fits 10 = .ok (.iload_n 1, 1) := by decide +kernel
theorem dX6_fits_11 : decode cX6_fits 11 = .ok (.iaload, 1) := by decide +kernel
theorem dX6_fits_12 : decode cX6_fits 12 = .ok (.if_icmp .gt 25, 3) := by decide +kernel
theorem dX6_fits_15 : decode cX6_fits 15 = .ok (.aload_n 0, 1) := by decide +kernel
theorem dX6_fits_16 : decode cX6_fits 16 = .ok (.getfield 24, 3) := by decide +kernel
theorem dX6_fits_19 : decode cX6_fits 19 = .ok (.iload_n 2, 1) := by decide +kernel
theorem dX6_fits_20 : decode cX6_fits 20 = .ok (.iaload, 1) := by decide +kernel
theorem dX6_fits_21 : decode cX6_fits 21 = .ok (.aload_n 0, 1) := by decide +kernel
theorem dX6_fits_22 : decode cX6_fits 22 = .ok (.getfield 15, 3) := by decide +kernel
theorem dX6_fits_25 : decode cX6_fits 25 = .ok (.iload_n 1, 1) := by decide +kernel
theorem dX6_fits_26 : decode cX6_fits 26 = .ok (.iaload, 1) := by decide +kernel
theorem dX6_fits_27 : decode cX6_fits 27 = .ok (.iconst (-1), 1) := by decide +kernel
theorem dX6_fits_28 : decode cX6_fits 28 = .ok (.ixor, 1) := by decide +kernel
theorem dX6_fits_29 : decode cX6_fits 29 = .ok (.iand, 1) := by decide +kernel
theorem dX6_fits_30 : decode cX6_fits 30 = .ok (.ifCond .ne 7, 3) := by decide +kernel
theorem dX6_fits_33 : decode cX6_fits 33 = .ok (.iconst 1, 1) := by decide +kernel
theorem dX6_fits_34 : decode cX6_fits 34 = .ok (.goto 4, 3) := by decide +kernel
theorem dX6_fits_37 : decode cX6_fits 37 = .ok (.iconst 0, 1) := by decide +kernel
theorem dX6_fits_38 : decode cX6_fits 38 = .ok (.ireturn, 1) := by decide +kernel
set_option maxRecDepth 20000 in
theorem ggX6_doerOf_X6_mostFrom : GoodIn wsX6_doerOf wsX6_mostFrom := goodIn_r _ [7, 1, 8, 9, 10, 11, 12, 13, 14, 15, 16, 17, 18, 19, 20, 21, 6, 22, 23, 24, 25, 26, 27, 28, 29, 30, 35, 36, 37, 38, 39, 40, 41, 42, 43, 44] (by decide +kernel) (by decide +kernel)
set_option maxRecDepth 20000 in
theorem gX6_doerOf_X6_mostFrom : GoodIn wsX6_doerOf (wsV RX6 98 RX6 yX6_mostFrom wsX6_mostFrom) := goodIn_app (goodIn_of _ (by decide +kernel)) ggX6_doerOf_X6_mostFrom
set_option maxRecDepth 20000 in
theorem ggX6_doerOf_X6_firstDoer : GoodIn wsX6_doerOf wsX6_firstDoer := goodIn_r _ [34, 28, 13, 14, 2, 3, 4, 5, 6, 7, 1, 8, 9, 10, 11, 12, 15, 16, 17, 18, 19, 20, 21, 22, 23, 24, 25, 26, 27, 29, 30, 35, 36, 37, 38, 39, 40, 41, 42, 43, 44] (by decide +kernel) (by decide +kernel)
set_option maxRecDepth 20000 in
theorem gX6_doerOf_X6_firstDoer : GoodIn wsX6_doerOf (wsV RX6 101 RX6 yX6_firstDoer wsX6_firstDoer) := goodIn_app (goodIn_of _ (by decide +kernel)) ggX6_doerOf_X6_firstDoer
theorem dX6_doerOf_0 : decode cX6_doerOf 0 = .ok (.aload_n 0, 1) := by decide +kernel
theorem dX6_doerOf_1 : decode cX6_doerOf 1 = .ok (.iconst 0, 1) := by decide +kernel
theorem dX6_doerOf_2 : decode cX6_doerOf 2 = .ok (.invokevirtual 98, 3) := by decide +kernel
theorem dX6_doerOf_5 : decode cX6_doerOf 5 = .ok (.istore_n 2, 1) := by decide +kernel
theorem dX6_doerOf_6 : decode cX6_doerOf 6 = .ok (.iconst (-1), 1) := by decide +kernel
theorem dX6_doerOf_7 : decode cX6_doerOf 7 = .ok (.istore_n 3, 1) := by decide +kernel
theorem dX6_doerOf_8 : decode cX6_doerOf 8 = .ok (.iconst 0, 1) := by decide +kernel
theorem dX6_doerOf_9 : decode cX6_doerOf 9 = .ok (.istore 4, 2) := by decide +kernel
theorem dX6_doerOf_11 : decode cX6_doerOf 11 = .ok (.iload 4, 2) := by decide +kernel
theorem dX6_doerOf_13 : decode cX6_doerOf 13 = .ok (.iload_n 1, 1) := by decide +kernel
theorem dX6_doerOf_14 : decode cX6_doerOf 14 = .ok (.if_icmp .gt 41, 3) := by decide +kernel
theorem dX6_doerOf_17 : decode cX6_doerOf 17 = .ok (.iload 4, 2) := by decide +kernel
theorem dX6_doerOf_19 : decode cX6_doerOf 19 = .ok (.aload_n 0, 1) := by decide +kernel
theorem dX6_doerOf_20 : decode cX6_doerOf 20 = .ok (.getfield 43, 3) := by decide +kernel
theorem dX6_doerOf_23 : decode cX6_doerOf 23 = .ok (.if_icmp .ge 32, 3) := by decide +kernel
theorem dX6_doerOf_26 : decode cX6_doerOf 26 = .ok (.aload_n 0, 1) := by decide +kernel
theorem dX6_doerOf_27 : decode cX6_doerOf 27 = .ok (.iload 4, 2) := by decide +kernel
theorem dX6_doerOf_29 : decode cX6_doerOf 29 = .ok (.iload_n 2, 1) := by decide +kernel
theorem dX6_doerOf_30 : decode cX6_doerOf 30 = .ok (.invokevirtual 101, 3) := by decide +kernel
theorem dX6_doerOf_33 : decode cX6_doerOf 33 = .ok (.istore_n 3, 1) := by decide +kernel
theorem dX6_doerOf_34 : decode cX6_doerOf 34 = .ok (.iload_n 3, 1) := by decide +kernel
theorem dX6_doerOf_35 : decode cX6_doerOf 35 = .ok (.iconst (-1), 1) := by decide +kernel
theorem dX6_doerOf_36 : decode cX6_doerOf 36 = .ok (.if_icmp .eq 13, 3) := by decide +kernel
theorem dX6_doerOf_39 : decode cX6_doerOf 39 = .ok (.iload_n 2, 1) := by decide +kernel
theorem dX6_doerOf_40 : decode cX6_doerOf 40 = .ok (.aload_n 0, 1) := by decide +kernel
theorem dX6_doerOf_41 : decode cX6_doerOf 41 = .ok (.getfield 18, 3) := by decide +kernel
theorem dX6_doerOf_44 : decode cX6_doerOf 44 = .ok (.iload 4, 2) := by decide +kernel
theorem dX6_doerOf_46 : decode cX6_doerOf 46 = .ok (.iaload, 1) := by decide +kernel
theorem dX6_doerOf_47 : decode cX6_doerOf 47 = .ok (.isub, 1) := by decide +kernel
theorem dX6_doerOf_48 : decode cX6_doerOf 48 = .ok (.istore_n 2, 1) := by decide +kernel
theorem dX6_doerOf_49 : decode cX6_doerOf 49 = .ok (.iinc 4 1, 3) := by decide +kernel
theorem dX6_doerOf_52 : decode cX6_doerOf 52 = .ok (.goto (-41), 3) := by decide +kernel
theorem dX6_doerOf_55 : decode cX6_doerOf 55 = .ok (.iload_n 3, 1) := by decide +kernel
theorem dX6_doerOf_56 : decode cX6_doerOf 56 = .ok (.ireturn, 1) := by decide +kernel
set_option maxRecDepth 20000 in
theorem ggX6_firstDoer_X6_mostFrom : GoodIn wsX6_firstDoer wsX6_mostFrom := goodIn_r _ [9, 10, 11, 12, 13, 14, 15, 2, 3, 16, 17, 18, 19, 20, 21, 22, 8, 23, 24, 25, 26, 27, 28, 1, 29, 30, 31, 32, 33, 34, 35, 36, 37, 38, 39, 40] (by decide +kernel) (by decide +kernel)
set_option maxRecDepth 20000 in
theorem gX6_firstDoer_X6_mostFrom : GoodIn wsX6_firstDoer (wsV RX6 98 RX6 yX6_mostFrom wsX6_mostFrom) := goodIn_app (goodIn_of _ (by decide +kernel)) ggX6_firstDoer_X6_mostFrom
set_option maxRecDepth 20000 in
theorem ggX6_firstDoer_X6_fits : GoodIn wsX6_firstDoer wsX6_fits := goodIn_r _ [28, 1, 3, 29, 30, 31, 32, 33, 34, 35, 36, 37, 38, 39, 40] (by decide +kernel) (by decide +kernel)
set_option maxRecDepth 20000 in
theorem gX6_firstDoer_X6_fits : GoodIn wsX6_firstDoer (wsV RX6 94 RX6 yX6_fits wsX6_fits) := goodIn_app (goodIn_of _ (by decide +kernel)) ggX6_firstDoer_X6_fits
theorem dX6_firstDoer_0 : decode cX6_firstDoer 0 = .ok (.aload_n 0, 1) := by decide +kernel
theorem dX6_firstDoer_1 : decode cX6_firstDoer 1 = .ok (.iload_n 1, 1) := by decide +kernel
theorem dX6_firstDoer_2 : decode cX6_firstDoer 2 = .ok (.iconst 1, 1) := by decide +kernel
theorem dX6_firstDoer_3 : decode cX6_firstDoer 3 = .ok (.iadd, 1) := by decide +kernel
theorem dX6_firstDoer_4 : decode cX6_firstDoer 4 = .ok (.invokevirtual 98, 3) := by decide +kernel
theorem dX6_firstDoer_7 : decode cX6_firstDoer 7 = .ok (.iload_n 2, 1) := by decide +kernel
theorem dX6_firstDoer_8 : decode cX6_firstDoer 8 = .ok (.if_icmp .lt 5, 3) := by decide +kernel
theorem dX6_firstDoer_11 : decode cX6_firstDoer 11 = .ok (.iconst (-1), 1) := by decide +kernel
theorem dX6_firstDoer_12 : decode cX6_firstDoer 12 = .ok (.ireturn, 1) := by decide +kernel
theorem dX6_firstDoer_13 : decode cX6_firstDoer 13 = .ok (.aload_n 0, 1) := by decide +kernel
theorem dX6_firstDoer_14 : decode cX6_firstDoer 14 = .ok (.getfield 21, 3) := by decide +kernel
theorem dX6_firstDoer_17 : decode cX6_firstDoer 17 = .ok (.iconst 1, 1) := by decide +kernel
theorem dX6_firstDoer_18 : decode cX6_firstDoer 18 = .ok (.iload_n 1, 1) := by decide +kernel
theorem dX6_firstDoer_19 : decode cX6_firstDoer 19 = .ok (.ishl, 1) := by decide +kernel
theorem dX6_firstDoer_20 : decode cX6_firstDoer 20 = .ok (.iaload, 1) := by decide +kernel
theorem dX6_firstDoer_21 : decode cX6_firstDoer 21 = .ok (.istore_n 3, 1) := by decide +kernel
theorem dX6_firstDoer_22 : decode cX6_firstDoer 22 = .ok (.iconst 0, 1) := by decide +kernel
theorem dX6_firstDoer_23 : decode cX6_firstDoer 23 = .ok (.istore 4, 2) := by decide +kernel
theorem dX6_firstDoer_25 : decode cX6_firstDoer 25 = .ok (.iload 4, 2) := by decide +kernel
theorem dX6_firstDoer_27 : decode cX6_firstDoer 27 = .ok (.aload_n 0, 1) := by decide +kernel
theorem dX6_firstDoer_28 : decode cX6_firstDoer 28 = .ok (.getfield 39, 3) := by decide +kernel
theorem dX6_firstDoer_31 : decode cX6_firstDoer 31 = .ok (.if_icmp .ge 64, 3) := by decide +kernel
theorem dX6_firstDoer_34 : decode cX6_firstDoer 34 = .ok (.aload_n 0, 1) := by decide +kernel
theorem dX6_firstDoer_35 : decode cX6_firstDoer 35 = .ok (.iload 4, 2) := by decide +kernel
theorem dX6_firstDoer_37 : decode cX6_firstDoer 37 = .ok (.iconst 1, 1) := by decide +kernel
theorem dX6_firstDoer_38 : decode cX6_firstDoer 38 = .ok (.iload_n 1, 1) := by decide +kernel
theorem dX6_firstDoer_39 : decode cX6_firstDoer 39 = .ok (.ishl, 1) := by decide +kernel
theorem dX6_firstDoer_40 : decode cX6_firstDoer 40 = .ok (.invokevirtual 94, 3) := by decide +kernel
theorem dX6_firstDoer_43 : decode cX6_firstDoer 43 = .ok (.ifCond .eq 46, 3) := by decide +kernel
theorem dX6_firstDoer_46 : decode cX6_firstDoer 46 = .ok (.aload_n 0, 1) := by decide +kernel
theorem dX6_firstDoer_47 : decode cX6_firstDoer 47 = .ok (.getfield 9, 3) := by decide +kernel
theorem dX6_firstDoer_50 : decode cX6_firstDoer 50 = .ok (.iload 4, 2) := by decide +kernel
theorem dX6_firstDoer_52 : decode cX6_firstDoer 52 = .ok (.dup2, 1) := by decide +kernel
theorem dX6_firstDoer_53 : decode cX6_firstDoer 53 = .ok (.iaload, 1) := by decide +kernel
theorem dX6_firstDoer_54 : decode cX6_firstDoer 54 = .ok (.iload_n 3, 1) := by decide +kernel
theorem dX6_firstDoer_55 : decode cX6_firstDoer 55 = .ok (.isub, 1) := by decide +kernel
theorem dX6_firstDoer_56 : decode cX6_firstDoer 56 = .ok (.iastore, 1) := by decide +kernel
theorem dX6_firstDoer_57 : decode cX6_firstDoer 57 = .ok (.aload_n 0, 1) := by decide +kernel
theorem dX6_firstDoer_58 : decode cX6_firstDoer 58 = .ok (.getfield 18, 3) := by decide +kernel
theorem dX6_firstDoer_61 : decode cX6_firstDoer 61 = .ok (.iload_n 1, 1) := by decide +kernel
theorem dX6_firstDoer_62 : decode cX6_firstDoer 62 = .ok (.iaload, 1) := by decide +kernel
theorem dX6_firstDoer_63 : decode cX6_firstDoer 63 = .ok (.aload_n 0, 1) := by decide +kernel
theorem dX6_firstDoer_64 : decode cX6_firstDoer 64 = .ok (.iload_n 1, 1) := by decide +kernel
theorem dX6_firstDoer_65 : decode cX6_firstDoer 65 = .ok (.iconst 1, 1) := by decide +kernel
theorem dX6_firstDoer_66 : decode cX6_firstDoer 66 = .ok (.iadd, 1) := by decide +kernel
theorem dX6_firstDoer_67 : decode cX6_firstDoer 67 = .ok (.invokevirtual 98, 3) := by decide +kernel
theorem dX6_firstDoer_70 : decode cX6_firstDoer 70 = .ok (.iadd, 1) := by decide +kernel
theorem dX6_firstDoer_71 : decode cX6_firstDoer 71 = .ok (.iload_n 2, 1) := by decide +kernel
theorem dX6_firstDoer_72 : decode cX6_firstDoer 72 = .ok (.if_icmp .lt 6, 3) := by decide +kernel
theorem dX6_firstDoer_75 : decode cX6_firstDoer 75 = .ok (.iload 4, 2) := by decide +kernel
theorem dX6_firstDoer_77 : decode cX6_firstDoer 77 = .ok (.ireturn, 1) := by decide +kernel
theorem dX6_firstDoer_78 : decode cX6_firstDoer 78 = .ok (.aload_n 0, 1) := by decide +kernel
theorem dX6_firstDoer_79 : decode cX6_firstDoer 79 = .ok (.getfield 9, 3) := by decide +kernel
theorem dX6_firstDoer_82 : decode cX6_firstDoer 82 = .ok (.iload 4, 2) := by decide +kernel
theorem dX6_firstDoer_84 : decode cX6_firstDoer 84 = .ok (.dup2, 1) := by decide +kernel
theorem dX6_firstDoer_85 : decode cX6_firstDoer 85 = .ok (.iaload, 1) := by decide +kernel
theorem dX6_firstDoer_86 : decode cX6_firstDoer 86 = .ok (.iload_n 3, 1) := by decide +kernel
theorem dX6_firstDoer_87 : decode cX6_firstDoer 87 = .ok (.iadd, 1) := by decide +kernel
theorem dX6_firstDoer_88 : decode cX6_firstDoer 88 = .ok (.iastore, 1) := by decide +kernel
theorem dX6_firstDoer_89 : decode cX6_firstDoer 89 = .ok (.iinc 4 1, 3) := by decide +kernel
theorem dX6_firstDoer_92 : decode cX6_firstDoer 92 = .ok (.goto (-67), 3) := by decide +kernel
theorem dX6_firstDoer_95 : decode cX6_firstDoer 95 = .ok (.iconst (-1), 1) := by decide +kernel
theorem dX6_firstDoer_96 : decode cX6_firstDoer 96 = .ok (.ireturn, 1) := by decide +kernel
set_option maxRecDepth 20000 in
theorem ggX6_shortestLength_X6_mostWithLength : GoodIn wsX6_shortestLength wsX6_mostWithLength := goodIn_r _ [5, 6, 7, 8, 9, 10, 11, 12, 13, 4, 14, 15, 16, 17, 18, 19, 20, 21, 22, 23, 24, 25, 26, 27, 28, 29, 30, 31, 32, 33, 34, 35, 36, 37, 38, 39, 40, 41, 42, 43] (by decide +kernel) (by decide +kernel)
set_option maxRecDepth 20000 in
theorem gX6_shortestLength_X6_mostWithLength : GoodIn wsX6_shortestLength (wsV RX6 104 RX6 yX6_mostWithLength wsX6_mostWithLength) := goodIn_app (goodIn_of _ (by decide +kernel)) ggX6_shortestLength_X6_mostWithLength
theorem dX6_shortestLength_0 : decode cX6_shortestLength 0 = .ok (.aload_n 0, 1) := by decide +kernel
theorem dX6_shortestLength_1 : decode cX6_shortestLength 1 = .ok (.bipush 99, 2) := by decide +kernel
theorem dX6_shortestLength_3 : decode cX6_shortestLength 3 = .ok (.invokevirtual 104, 3) := by decide +kernel
theorem dX6_shortestLength_6 : decode cX6_shortestLength 6 = .ok (.istore_n 1, 1) := by decide +kernel
theorem dX6_shortestLength_7 : decode cX6_shortestLength 7 = .ok (.iconst 1, 1) := by decide +kernel
theorem dX6_shortestLength_8 : decode cX6_shortestLength 8 = .ok (.istore_n 2, 1) := by decide +kernel
theorem dX6_shortestLength_9 : decode cX6_shortestLength 9 = .ok (.bipush 99, 2) := by decide +kernel
theorem dX6_shortestLength_11 : decode cX6_shortestLength 11 = .ok (.istore_n 3, 1) := by decide +kernel
theorem dX6_shortestLength_12 : decode cX6_shortestLength 12 = .ok (.iconst 0, 1) := by decide +kernel
theorem dX6_shortestLength_13 : decode cX6_shortestLength 13 = .ok (.istore 4, 2) := by decide +kernel
theorem dX6_shortestLength_15 : decode cX6_shortestLength 15 = .ok (.iload 4, 2) := by decide +kernel
theorem dX6_shortestLength_17 : decode cX6_shortestLength 17 = .ok (.bipush 99, 2) := by decide +kernel
theorem dX6_shortestLength_19 : decode cX6_shortestLength 19 = .ok (.if_icmp .ge 42, 3) := by decide +kernel
theorem dX6_shortestLength_22 : decode cX6_shortestLength 22 = .ok (.iload_n 2, 1) := by decide +kernel
theorem dX6_shortestLength_23 : decode cX6_shortestLength 23 = .ok (.iload_n 3, 1) := by decide +kernel
theorem dX6_shortestLength_24 : decode cX6_shortestLength 24 = .ok (.if_icmp .ge 37, 3) := by decide +kernel
theorem dX6_shortestLength_27 : decode cX6_shortestLength 27 = .ok (.iload_n 2, 1) := by decide +kernel
theorem dX6_shortestLength_28 : decode cX6_shortestLength 28 = .ok (.iload_n 3, 1) := by decide +kernel
theorem dX6_shortestLength_29 : decode cX6_shortestLength 29 = .ok (.iadd, 1) := by decide +kernel
theorem dX6_shortestLength_30 : decode cX6_shortestLength 30 = .ok (.iconst 2, 1) := by decide +kernel
theorem dX6_shortestLength_31 : decode cX6_shortestLength 31 = .ok (.idiv, 1) := by decide +kernel
theorem dX6_shortestLength_32 : decode cX6_shortestLength 32 = .ok (.istore 5, 2) := by decide +kernel
theorem dX6_shortestLength_34 : decode cX6_shortestLength 34 = .ok (.aload_n 0, 1) := by decide +kernel
theorem dX6_shortestLength_35 : decode cX6_shortestLength 35 = .ok (.iload 5, 2) := by decide +kernel
theorem dX6_shortestLength_37 : decode cX6_shortestLength 37 = .ok (.invokevirtual 104, 3) := by decide +kernel
theorem dX6_shortestLength_40 : decode cX6_shortestLength 40 = .ok (.iload_n 1, 1) := by decide +kernel
theorem dX6_shortestLength_41 : decode cX6_shortestLength 41 = .ok (.if_icmp .lt 9, 3) := by decide +kernel
theorem dX6_shortestLength_44 : decode cX6_shortestLength 44 = .ok (.iload 5, 2) := by decide +kernel
theorem dX6_shortestLength_46 : decode cX6_shortestLength 46 = .ok (.istore_n 3, 1) := by decide +kernel
theorem dX6_shortestLength_47 : decode cX6_shortestLength 47 = .ok (.goto 8, 3) := by decide +kernel
theorem dX6_shortestLength_50 : decode cX6_shortestLength 50 = .ok (.iload 5, 2) := by decide +kernel
theorem dX6_shortestLength_52 : decode cX6_shortestLength 52 = .ok (.iconst 1, 1) := by decide +kernel
theorem dX6_shortestLength_53 : decode cX6_shortestLength 53 = .ok (.iadd, 1) := by decide +kernel
theorem dX6_shortestLength_54 : decode cX6_shortestLength 54 = .ok (.istore_n 2, 1) := by decide +kernel
theorem dX6_shortestLength_55 : decode cX6_shortestLength 55 = .ok (.iinc 4 1, 3) := by decide +kernel
theorem dX6_shortestLength_58 : decode cX6_shortestLength 58 = .ok (.goto (-43), 3) := by decide +kernel
theorem dX6_shortestLength_61 : decode cX6_shortestLength 61 = .ok (.iload_n 3, 1) := by decide +kernel
theorem dX6_shortestLength_62 : decode cX6_shortestLength 62 = .ok (.ireturn, 1) := by decide +kernel
set_option maxRecDepth 20000 in
theorem ggX6_mostWithLength_J7_fill_53178 : GoodIn wsX6_mostWithLength wsJ7_fill_53178 := goodIn_r _ [5] (by decide +kernel) (by decide +kernel)
set_option maxRecDepth 20000 in
theorem gX6_mostWithLength_J7_fill_53178 : GoodIn wsX6_mostWithLength (va_wsS RX6 84 yJ7_fill_53178 wsJ7_fill_53178) := goodIn_app (goodIn_of _ (by decide +kernel)) ggX6_mostWithLength_J7_fill_53178
set_option maxRecDepth 20000 in
theorem ggX6_mostWithLength_X6_mostFrom : GoodIn wsX6_mostWithLength wsX6_mostFrom := goodIn_r _ [10, 11, 12, 13, 14, 15, 16, 17, 1, 2, 3, 4, 5, 18, 19, 20, 9, 21, 22, 23, 24, 25, 26, 27, 28, 29, 30, 31, 32, 33, 34, 35, 36, 37, 38, 39] (by decide +kernel) (by decide +kernel)
set_option maxRecDepth 20000 in
theorem gX6_mostWithLength_X6_mostFrom : GoodIn wsX6_mostWithLength (wsV RX6 98 RX6 yX6_mostFrom wsX6_mostFrom) := goodIn_app (goodIn_of _ (by decide +kernel)) ggX6_mostWithLength_X6_mostFrom
theorem dX6_mostWithLength_0 : decode cX6_mostWithLength 0 = .ok (.aload_n 0, 1) := by decide +kernel
theorem dX6_mostWithLength_1 : decode cX6_mostWithLength 1 = .ok (.getfield 9, 3) := by decide +kernel
theorem dX6_mostWithLength_4 : decode cX6_mostWithLength 4 = .ok (.iload_n 1, 1) := by decide +kernel
theorem dX6_mostWithLength_5 : decode cX6_mostWithLength 5 = .ok (.invokestatic 84, 3) := by decide +kernel
theorem dX6_mostWithLength_8 : decode cX6_mostWithLength 8 = .ok (.aload_n 0, 1) := by decide +kernel
theorem dX6_mostWithLength_9 : decode cX6_mostWithLength 9 = .ok (.iconst 0, 1) := by decide +kernel
theorem dX6_mostWithLength_10 : decode cX6_mostWithLength 10 = .ok (.invokevirtual 98, 3) := by decide +kernel
theorem dX6_mostWithLength_13 : decode cX6_mostWithLength 13 = .ok (.ireturn, 1) := by decide +kernel
set_option maxRecDepth 20000 in
theorem ggX7_init_X8_init : GoodIn wsX7_init wsX8_init := goodIn_r _ [12, 13, 2, 3, 4, 14, 15, 16, 17, 18, 19, 20, 21, 22, 23, 24, 25, 26, 8, 27, 28, 29, 30, 31, 32, 33, 34, 35, 36, 37, 38, 39, 40, 49, 50, 51, 52, 53, 54, 55, 56, 57, 58, 59, 60, 61, 62, 63] (by decide +kernel) (by decide +kernel)
set_option maxRecDepth 20000 in
theorem gX7_init_X8_init : GoodIn wsX7_init (wsX8_init) := ggX7_init_X8_init
theorem dX7_init_0 : decode cX7_init 0 = .ok (.aload_n 0, 1) := by decide +kernel
theorem dX7_init_1 : decode cX7_init 1 = .ok (.invokespecial 3, 3) := by decide +kernel
theorem dX7_init_4 : decode cX7_init 4 = .ok (.aload_n 0, 1) := by decide +kernel
theorem dX7_init_5 : decode cX7_init 5 = .ok (.sipush 160, 3) := by decide +kernel
theorem dX7_init_8 : decode cX7_init 8 = .ok (.newarray .int, 2) := by decide +kernel
theorem dX7_init_10 : decode cX7_init 10 = .ok (.putfield 9, 3) := by decide +kernel
theorem dX7_init_13 : decode cX7_init 13 = .ok (.aload_n 0, 1) := by decide +kernel
theorem dX7_init_14 : decode cX7_init 14 = .ok (.new 15, 3) := by decide +kernel
theorem dX7_init_17 : decode cX7_init 17 = .ok (.dup, 1) := by decide +kernel
theorem dX7_init_18 : decode cX7_init 18 = .ok (.invokespecial 17, 3) := by decide +kernel
theorem dX7_init_21 : decode cX7_init 21 = .ok (.putfield 18, 3) := by decide +kernel
theorem dX7_init_24 : decode cX7_init 24 = .ok (.return_, 1) := by decide +kernel
theorem dX7_add_0 : decode cX7_add 0 = .ok (.aload_n 0, 1) := by decide +kernel
theorem dX7_add_1 : decode cX7_add 1 = .ok (.getfield 22, 3) := by decide +kernel
theorem dX7_add_4 : decode cX7_add 4 = .ok (.sipush 160, 3) := by decide +kernel
theorem dX7_add_7 : decode cX7_add 7 = .ok (.if_icmp .lt 5, 3) := by decide +kernel
theorem dX7_add_10 : decode cX7_add 10 = .ok (.iconst 0, 1) := by decide +kernel
theorem dX7_add_11 : decode cX7_add 11 = .ok (.ireturn, 1) := by decide +kernel
theorem dX7_add_12 : decode cX7_add 12 = .ok (.aload_n 0, 1) := by decide +kernel
theorem dX7_add_13 : decode cX7_add 13 = .ok (.getfield 9, 3) := by decide +kernel
theorem dX7_add_16 : decode cX7_add 16 = .ok (.aload_n 0, 1) := by decide +kernel
theorem dX7_add_17 : decode cX7_add 17 = .ok (.getfield 22, 3) := by decide +kernel
theorem dX7_add_20 : decode cX7_add 20 = .ok (.iload_n 1, 1) := by decide +kernel
theorem dX7_add_21 : decode cX7_add 21 = .ok (.iastore, 1) := by decide +kernel
theorem dX7_add_22 : decode cX7_add 22 = .ok (.aload_n 0, 1) := by decide +kernel
theorem dX7_add_23 : decode cX7_add 23 = .ok (.dup, 1) := by decide +kernel
theorem dX7_add_24 : decode cX7_add 24 = .ok (.getfield 22, 3) := by decide +kernel
theorem dX7_add_27 : decode cX7_add 27 = .ok (.iconst 1, 1) := by decide +kernel
theorem dX7_add_28 : decode cX7_add 28 = .ok (.iadd, 1) := by decide +kernel
theorem dX7_add_29 : decode cX7_add 29 = .ok (.putfield 22, 3) := by decide +kernel
theorem dX7_add_32 : decode cX7_add 32 = .ok (.iconst 1, 1) := by decide +kernel
theorem dX7_add_33 : decode cX7_add 33 = .ok (.ireturn, 1) := by decide +kernel
set_option maxRecDepth 20000 in
theorem ggX7_findFault_X8_copyFrom : GoodIn wsX7_findFault wsX8_copyFrom := goodIn_r _ [12, 13, 14, 15, 16, 17, 18, 19, 20, 21, 22, 23, 24, 25, 26, 27, 28, 29, 30, 31, 183, 184, 185, 186, 187, 188, 189, 190, 191, 192, 193, 194, 195, 196, 197] (by decide +kernel) (by decide +kernel)
set_option maxRecDepth 20000 in
theorem gX7_findFault_X8_copyFrom : GoodIn wsX7_findFault (wsV RX7 26 RX8 yX8_copyFrom wsX8_copyFrom) := goodIn_app (goodIn_of _ (by decide +kernel)) ggX7_findFault_X8_copyFrom
set_option maxRecDepth 20000 in
theorem ggX7_findFault_X7_readToken : GoodIn wsX7_findFault wsX7_readToken := goodIn_r _ [36, 37, 5, 6, 7, 4, 38, 39, 35, 40, 175, 176, 177, 178, 179, 180, 181, 182] (by decide +kernel) (by decide +kernel)
set_option maxRecDepth 20000 in
theorem gX7_findFault_X7_readToken : GoodIn wsX7_findFault (wsV RX7 36 RX7 yX7_readToken wsX7_readToken) := goodIn_app (goodIn_of _ (by decide +kernel)) ggX7_findFault_X7_readToken
set_option maxRecDepth 20000 in
theorem ggX7_findFault_X7_readClause : GoodIn wsX7_findFault wsX7_readClause := goodIn_r _ [44, 6, 3, 7, 1, 45, 46, 47, 35, 48, 4, 49, 50, 51, 52, 53, 54, 55, 5, 56, 57, 58, 59, 60, 61, 62, 63, 64, 65, 66, 67, 68, 69, 70, 71, 72, 73, 74, 75, 76, 77, 78, 79, 80, 81, 82, 83, 84, 85, 86, 87, 88, 89, 90, 91, 92, 93, 94, 95, 96, 97, 98, 99, 100, 101, 102, 103, 104, 105, 106, 107, 108, 109, 110, 111, 32, 33, 34, 36, 37, 38, 39, 40, 112, 113, 114, 11, 115, 13, 14, 15, 16, 17, 116, 117, 118, 119, 120, 121, 122, 123, 30, 31, 124, 125, 126, 127, 128, 129, 130, 131, 132, 133, 134, 135, 136, 137, 138, 139, 140, 141, 142, 143, 144, 145, 146, 147, 148, 149, 150, 151, 24, 25, 26, 27, 152, 153, 154, 155, 156, 157, 158, 159, 28, 29, 160, 161, 162, 163, 164, 165, 166, 167, 168, 169, 170, 171, 172, 173, 174, 18, 23, 175, 176, 177, 178, 179, 180, 181, 182, 183, 184, 185, 186, 187, 188, 189, 190, 191, 192, 193, 194, 195, 196, 197] (by decide +kernel) (by decide +kernel)
set_option maxRecDepth 20000 in
theorem gX7_findFault_X7_readClause : GoodIn wsX7_findFault (wsV RX7 40 RX7 yX7_readClause wsX7_readClause) := goodIn_app (goodIn_of _ (by decide +kernel)) ggX7_findFault_X7_readClause
theorem dX7_findFault_0 : decode cX7_findFault 0 = .ok (.aload_n 0, 1) := by decide +kernel
theorem dX7_findFault_1 : decode cX7_findFault 1 = .ok (.getfield 18, 3) := by decide +kernel
theorem dX7_findFault_4 : decode cX7_findFault 4 = .ok (.aload_n 1, 1) := by decide +kernel
theorem dX7_findFault_5 : decode cX7_findFault 5 = .ok (.invokevirtual 26, 3) := by decide +kernel
theorem dX7_findFault_8 : decode cX7_findFault 8 = .ok (.aload_n 0, 1) := by decide +kernel
theorem dX7_findFault_9 : decode cX7_findFault 9 = .ok (.iconst 0, 1) := by decide +kernel
theorem dX7_findFault_10 : decode cX7_findFault 10 = .ok (.putfield 30, 3) := by decide +kernel
theorem dX7_findFault_13 : decode cX7_findFault 13 = .ok (.aload_n 0, 1) := by decide +kernel
theorem dX7_findFault_14 : decode cX7_findFault 14 = .ok (.iconst (-1), 1) := by decide +kernel
theorem dX7_findFault_15 : decode cX7_findFault 15 = .ok (.putfield 33, 3) := by decide +kernel
theorem dX7_findFault_18 : decode cX7_findFault 18 = .ok (.aload_n 0, 1) := by decide +kernel
theorem dX7_findFault_19 : decode cX7_findFault 19 = .ok (.iconst 0, 1) := by decide +kernel
theorem dX7_findFault_20 : decode cX7_findFault 20 = .ok (.invokevirtual 36, 3) := by decide +kernel
theorem dX7_findFault_23 : decode cX7_findFault 23 = .ok (.iconst 1, 1) := by decide +kernel
theorem dX7_findFault_24 : decode cX7_findFault 24 = .ok (.istore_n 2, 1) := by decide +kernel
theorem dX7_findFault_25 : decode cX7_findFault 25 = .ok (.iload_n 2, 1) := by decide +kernel
theorem dX7_findFault_26 : decode cX7_findFault 26 = .ok (.bipush 14, 2) := by decide +kernel
theorem dX7_findFault_28 : decode cX7_findFault 28 = .ok (.if_icmp .gt 74, 3) := by decide +kernel
theorem dX7_findFault_31 : decode cX7_findFault 31 = .ok (.aload_n 0, 1) := by decide +kernel
theorem dX7_findFault_32 : decode cX7_findFault 32 = .ok (.invokevirtual 40, 3) := by decide +kernel
theorem dX7_findFault_35 : decode cX7_findFault 35 = .ok (.aload_n 0, 1) := by decide +kernel
theorem dX7_findFault_36 : decode cX7_findFault 36 = .ok (.getfield 33, 3) := by decide +kernel
theorem dX7_findFault_39 : decode cX7_findFault 39 = .ok (.iconst (-1), 1) := by decide +kernel
theorem dX7_findFault_40 : decode cX7_findFault 40 = .ok (.if_icmp .eq 8, 3) := by decide +kernel
theorem dX7_findFault_43 : decode cX7_findFault 43 = .ok (.aload_n 0, 1) := by decide +kernel
theorem dX7_findFault_44 : decode cX7_findFault 44 = .ok (.getfield 33, 3) := by decide +kernel
theorem dX7_findFault_47 : decode cX7_findFault 47 = .ok (.ireturn, 1) := by decide +kernel
theorem dX7_findFault_48 : decode cX7_findFault 48 = .ok (.aload_n 0, 1) := by decide +kernel
theorem dX7_findFault_49 : decode cX7_findFault 49 = .ok (.iload_n 2, 1) := by decide +kernel
theorem dX7_findFault_50 : decode cX7_findFault 50 = .ok (.putfield 30, 3) := by decide +kernel
theorem dX7_findFault_53 : decode cX7_findFault 53 = .ok (.aload_n 0, 1) := by decide +kernel
theorem dX7_findFault_54 : decode cX7_findFault 54 = .ok (.getfield 43, 3) := by decide +kernel
theorem dX7_findFault_57 : decode cX7_findFault 57 = .ok (.iconst 3, 1) := by decide +kernel
theorem dX7_findFault_58 : decode cX7_findFault 58 = .ok (.if_icmp .ne 5, 3) := by decide +kernel
theorem dX7_findFault_61 : decode cX7_findFault 61 = .ok (.iconst (-1), 1) := by decide +kernel
theorem dX7_findFault_62 : decode cX7_findFault 62 = .ok (.ireturn, 1) := by decide +kernel
theorem dX7_findFault_63 : decode cX7_findFault 63 = .ok (.aload_n 0, 1) := by decide +kernel
theorem dX7_findFault_64 : decode cX7_findFault 64 = .ok (.getfield 9, 3) := by decide +kernel
theorem dX7_findFault_67 : decode cX7_findFault 67 = .ok (.aload_n 0, 1) := by decide +kernel
theorem dX7_findFault_68 : decode cX7_findFault 68 = .ok (.getfield 46, 3) := by decide +kernel
theorem dX7_findFault_71 : decode cX7_findFault 71 = .ok (.iaload, 1) := by decide +kernel
theorem dX7_findFault_72 : decode cX7_findFault 72 = .ok (.bipush 59, 2) := by decide +kernel
theorem dX7_findFault_74 : decode cX7_findFault 74 = .ok (.if_icmp .ne 9, 3) := by decide +kernel
theorem dX7_findFault_77 : decode cX7_findFault 77 = .ok (.iload_n 2, 1) := by decide +kernel
theorem dX7_findFault_78 : decode cX7_findFault 78 = .ok (.bipush 14, 2) := by decide +kernel
theorem dX7_findFault_80 : decode cX7_findFault 80 = .ok (.if_icmp .ne 8, 3) := by decide +kernel
theorem dX7_findFault_83 : decode cX7_findFault 83 = .ok (.aload_n 0, 1) := by decide +kernel
theorem dX7_findFault_84 : decode cX7_findFault 84 = .ok (.getfield 46, 3) := by decide +kernel
theorem dX7_findFault_87 : decode cX7_findFault 87 = .ok (.ireturn, 1) := by decide +kernel
theorem dX7_findFault_88 : decode cX7_findFault 88 = .ok (.aload_n 0, 1) := by decide +kernel
theorem dX7_findFault_89 : decode cX7_findFault 89 = .ok (.aload_n 0, 1) := by decide +kernel
theorem dX7_findFault_90 : decode cX7_findFault 90 = .ok (.getfield 49, 3) := by decide +kernel
theorem dX7_findFault_93 : decode cX7_findFault 93 = .ok (.invokevirtual 36, 3) := by decide +kernel
theorem dX7_findFault_96 : decode cX7_findFault 96 = .ok (.iinc 2 1, 3) := by decide +kernel
theorem dX7_findFault_99 : decode cX7_findFault 99 = .ok (.goto (-74), 3) := by decide +kernel
theorem dX7_findFault_102 : decode cX7_findFault 102 = .ok (.aload_n 0, 1) := by decide +kernel
theorem dX7_findFault_103 : decode cX7_findFault 103 = .ok (.getfield 33, 3) := by decide +kernel
theorem dX7_findFault_106 : decode cX7_findFault 106 = .ok (.ireturn, 1) := by decide +kernel
set_option maxRecDepth 20000 in
theorem ggX7_readToken_X7_kindOf : GoodIn wsX7_readToken wsX7_kindOf := goodIn_r _ [9] (by decide +kernel) (by decide +kernel)
set_option maxRecDepth 20000 in
theorem gX7_readToken_X7_kindOf : GoodIn wsX7_readToken (va_wsS RX7 52 yX7_kindOf wsX7_kindOf) := goodIn_app (goodIn_of _ (by decide +kernel)) ggX7_readToken_X7_kindOf
theorem dX7_readToken_0 : decode cX7_readToken 0 = .ok (.iload_n 1, 1) := by decide +kernel
theorem dX7_readToken_1 : decode cX7_readToken 1 = .ok (.istore_n 2, 1) := by decide +kernel
theorem dX7_readToken_2 : decode cX7_readToken 2 = .ok (.iload_n 2, 1) := by decide +kernel
theorem dX7_readToken_3 : decode cX7_readToken 3 = .ok (.aload_n 0, 1) := by decide +kernel
theorem dX7_readToken_4 : decode cX7_readToken 4 = .ok (.getfield 22, 3) := by decide +kernel
theorem dX7_readToken_7 : decode cX7_readToken 7 = .ok (.if_icmp .ge 20, 3) := by decide +kernel
theorem dX7_readToken_10 : decode cX7_readToken 10 = .ok (.aload_n 0, 1) := by decide +kernel
theorem dX7_readToken_11 : decode cX7_readToken 11 = .ok (.getfield 9, 3) := by decide +kernel
theorem dX7_readToken_14 : decode cX7_readToken 14 = .ok (.iload_n 2, 1) := by decide +kernel
theorem dX7_readToken_15 : decode cX7_readToken 15 = .ok (.iaload, 1) := by decide +kernel
theorem dX7_readToken_16 : decode cX7_readToken 16 = .ok (.bipush 32, 2) := by decide +kernel
theorem dX7_readToken_18 : decode cX7_readToken 18 = .ok (.if_icmp .ne 9, 3) := by decide +kernel
theorem dX7_readToken_21 : decode cX7_readToken 21 = .ok (.iinc 2 1, 3) := by decide +kernel
theorem dX7_readToken_24 : decode cX7_readToken 24 = .ok (.goto (-22), 3) := by decide +kernel
theorem dX7_readToken_27 : decode cX7_readToken 27 = .ok (.aload_n 0, 1) := by decide +kernel
theorem dX7_readToken_28 : decode cX7_readToken 28 = .ok (.iload_n 2, 1) := by decide +kernel
theorem dX7_readToken_29 : decode cX7_readToken 29 = .ok (.putfield 46, 3) := by decide +kernel
theorem dX7_readToken_32 : decode cX7_readToken 32 = .ok (.aload_n 0, 1) := by decide +kernel
theorem dX7_readToken_33 : decode cX7_readToken 33 = .ok (.iload_n 2, 1) := by decide +kernel
theorem dX7_readToken_34 : decode cX7_readToken 34 = .ok (.putfield 49, 3) := by decide +kernel
theorem dX7_readToken_37 : decode cX7_readToken 37 = .ok (.aload_n 0, 1) := by decide +kernel
theorem dX7_readToken_38 : decode cX7_readToken 38 = .ok (.iconst 3, 1) := by decide +kernel
theorem dX7_readToken_39 : decode cX7_readToken 39 = .ok (.putfield 43, 3) := by decide +kernel
theorem dX7_readToken_42 : decode cX7_readToken 42 = .ok (.iload_n 2, 1) := by decide +kernel
theorem dX7_readToken_43 : decode cX7_readToken 43 = .ok (.aload_n 0, 1) := by decide +kernel
theorem dX7_readToken_44 : decode cX7_readToken 44 = .ok (.getfield 22, 3) := by decide +kernel
theorem dX7_readToken_47 : decode cX7_readToken 47 = .ok (.if_icmp .lt 4, 3) := by decide +kernel
theorem dX7_readToken_50 : decode cX7_readToken 50 = .ok (.return_, 1) := by decide +kernel
theorem dX7_readToken_51 : decode cX7_readToken 51 = .ok (.aload_n 0, 1) := by decide +kernel
theorem dX7_readToken_52 : decode cX7_readToken 52 = .ok (.aload_n 0, 1) := by decide +kernel
theorem dX7_readToken_53 : decode cX7_readToken 53 = .ok (.getfield 9, 3) := by decide +kernel
theorem dX7_readToken_56 : decode cX7_readToken 56 = .ok (.iload_n 2, 1) := by decide +kernel
theorem dX7_readToken_57 : decode cX7_readToken 57 = .ok (.iaload, 1) := by decide +kernel
theorem dX7_readToken_58 : decode cX7_readToken 58 = .ok (.invokestatic 52, 3) := by decide +kernel
theorem dX7_readToken_61 : decode cX7_readToken 61 = .ok (.putfield 43, 3) := by decide +kernel
theorem dX7_readToken_64 : decode cX7_readToken 64 = .ok (.aload_n 0, 1) := by decide +kernel
theorem dX7_readToken_65 : decode cX7_readToken 65 = .ok (.iload_n 2, 1) := by decide +kernel
theorem dX7_readToken_66 : decode cX7_readToken 66 = .ok (.iconst 1, 1) := by decide +kernel
theorem dX7_readToken_67 : decode cX7_readToken 67 = .ok (.iadd, 1) := by decide +kernel
theorem dX7_readToken_68 : decode cX7_readToken 68 = .ok (.putfield 49, 3) := by decide +kernel
theorem dX7_readToken_71 : decode cX7_readToken 71 = .ok (.aload_n 0, 1) := by decide +kernel
theorem dX7_readToken_72 : decode cX7_readToken 72 = .ok (.getfield 43, 3) := by decide +kernel
theorem dX7_readToken_75 : decode cX7_readToken 75 = .ok (.iconst 2, 1) := by decide +kernel
theorem dX7_readToken_76 : decode cX7_readToken 76 = .ok (.if_icmp .eq 46, 3) := by decide +kernel
theorem dX7_readToken_79 : decode cX7_readToken 79 = .ok (.aload_n 0, 1) := by decide +kernel
theorem dX7_readToken_80 : decode cX7_readToken 80 = .ok (.getfield 49, 3) := by decide +kernel
theorem dX7_readToken_83 : decode cX7_readToken 83 = .ok (.aload_n 0, 1) := by decide +kernel
theorem dX7_readToken_84 : decode cX7_readToken 84 = .ok (.getfield 22, 3) := by decide +kernel
theorem dX7_readToken_87 : decode cX7_readToken 87 = .ok (.if_icmp .ge 35, 3) := by decide +kernel
theorem dX7_readToken_90 : decode cX7_readToken 90 = .ok (.aload_n 0, 1) := by decide +kernel
theorem dX7_readToken_91 : decode cX7_readToken 91 = .ok (.getfield 9, 3) := by decide +kernel
theorem dX7_readToken_94 : decode cX7_readToken 94 = .ok (.aload_n 0, 1) := by decide +kernel
theorem dX7_readToken_95 : decode cX7_readToken 95 = .ok (.getfield 49, 3) := by decide +kernel
theorem dX7_readToken_98 : decode cX7_readToken 98 = .ok (.iaload, 1) := by decide +kernel
theorem dX7_readToken_99 : decode cX7_readToken 99 = .ok (.invokestatic 52, 3) := by decide +kernel
theorem dX7_readToken_102 : decode cX7_readToken 102 = .ok (.aload_n 0, 1) := by decide +kernel
theorem dX7_readToken_103 : decode cX7_readToken 103 = .ok (.getfield 43, 3) := by decide +kernel
theorem dX7_readToken_106 : decode cX7_readToken 106 = .ok (.if_icmp .ne 16, 3) := by decide +kernel
theorem dX7_readToken_109 : decode cX7_readToken 109 = .ok (.aload_n 0, 1) := by decide +kernel
theorem dX7_readToken_110 : decode cX7_readToken 110 = .ok (.dup, 1) := by decide +kernel
theorem dX7_readToken_111 : decode cX7_readToken 111 = .ok (.getfield 49, 3) := by decide +kernel
theorem dX7_readToken_114 : decode cX7_readToken 114 = .ok (.iconst 1, 1) := by decide +kernel
theorem dX7_readToken_115 : decode cX7_readToken 115 = .ok (.iadd, 1) := by decide +kernel
theorem dX7_readToken_116 : decode cX7_readToken 116 = .ok (.putfield 49, 3) := by decide +kernel
theorem dX7_readToken_119 : decode cX7_readToken 119 = .ok (.goto (-48), 3) := by decide +kernel
theorem dX7_readToken_122 : decode cX7_readToken 122 = .ok (.return_, 1) := by decide +kernel
theorem dX7_kindOf_0 : decode cX7_kindOf 0 = .ok (.iload_n 0, 1) := by decide +kernel
theorem dX7_kindOf_1 : decode cX7_kindOf 1 = .ok (.bipush 97, 2) := by decide +kernel
theorem dX7_kindOf_3 : decode cX7_kindOf 3 = .ok (.if_icmp .lt 11, 3) := by decide +kernel
theorem dX7_kindOf_6 : decode cX7_kindOf 6 = .ok (.iload_n 0, 1) := by decide +kernel
theorem dX7_kindOf_7 : decode cX7_kindOf 7 = .ok (.bipush 122, 2) := by decide +kernel
theorem dX7_kindOf_9 : decode cX7_kindOf 9 = .ok (.if_icmp .gt 5, 3) := by decide +kernel
theorem dX7_kindOf_12 : decode cX7_kindOf 12 = .ok (.iconst 0, 1) := by decide +kernel
theorem dX7_kindOf_13 : decode cX7_kindOf 13 = .ok (.ireturn, 1) := by decide +kernel
theorem dX7_kindOf_14 : decode cX7_kindOf 14 = .ok (.iload_n 0, 1) := by decide +kernel
theorem dX7_kindOf_15 : decode cX7_kindOf 15 = .ok (.bipush 48, 2) := by decide +kernel
theorem dX7_kindOf_17 : decode cX7_kindOf 17 = .ok (.if_icmp .lt 13, 3) := by decide +kernel
theorem dX7_kindOf_20 : decode cX7_kindOf 20 = .ok (.iload_n 0, 1) := by decide +kernel
theorem dX7_kindOf_21 : decode cX7_kindOf 21 = .ok (.bipush 57, 2) := by decide +kernel
theorem dX7_kindOf_23 : decode cX7_kindOf 23 = .ok (.if_icmp .gt 7, 3) := by decide +kernel
theorem dX7_kindOf_26 : decode cX7_kindOf 26 = .ok (.iconst 1, 1) := by decide +kernel
theorem dX7_kindOf_27 : decode cX7_kindOf 27 = .ok (.goto 4, 3) := by decide +kernel
theorem dX7_kindOf_30 : decode cX7_kindOf 30 = .ok (.iconst 2, 1) := by decide +kernel
theorem dX7_kindOf_31 : decode cX7_kindOf 31 = .ok (.ireturn, 1) := by decide +kernel
set_option maxRecDepth 20000 in
theorem ggX7_readClause_X7_clauseOfToken : GoodIn wsX7_readClause wsX7_clauseOfToken := goodIn_r _ [9, 10, 11, 12, 8, 13, 14, 15, 16, 17, 3, 1, 18, 19, 20, 21, 22, 23, 24, 25, 26, 27, 28, 29, 30, 31, 32, 33, 34, 35, 36, 37, 38, 39, 40, 41, 42, 43, 44, 45, 46, 47, 48, 49, 50, 51, 52, 53, 54, 55, 56, 57, 58, 59, 60, 61, 62, 63, 64, 65, 66, 67, 162, 163, 164, 165, 166, 167, 168, 169] (by decide +kernel) (by decide +kernel)
set_option maxRecDepth 20000 in
theorem gX7_readClause_X7_clauseOfToken : GoodIn wsX7_readClause (wsV RX7 56 RX7 yX7_clauseOfToken wsX7_clauseOfToken) := goodIn_app (goodIn_of _ (by decide +kernel)) ggX7_readClause_X7_clauseOfToken
set_option maxRecDepth 20000 in
theorem ggX7_readClause_X7_hasRoomFor : GoodIn wsX7_readClause wsX7_hasRoomFor := goodIn_r _ [71, 4, 72, 73, 74, 162, 163, 164, 165, 166, 167, 168, 169, 170, 171, 172, 173, 174, 175, 176, 177, 178, 179, 180, 181, 182, 183, 184] (by decide +kernel) (by decide +kernel)
set_option maxRecDepth 20000 in
theorem gX7_readClause_X7_hasRoomFor : GoodIn wsX7_readClause (wsV RX7 60 RX7 yX7_hasRoomFor wsX7_hasRoomFor) := goodIn_app (goodIn_of _ (by decide +kernel)) ggX7_readClause_X7_hasRoomFor
set_option maxRecDepth 20000 in
theorem ggX7_readClause_X7_readToken : GoodIn wsX7_readClause wsX7_readToken := goodIn_r _ [78, 79, 18, 1, 3, 10, 80, 81, 8, 82, 162, 163, 164, 165, 166, 167, 168, 169] (by decide +kernel) (by decide +kernel)
set_option maxRecDepth 20000 in
theorem gX7_readClause_X7_readToken : GoodIn wsX7_readClause (wsV RX7 36 RX7 yX7_readToken wsX7_readToken) := goodIn_app (goodIn_of _ (by decide +kernel)) ggX7_readClause_X7_readToken
set_option maxRecDepth 20000 in
theorem ggX7_readClause_X8_tellNothing : GoodIn wsX7_readClause wsX8_tellNothing := goodIn_r _ [87, 88, 89, 90, 91, 92, 93, 94, 95, 86, 96, 97, 98, 99, 100, 101, 102, 170, 171, 172, 173, 174, 175, 176, 177, 178, 179, 180, 181, 182, 183, 184] (by decide +kernel) (by decide +kernel)
set_option maxRecDepth 20000 in
theorem gX7_readClause_X8_tellNothing : GoodIn wsX7_readClause (wsV RX7 64 RX8 yX8_tellNothing wsX8_tellNothing) := goodIn_app (goodIn_of _ (by decide +kernel)) ggX7_readClause_X8_tellNothing
set_option maxRecDepth 20000 in
theorem ggX7_readClause_X7_readLikes : GoodIn wsX7_readClause wsX7_readLikes := goodIn_r _ [106, 4, 72, 2, 107, 108, 109, 110, 8, 111, 1, 3, 112, 113, 114, 115, 10, 18, 116, 117, 118, 75, 76, 77, 78, 79, 80, 81, 82, 119, 120, 121, 122, 162, 163, 164, 165, 166, 167, 168, 169, 170, 171, 172, 173, 174, 175, 176, 177, 178, 179, 180, 181, 182, 183, 184] (by decide +kernel) (by decide +kernel)
set_option maxRecDepth 20000 in
theorem gX7_readClause_X7_readLikes : GoodIn wsX7_readClause (wsV RX7 67 RX7 yX7_readLikes wsX7_readLikes) := goodIn_app (goodIn_of _ (by decide +kernel)) ggX7_readClause_X7_readLikes
set_option maxRecDepth 20000 in
theorem ggX7_readClause_X7_readWork : GoodIn wsX7_readClause wsX7_readWork := goodIn_r _ [126, 2, 4, 108, 109, 110, 8, 111, 1, 3, 112, 113, 114, 115, 10, 18, 116, 117, 118, 75, 76, 77, 78, 79, 80, 81, 82, 127, 128, 129, 86, 130, 89, 131, 132, 133, 134, 162, 163, 164, 165, 166, 167, 168, 169, 170, 171, 172, 173, 174, 175, 176, 177, 178, 179, 180, 181, 182, 183, 184] (by decide +kernel) (by decide +kernel)
set_option maxRecDepth 20000 in
theorem gX7_readClause_X7_readWork : GoodIn wsX7_readClause (wsV RX7 70 RX7 yX7_readWork wsX7_readWork) := goodIn_app (goodIn_of _ (by decide +kernel)) ggX7_readClause_X7_readWork
set_option maxRecDepth 20000 in
theorem ggX7_readClause_X7_readGood : GoodIn wsX7_readClause wsX7_readGood := goodIn_r _ [138, 2, 4, 108, 109, 110, 8, 111, 1, 3, 112, 113, 114, 115, 10, 18, 116, 117, 118, 75, 76, 77, 78, 79, 80, 81, 82, 139, 140, 141, 86, 142, 90, 143, 144, 91, 162, 163, 164, 165, 166, 167, 168, 169, 170, 171, 172, 173, 174, 175, 176, 177, 178, 179, 180, 181, 182, 183, 184] (by decide +kernel) (by decide +kernel)
set_option maxRecDepth 20000 in
theorem gX7_readClause_X7_readGood : GoodIn wsX7_readClause (wsV RX7 73 RX7 yX7_readGood wsX7_readGood) := goodIn_app (goodIn_of _ (by decide +kernel)) ggX7_readClause_X7_readGood
set_option maxRecDepth 20000 in
theorem ggX7_readClause_X7_readLength : GoodIn wsX7_readClause wsX7_readLength := goodIn_r _ [148, 2, 4, 149, 108, 109, 110, 8, 111, 1, 3, 112, 113, 114, 115, 10, 18, 116, 117, 118, 75, 76, 77, 78, 79, 80, 81, 82, 162, 163, 164, 165, 166, 167, 168, 169, 170, 171, 172, 173, 174, 175, 176, 177, 178, 179, 180, 181, 182, 183, 184] (by decide +kernel) (by decide +kernel)
set_option maxRecDepth 20000 in
theorem gX7_readClause_X7_readLength : GoodIn wsX7_readClause (wsV RX7 76 RX7 yX7_readLength wsX7_readLength) := goodIn_app (goodIn_of _ (by decide +kernel)) ggX7_readClause_X7_readLength
set_option maxRecDepth 20000 in
theorem ggX7_readClause_X7_readWorld : GoodIn wsX7_readClause wsX7_readWorld := goodIn_r _ [153, 2, 4, 108, 109, 110, 8, 111, 1, 3, 112, 113, 114, 115, 10, 18, 116, 117, 118, 75, 76, 77, 78, 79, 80, 81, 82, 119, 120, 121, 122, 154, 98, 99, 86, 100, 101, 102, 162, 163, 164, 165, 166, 167, 168, 169, 170, 171, 172, 173, 174, 175, 176, 177, 178, 179, 180, 181, 182, 183, 184] (by decide +kernel) (by decide +kernel)
set_option maxRecDepth 20000 in
theorem gX7_readClause_X7_readWorld : GoodIn wsX7_readClause (wsV RX7 79 RX7 yX7_readWorld wsX7_readWorld) := goodIn_app (goodIn_of _ (by decide +kernel)) ggX7_readClause_X7_readWorld
set_option maxRecDepth 20000 in
theorem ggX7_readClause_X8_tellStill : GoodIn wsX7_readClause wsX8_tellStill := goodIn_r _ [96, 97, 98, 99, 86, 100, 101, 102, 170, 171, 172, 173, 174, 175, 176, 177, 178, 179, 180, 181, 182, 183, 184] (by decide +kernel) (by decide +kernel)
set_option maxRecDepth 20000 in
theorem gX7_readClause_X8_tellStill : GoodIn wsX7_readClause (wsV RX7 82 RX8 yX8_tellStill wsX8_tellStill) := goodIn_app (goodIn_of _ (by decide +kernel)) ggX7_readClause_X8_tellStill
set_option maxRecDepth 20000 in
theorem ggX7_readClause_X8_addOne : GoodIn wsX7_readClause wsX8_addOne := goodIn_r _ [159, 88, 160, 161, 170, 171, 172, 173, 174, 175, 176, 177, 178, 179, 180, 181, 182, 183, 184] (by decide +kernel) (by decide +kernel)
set_option maxRecDepth 20000 in
theorem gX7_readClause_X8_addOne : GoodIn wsX7_readClause (wsV RX7 85 RX8 yX8_addOne wsX8_addOne) := goodIn_app (goodIn_of _ (by decide +kernel)) ggX7_readClause_X8_addOne
theorem dX7_readClause_0 : decode cX7_readClause 0 = .ok (.aload_n 0, 1) := by decide +kernel
theorem dX7_readClause_1 : decode cX7_readClause 1 = .ok (.invokevirtual 56, 3) := by decide +kernel
theorem dX7_readClause_4 : decode cX7_readClause 4 = .ok (.istore_n 1, 1) := by decide +kernel
theorem dX7_readClause_5 : decode cX7_readClause 5 = .ok (.iload_n 1, 1) := by decide +kernel
theorem dX7_readClause_6 : decode cX7_readClause 6 = .ok (.iconst (-1), 1) := by decide +kernel
theorem dX7_readClause_7 : decode cX7_readClause 7 = .ok (.if_icmp .eq 11, 3) := by decide +kernel
theorem dX7_readClause_10 : decode cX7_readClause 10 = .ok (.aload_n 0, 1) := by decide +kernel
theorem dX7_readClause_11 : decode cX7_readClause 11 = .ok (.iload_n 1, 1) := by decide +kernel
theorem dX7_readClause_12 : decode cX7_readClause 12 = .ok (.invokevirtual 60, 3) := by decide +kernel
theorem dX7_readClause_15 : decode cX7_readClause 15 = .ok (.ifCond .ne 12, 3) := by decide +kernel
theorem dX7_readClause_18 : decode cX7_readClause 18 = .ok (.aload_n 0, 1) := by decide +kernel
theorem dX7_readClause_19 : decode cX7_readClause 19 = .ok (.aload_n 0, 1) := by decide +kernel
theorem dX7_readClause_20 : decode cX7_readClause 20 = .ok (.getfield 46, 3) := by decide +kernel
theorem dX7_readClause_23 : decode cX7_readClause 23 = .ok (.putfield 33, 3) := by decide +kernel
theorem dX7_readClause_26 : decode cX7_readClause 26 = .ok (.return_, 1) := by decide +kernel
theorem dX7_readClause_27 : decode cX7_readClause 27 = .ok (.aload_n 0, 1) := by decide +kernel
theorem dX7_readClause_28 : decode cX7_readClause 28 = .ok (.aload_n 0, 1) := by decide +kernel
theorem dX7_readClause_29 : decode cX7_readClause 29 = .ok (.getfield 49, 3) := by decide +kernel
theorem dX7_readClause_32 : decode cX7_readClause 32 = .ok (.invokevirtual 36, 3) := by decide +kernel
theorem dX7_readClause_35 : decode cX7_readClause 35 = .ok (.iload_n 1, 1) := by decide +kernel
theorem dX7_readClause_36 : decode cX7_readClause 36 = .ok (.tableswitch 128 0 11 #[64, 128, 128, 128, 128, 74, 81, 88, 96, 104, 111, 118], 64) := by decide +kernel
theorem dX7_readClause_100 : decode cX7_readClause 100 = .ok (.aload_n 0, 1) := by decide +kernel
theorem dX7_readClause_101 : decode cX7_readClause 101 = .ok (.getfield 18, 3) := by decide +kernel
theorem dX7_readClause_104 : decode cX7_readClause 104 = .ok (.invokevirtual 64, 3) := by decide +kernel
theorem dX7_readClause_107 : decode cX7_readClause 107 = .ok (.goto 67, 3) := by decide +kernel
theorem dX7_readClause_110 : decode cX7_readClause 110 = .ok (.aload_n 0, 1) := by decide +kernel
theorem dX7_readClause_111 : decode cX7_readClause 111 = .ok (.invokevirtual 67, 3) := by decide +kernel
theorem dX7_readClause_114 : decode cX7_readClause 114 = .ok (.goto 60, 3) := by decide +kernel
theorem dX7_readClause_117 : decode cX7_readClause 117 = .ok (.aload_n 0, 1) := by decide +kernel
theorem dX7_readClause_118 : decode cX7_readClause 118 = .ok (.invokevirtual 70, 3) := by decide +kernel
theorem dX7_readClause_121 : decode cX7_readClause 121 = .ok (.goto 53, 3) := by decide +kernel
theorem dX7_readClause_124 : decode cX7_readClause 124 = .ok (.aload_n 0, 1) := by decide +kernel
theorem dX7_readClause_125 : decode cX7_readClause 125 = .ok (.iconst 1, 1) := by decide +kernel
theorem dX7_readClause_126 : decode cX7_readClause 126 = .ok (.invokevirtual 73, 3) := by decide +kernel
theorem dX7_readClause_129 : decode cX7_readClause 129 = .ok (.goto 45, 3) := by decide +kernel
theorem dX7_readClause_132 : decode cX7_readClause 132 = .ok (.aload_n 0, 1) := by decide +kernel
theorem dX7_readClause_133 : decode cX7_readClause 133 = .ok (.iconst 0, 1) := by decide +kernel
theorem dX7_readClause_134 : decode cX7_readClause 134 = .ok (.invokevirtual 73, 3) := by decide +kernel
theorem dX7_readClause_137 : decode cX7_readClause 137 = .ok (.goto 37, 3) := by decide +kernel
theorem dX7_readClause_140 : decode cX7_readClause 140 = .ok (.aload_n 0, 1) := by decide +kernel
theorem dX7_readClause_141 : decode cX7_readClause 141 = .ok (.invokevirtual 76, 3) := by decide +kernel
theorem dX7_readClause_144 : decode cX7_readClause 144 = .ok (.goto 30, 3) := by decide +kernel
theorem dX7_readClause_147 : decode cX7_readClause 147 = .ok (.aload_n 0, 1) := by decide +kernel
theorem dX7_readClause_148 : decode cX7_readClause 148 = .ok (.invokevirtual 79, 3) := by decide +kernel
theorem dX7_readClause_151 : decode cX7_readClause 151 = .ok (.goto 23, 3) := by decide +kernel
theorem dX7_readClause_154 : decode cX7_readClause 154 = .ok (.aload_n 0, 1) := by decide +kernel
theorem dX7_readClause_155 : decode cX7_readClause 155 = .ok (.getfield 18, 3) := by decide +kernel
theorem dX7_readClause_158 : decode cX7_readClause 158 = .ok (.invokevirtual 82, 3) := by decide +kernel
theorem dX7_readClause_161 : decode cX7_readClause 161 = .ok (.goto 13, 3) := by decide +kernel
theorem dX7_readClause_164 : decode cX7_readClause 164 = .ok (.aload_n 0, 1) := by decide +kernel
theorem dX7_readClause_165 : decode cX7_readClause 165 = .ok (.getfield 18, 3) := by decide +kernel
theorem dX7_readClause_168 : decode cX7_readClause 168 = .ok (.iload_n 1, 1) := by decide +kernel
theorem dX7_readClause_169 : decode cX7_readClause 169 = .ok (.iconst 1, 1) := by decide +kernel
theorem dX7_readClause_170 : decode cX7_readClause 170 = .ok (.isub, 1) := by decide +kernel
theorem dX7_readClause_171 : decode cX7_readClause 171 = .ok (.invokevirtual 85, 3) := by decide +kernel
theorem dX7_readClause_174 : decode cX7_readClause 174 = .ok (.return_, 1) := by decide +kernel
set_option maxRecDepth 20000 in
theorem ggX7_clauseOfToken_X7_wordOf : GoodIn wsX7_clauseOfToken wsX7_wordOf := goodIn_r _ [5] (by decide +kernel) (by decide +kernel)
set_option maxRecDepth 20000 in
theorem gX7_clauseOfToken_X7_wordOf : GoodIn wsX7_clauseOfToken (va_wsS RX7 88 yX7_wordOf wsX7_wordOf) := goodIn_app (goodIn_of _ (by decide +kernel)) ggX7_clauseOfToken_X7_wordOf
set_option maxRecDepth 20000 in
theorem ggX7_clauseOfToken_X7_tokenSpells : GoodIn wsX7_clauseOfToken wsX7_tokenSpells := goodIn_r _ [9, 10, 11, 12, 13, 14, 15, 16, 17, 18, 19, 20, 21, 22, 23, 24, 25, 26, 27, 28, 29, 30, 31, 32, 33, 34, 35, 36, 37, 38, 39, 40, 41, 42, 43, 44, 45, 46, 47, 48, 49, 50, 51, 52, 53, 54, 55, 56, 57, 58, 59, 60, 61, 62, 63, 64, 65, 66, 67, 68, 69] (by decide +kernel) (by decide +kernel)
set_option maxRecDepth 20000 in
theorem gX7_clauseOfToken_X7_tokenSpells : GoodIn wsX7_clauseOfToken (wsV RX7 92 RX7 yX7_tokenSpells wsX7_tokenSpells) := goodIn_app (goodIn_of _ (by decide +kernel)) ggX7_clauseOfToken_X7_tokenSpells
theorem dX7_clauseOfToken_0 : decode cX7_clauseOfToken 0 = .ok (.aload_n 0, 1) := by decide +kernel
theorem dX7_clauseOfToken_1 : decode cX7_clauseOfToken 1 = .ok (.getfield 43, 3) := by decide +kernel
theorem dX7_clauseOfToken_4 : decode cX7_clauseOfToken 4 = .ok (.ifCond .eq 5, 3) := by decide +kernel
theorem dX7_clauseOfToken_7 : decode cX7_clauseOfToken 7 = .ok (.iconst (-1), 1) := by decide +kernel
theorem dX7_clauseOfToken_8 : decode cX7_clauseOfToken 8 = .ok (.ireturn, 1) := by decide +kernel
theorem dX7_clauseOfToken_9 : decode cX7_clauseOfToken 9 = .ok (.iconst 0, 1) := by decide +kernel
theorem dX7_clauseOfToken_10 : decode cX7_clauseOfToken 10 = .ok (.istore_n 1, 1) := by decide +kernel
theorem dX7_clauseOfToken_11 : decode cX7_clauseOfToken 11 = .ok (.iload_n 1, 1) := by decide +kernel
theorem dX7_clauseOfToken_12 : decode cX7_clauseOfToken 12 = .ok (.bipush 12, 2) := by decide +kernel
theorem dX7_clauseOfToken_14 : decode cX7_clauseOfToken 14 = .ok (.if_icmp .ge 22, 3) := by decide +kernel
theorem dX7_clauseOfToken_17 : decode cX7_clauseOfToken 17 = .ok (.aload_n 0, 1) := by decide +kernel
theorem dX7_clauseOfToken_18 : decode cX7_clauseOfToken 18 = .ok (.iload_n 1, 1) := by decide +kernel
theorem dX7_clauseOfToken_19 : decode cX7_clauseOfToken 19 = .ok (.invokestatic 88, 3) := by decide +kernel
theorem dX7_clauseOfToken_22 : decode cX7_clauseOfToken 22 = .ok (.invokevirtual 92, 3) := by decide +kernel
theorem dX7_clauseOfToken_25 : decode cX7_clauseOfToken 25 = .ok (.ifCond .eq 5, 3) := by decide +kernel
theorem dX7_clauseOfToken_28 : decode cX7_clauseOfToken 28 = .ok (.iload_n 1, 1) := by decide +kernel
theorem dX7_clauseOfToken_29 : decode cX7_clauseOfToken 29 = .ok (.ireturn, 1) := by decide +kernel
theorem dX7_clauseOfToken_30 : decode cX7_clauseOfToken 30 = .ok (.iinc 1 1, 3) := by decide +kernel
theorem dX7_clauseOfToken_33 : decode cX7_clauseOfToken 33 = .ok (.goto (-22), 3) := by decide +kernel
theorem dX7_clauseOfToken_36 : decode cX7_clauseOfToken 36 = .ok (.iconst (-1), 1) := by decide +kernel
theorem dX7_clauseOfToken_37 : decode cX7_clauseOfToken 37 = .ok (.ireturn, 1) := by decide +kernel
theorem dX7_wordOf_0 : decode cX7_wordOf 0 = .ok (.iload_n 0, 1) := by decide +kernel
theorem dX7_wordOf_1 : decode cX7_wordOf 1 = .ok (.tableswitch 92 0 10 #[59, 62, 65, 68, 71, 74, 77, 80, 83, 86, 89], 59) := by decide +kernel
theorem dX7_wordOf_60 : decode cX7_wordOf 60 = .ok (.ldc 96, 2) := by decide +kernel
theorem dX7_wordOf_62 : decode cX7_wordOf 62 = .ok (.areturn, 1) := by decide +kernel
theorem dX7_wordOf_63 : decode cX7_wordOf 63 = .ok (.ldc 98, 2) := by decide +kernel
theorem dX7_wordOf_65 : decode cX7_wordOf 65 = .ok (.areturn, 1) := by decide +kernel
theorem dX7_wordOf_66 : decode cX7_wordOf 66 = .ok (.ldc 100, 2) := by decide +kernel
theorem dX7_wordOf_68 : decode cX7_wordOf 68 = .ok (.areturn, 1) := by decide +kernel
theorem dX7_wordOf_69 : decode cX7_wordOf 69 = .ok (.ldc 102, 2) := by decide +kernel
theorem dX7_wordOf_71 : decode cX7_wordOf 71 = .ok (.areturn, 1) := by decide +kernel
theorem dX7_wordOf_72 : decode cX7_wordOf 72 = .ok (.ldc 104, 2) := by decide +kernel
theorem dX7_wordOf_74 : decode cX7_wordOf 74 = .ok (.areturn, 1) := by decide +kernel
theorem dX7_wordOf_75 : decode cX7_wordOf 75 = .ok (.ldc 106, 2) := by decide +kernel
theorem dX7_wordOf_77 : decode cX7_wordOf 77 = .ok (.areturn, 1) := by decide +kernel
theorem dX7_wordOf_78 : decode cX7_wordOf 78 = .ok (.ldc 108, 2) := by decide +kernel
theorem dX7_wordOf_80 : decode cX7_wordOf 80 = .ok (.areturn, 1) := by decide +kernel
theorem dX7_wordOf_81 : decode cX7_wordOf 81 = .ok (.ldc 110, 2) := by decide +kernel
theorem dX7_wordOf_83 : decode cX7_wordOf 83 = .ok (.areturn, 1) := by decide +kernel
theorem dX7_wordOf_84 : decode cX7_wordOf 84 = .ok (.ldc 112, 2) := by decide +kernel
theorem dX7_wordOf_86 : decode cX7_wordOf 86 = .ok (.areturn, 1) := by decide +kernel
theorem dX7_wordOf_87 : decode cX7_wordOf 87 = .ok (.ldc 114, 2) := by decide +kernel
theorem dX7_wordOf_89 : decode cX7_wordOf 89 = .ok (.areturn, 1) := by decide +kernel
theorem dX7_wordOf_90 : decode cX7_wordOf 90 = .ok (.ldc 116, 2) := by decide +kernel
theorem dX7_wordOf_92 : decode cX7_wordOf 92 = .ok (.areturn, 1) := by decide +kernel
theorem dX7_wordOf_93 : decode cX7_wordOf 93 = .ok (.ldc 118, 2) := by decide +kernel
theorem dX7_wordOf_95 : decode cX7_wordOf 95 = .ok (.areturn, 1) := by decide +kernel
set_option maxRecDepth 20000 in
theorem ggX7_tokenSpells_J0_length_8abf5 : GoodIn wsX7_tokenSpells wsJ0_length_8abf5 := goodIn_r _ [8, 9, 10, 11, 12, 7, 13, 14, 15] (by decide +kernel) (by decide +kernel)
set_option maxRecDepth 20000 in
theorem gX7_tokenSpells_J0_length_8abf5 : GoodIn wsX7_tokenSpells (wsV RX7 120 RJ0 yJ0_length_8abf5 wsJ0_length_8abf5) := goodIn_app (goodIn_of _ (by decide +kernel)) ggX7_tokenSpells_J0_length_8abf5
set_option maxRecDepth 20000 in
theorem ggX7_tokenSpells_J0_charAt_5068e : GoodIn wsX7_tokenSpells wsJ0_charAt_5068e := goodIn_r _ [19, 9, 20, 21, 22, 7, 23, 14, 15, 24, 25, 26, 27, 28, 29, 30, 31, 32, 33, 34, 35, 36, 37, 38, 39, 40, 41, 42, 43, 44, 45, 46, 47, 48, 49, 50, 51, 52] (by decide +kernel) (by decide +kernel)
set_option maxRecDepth 20000 in
theorem gX7_tokenSpells_J0_charAt_5068e : GoodIn wsX7_tokenSpells (wsV RX7 124 RJ0 yJ0_charAt_5068e wsJ0_charAt_5068e) := goodIn_app (goodIn_of _ (by decide +kernel)) ggX7_tokenSpells_J0_charAt_5068e
theorem dX7_tokenSpells_0 : decode cX7_tokenSpells 0 = .ok (.aload_n 1, 1) := by decide +kernel
theorem dX7_tokenSpells_1 : decode cX7_tokenSpells 1 = .ok (.invokevirtual 120, 3) := by decide +kernel
theorem dX7_tokenSpells_4 : decode cX7_tokenSpells 4 = .ok (.aload_n 0, 1) := by decide +kernel
theorem dX7_tokenSpells_5 : decode cX7_tokenSpells 5 = .ok (.getfield 49, 3) := by decide +kernel
theorem dX7_tokenSpells_8 : decode cX7_tokenSpells 8 = .ok (.aload_n 0, 1) := by decide +kernel
theorem dX7_tokenSpells_9 : decode cX7_tokenSpells 9 = .ok (.getfield 46, 3) := by decide +kernel
theorem dX7_tokenSpells_12 : decode cX7_tokenSpells 12 = .ok (.isub, 1) := by decide +kernel
theorem dX7_tokenSpells_13 : decode cX7_tokenSpells 13 = .ok (.if_icmp .eq 5, 3) := by decide +kernel
theorem dX7_tokenSpells_16 : decode cX7_tokenSpells 16 = .ok (.iconst 0, 1) := by decide +kernel
theorem dX7_tokenSpells_17 : decode cX7_tokenSpells 17 = .ok (.ireturn, 1) := by decide +kernel
theorem dX7_tokenSpells_18 : decode cX7_tokenSpells 18 = .ok (.iconst 0, 1) := by decide +kernel
theorem dX7_tokenSpells_19 : decode cX7_tokenSpells 19 = .ok (.istore_n 2, 1) := by decide +kernel
theorem dX7_tokenSpells_20 : decode cX7_tokenSpells 20 = .ok (.iload_n 2, 1) := by decide +kernel
theorem dX7_tokenSpells_21 : decode cX7_tokenSpells 21 = .ok (.aload_n 1, 1) := by decide +kernel
theorem dX7_tokenSpells_22 : decode cX7_tokenSpells 22 = .ok (.invokevirtual 120, 3) := by decide +kernel
theorem dX7_tokenSpells_25 : decode cX7_tokenSpells 25 = .ok (.if_icmp .ge 30, 3) := by decide +kernel
theorem dX7_tokenSpells_28 : decode cX7_tokenSpells 28 = .ok (.aload_n 1, 1) := by decide +kernel
theorem dX7_tokenSpells_29 : decode cX7_tokenSpells 29 = .ok (.iload_n 2, 1) := by decide +kernel
theorem dX7_tokenSpells_30 : decode cX7_tokenSpells 30 = .ok (.invokevirtual 124, 3) := by decide +kernel
theorem dX7_tokenSpells_33 : decode cX7_tokenSpells 33 = .ok (.aload_n 0, 1) := by decide +kernel
theorem dX7_tokenSpells_34 : decode cX7_tokenSpells 34 = .ok (.getfield 9, 3) := by decide +kernel
theorem dX7_tokenSpells_37 : decode cX7_tokenSpells 37 = .ok (.aload_n 0, 1) := by decide +kernel
theorem dX7_tokenSpells_38 : decode cX7_tokenSpells 38 = .ok (.getfield 46, 3) := by decide +kernel
theorem dX7_tokenSpells_41 : decode cX7_tokenSpells 41 = .ok (.iload_n 2, 1) := by decide +kernel
theorem dX7_tokenSpells_42 : decode cX7_tokenSpells 42 = .ok (.iadd, 1) := by decide +kernel
theorem dX7_tokenSpells_43 : decode cX7_tokenSpells 43 = .ok (.iaload, 1) := by decide +kernel
theorem dX7_tokenSpells_44 : decode cX7_tokenSpells 44 = .ok (.if_icmp .eq 5, 3) := by decide +kernel
theorem dX7_tokenSpells_47 : decode cX7_tokenSpells 47 = .ok (.iconst 0, 1) := by decide +kernel
theorem dX7_tokenSpells_48 : decode cX7_tokenSpells 48 = .ok (.ireturn, 1) := by decide +kernel
theorem dX7_tokenSpells_49 : decode cX7_tokenSpells 49 = .ok (.iinc 2 1, 3) := by decide +kernel
theorem dX7_tokenSpells_52 : decode cX7_tokenSpells 52 = .ok (.goto (-32), 3) := by decide +kernel
theorem dX7_tokenSpells_55 : decode cX7_tokenSpells 55 = .ok (.iconst 1, 1) := by decide +kernel
theorem dX7_tokenSpells_56 : decode cX7_tokenSpells 56 = .ok (.ireturn, 1) := by decide +kernel
theorem dX7_hasRoomFor_0 : decode cX7_hasRoomFor 0 = .ok (.iload_n 1, 1) := by decide +kernel
theorem dX7_hasRoomFor_1 : decode cX7_hasRoomFor 1 = .ok (.iconst 1, 1) := by decide +kernel
theorem dX7_hasRoomFor_2 : decode cX7_hasRoomFor 2 = .ok (.if_icmp .lt 25, 3) := by decide +kernel
theorem dX7_hasRoomFor_5 : decode cX7_hasRoomFor 5 = .ok (.iload_n 1, 1) := by decide +kernel
theorem dX7_hasRoomFor_6 : decode cX7_hasRoomFor 6 = .ok (.iconst 5, 1) := by decide +kernel
theorem dX7_hasRoomFor_7 : decode cX7_hasRoomFor 7 = .ok (.if_icmp .ge 20, 3) := by decide +kernel
theorem dX7_hasRoomFor_10 : decode cX7_hasRoomFor 10 = .ok (.aload_n 0, 1) := by decide +kernel
theorem dX7_hasRoomFor_11 : decode cX7_hasRoomFor 11 = .ok (.getfield 18, 3) := by decide +kernel
theorem dX7_hasRoomFor_14 : decode cX7_hasRoomFor 14 = .ok (.getfield 128, 3) := by decide +kernel
theorem dX7_hasRoomFor_17 : decode cX7_hasRoomFor 17 = .ok (.iconst 5, 1) := by decide +kernel
theorem dX7_hasRoomFor_18 : decode cX7_hasRoomFor 18 = .ok (.if_icmp .ge 7, 3) := by decide +kernel
theorem dX7_hasRoomFor_21 : decode cX7_hasRoomFor 21 = .ok (.iconst 1, 1) := by decide +kernel
theorem dX7_hasRoomFor_22 : decode cX7_hasRoomFor 22 = .ok (.goto 4, 3) := by decide +kernel
theorem dX7_hasRoomFor_25 : decode cX7_hasRoomFor 25 = .ok (.iconst 0, 1) := by decide +kernel
theorem dX7_hasRoomFor_26 : decode cX7_hasRoomFor 26 = .ok (.ireturn, 1) := by decide +kernel
theorem dX7_hasRoomFor_27 : decode cX7_hasRoomFor 27 = .ok (.iload_n 1, 1) := by decide +kernel
theorem dX7_hasRoomFor_28 : decode cX7_hasRoomFor 28 = .ok (.bipush 6, 2) := by decide +kernel
theorem dX7_hasRoomFor_30 : decode cX7_hasRoomFor 30 = .ok (.if_icmp .ne 21, 3) := by decide +kernel
theorem dX7_hasRoomFor_33 : decode cX7_hasRoomFor 33 = .ok (.aload_n 0, 1) := by decide +kernel
theorem dX7_hasRoomFor_34 : decode cX7_hasRoomFor 34 = .ok (.getfield 18, 3) := by decide +kernel
theorem dX7_hasRoomFor_37 : decode cX7_hasRoomFor 37 = .ok (.getfield 131, 3) := by decide +kernel
theorem dX7_hasRoomFor_40 : decode cX7_hasRoomFor 40 = .ok (.bipush 6, 2) := by decide +kernel
theorem dX7_hasRoomFor_42 : decode cX7_hasRoomFor 42 = .ok (.if_icmp .ge 7, 3) := by decide +kernel
theorem dX7_hasRoomFor_45 : decode cX7_hasRoomFor 45 = .ok (.iconst 1, 1) := by decide +kernel
theorem dX7_hasRoomFor_46 : decode cX7_hasRoomFor 46 = .ok (.goto 4, 3) := by decide +kernel
theorem dX7_hasRoomFor_49 : decode cX7_hasRoomFor 49 = .ok (.iconst 0, 1) := by decide +kernel
theorem dX7_hasRoomFor_50 : decode cX7_hasRoomFor 50 = .ok (.ireturn, 1) := by decide +kernel
theorem dX7_hasRoomFor_51 : decode cX7_hasRoomFor 51 = .ok (.iload_n 1, 1) := by decide +kernel
theorem dX7_hasRoomFor_52 : decode cX7_hasRoomFor 52 = .ok (.bipush 7, 2) := by decide +kernel
theorem dX7_hasRoomFor_54 : decode cX7_hasRoomFor 54 = .ok (.if_icmp .eq 9, 3) := by decide +kernel
theorem dX7_hasRoomFor_57 : decode cX7_hasRoomFor 57 = .ok (.iload_n 1, 1) := by decide +kernel
theorem dX7_hasRoomFor_58 : decode cX7_hasRoomFor 58 = .ok (.bipush 8, 2) := by decide +kernel
theorem dX7_hasRoomFor_60 : decode cX7_hasRoomFor 60 = .ok (.if_icmp .ne 20, 3) := by decide +kernel
theorem dX7_hasRoomFor_63 : decode cX7_hasRoomFor 63 = .ok (.aload_n 0, 1) := by decide +kernel
theorem dX7_hasRoomFor_64 : decode cX7_hasRoomFor 64 = .ok (.getfield 18, 3) := by decide +kernel
theorem dX7_hasRoomFor_67 : decode cX7_hasRoomFor 67 = .ok (.getfield 134, 3) := by decide +kernel
theorem dX7_hasRoomFor_70 : decode cX7_hasRoomFor 70 = .ok (.iconst 5, 1) := by decide +kernel
theorem dX7_hasRoomFor_71 : decode cX7_hasRoomFor 71 = .ok (.if_icmp .ge 7, 3) := by decide +kernel
theorem dX7_hasRoomFor_74 : decode cX7_hasRoomFor 74 = .ok (.iconst 1, 1) := by decide +kernel
theorem dX7_hasRoomFor_75 : decode cX7_hasRoomFor 75 = .ok (.goto 4, 3) := by decide +kernel
theorem dX7_hasRoomFor_78 : decode cX7_hasRoomFor 78 = .ok (.iconst 0, 1) := by decide +kernel
theorem dX7_hasRoomFor_79 : decode cX7_hasRoomFor 79 = .ok (.ireturn, 1) := by decide +kernel
theorem dX7_hasRoomFor_80 : decode cX7_hasRoomFor 80 = .ok (.iconst 1, 1) := by decide +kernel
theorem dX7_hasRoomFor_81 : decode cX7_hasRoomFor 81 = .ok (.ireturn, 1) := by decide +kernel
set_option maxRecDepth 20000 in
theorem ggX7_readLikes_X7_takeNumber : GoodIn wsX7_readLikes wsX7_takeNumber := goodIn_r _ [9, 3, 10, 11, 12, 13, 14, 8, 15, 16, 17, 18, 19, 20, 21, 22, 23, 24, 25, 26, 27, 28, 33, 34, 35, 36, 37, 38, 39, 40] (by decide +kernel) (by decide +kernel)
set_option maxRecDepth 20000 in
theorem gX7_readLikes_X7_takeNumber : GoodIn wsX7_readLikes (wsV RX7 137 RX7 yX7_takeNumber wsX7_takeNumber) := goodIn_app (goodIn_of _ (by decide +kernel)) ggX7_readLikes_X7_takeNumber
set_option maxRecDepth 20000 in
theorem ggX7_readLikes_X7_takeNumberUnlike : GoodIn wsX7_readLikes wsX7_takeNumberUnlike := goodIn_r _ [32, 10, 3, 5, 6, 7, 8, 9, 11, 12, 13, 14, 15, 16, 17, 18, 19, 20, 21, 22, 23, 24, 25, 26, 27, 28, 33, 34, 35, 36, 37, 38, 39, 40] (by decide +kernel) (by decide +kernel)
set_option maxRecDepth 20000 in
theorem gX7_readLikes_X7_takeNumberUnlike : GoodIn wsX7_readLikes (wsV RX7 141 RX7 yX7_takeNumberUnlike wsX7_takeNumberUnlike) := goodIn_app (goodIn_of _ (by decide +kernel)) ggX7_readLikes_X7_takeNumberUnlike
theorem dX7_readLikes_0 : decode cX7_readLikes 0 = .ok (.aload_n 0, 1) := by decide +kernel
theorem dX7_readLikes_1 : decode cX7_readLikes 1 = .ok (.iconst 0, 1) := by decide +kernel
theorem dX7_readLikes_2 : decode cX7_readLikes 2 = .ok (.aload_n 0, 1) := by decide +kernel
theorem dX7_readLikes_3 : decode cX7_readLikes 3 = .ok (.getfield 18, 3) := by decide +kernel
theorem dX7_readLikes_6 : decode cX7_readLikes 6 = .ok (.getfield 128, 3) := by decide +kernel
theorem dX7_readLikes_9 : decode cX7_readLikes 9 = .ok (.iconst 1, 1) := by decide +kernel
theorem dX7_readLikes_10 : decode cX7_readLikes 10 = .ok (.isub, 1) := by decide +kernel
theorem dX7_readLikes_11 : decode cX7_readLikes 11 = .ok (.invokevirtual 137, 3) := by decide +kernel
theorem dX7_readLikes_14 : decode cX7_readLikes 14 = .ok (.istore_n 1, 1) := by decide +kernel
theorem dX7_readLikes_15 : decode cX7_readLikes 15 = .ok (.aload_n 0, 1) := by decide +kernel
theorem dX7_readLikes_16 : decode cX7_readLikes 16 = .ok (.iload_n 1, 1) := by decide +kernel
theorem dX7_readLikes_17 : decode cX7_readLikes 17 = .ok (.aload_n 0, 1) := by decide +kernel
theorem dX7_readLikes_18 : decode cX7_readLikes 18 = .ok (.getfield 18, 3) := by decide +kernel
theorem dX7_readLikes_21 : decode cX7_readLikes 21 = .ok (.getfield 128, 3) := by decide +kernel
theorem dX7_readLikes_24 : decode cX7_readLikes 24 = .ok (.iconst 1, 1) := by decide +kernel
theorem dX7_readLikes_25 : decode cX7_readLikes 25 = .ok (.isub, 1) := by decide +kernel
theorem dX7_readLikes_26 : decode cX7_readLikes 26 = .ok (.invokevirtual 141, 3) := by decide +kernel
theorem dX7_readLikes_29 : decode cX7_readLikes 29 = .ok (.istore_n 2, 1) := by decide +kernel
theorem dX7_readLikes_30 : decode cX7_readLikes 30 = .ok (.aload_n 0, 1) := by decide +kernel
theorem dX7_readLikes_31 : decode cX7_readLikes 31 = .ok (.getfield 33, 3) := by decide +kernel
theorem dX7_readLikes_34 : decode cX7_readLikes 34 = .ok (.iconst (-1), 1) := by decide +kernel
theorem dX7_readLikes_35 : decode cX7_readLikes 35 = .ok (.if_icmp .ne 18, 3) := by decide +kernel
theorem dX7_readLikes_38 : decode cX7_readLikes 38 = .ok (.aload_n 0, 1) := by decide +kernel
theorem dX7_readLikes_39 : decode cX7_readLikes 39 = .ok (.getfield 18, 3) := by decide +kernel
theorem dX7_readLikes_42 : decode cX7_readLikes 42 = .ok (.getfield 144, 3) := by decide +kernel
theorem dX7_readLikes_45 : decode cX7_readLikes 45 = .ok (.iload_n 1, 1) := by decide +kernel
theorem dX7_readLikes_46 : decode cX7_readLikes 46 = .ok (.dup2, 1) := by decide +kernel
theorem dX7_readLikes_47 : decode cX7_readLikes 47 = .ok (.iaload, 1) := by decide +kernel
theorem dX7_readLikes_48 : decode cX7_readLikes 48 = .ok (.iconst 1, 1) := by decide +kernel
theorem dX7_readLikes_49 : decode cX7_readLikes 49 = .ok (.iload_n 2, 1) := by decide +kernel
theorem dX7_readLikes_50 : decode cX7_readLikes 50 = .ok (.ishl, 1) := by decide +kernel
theorem dX7_readLikes_51 : decode cX7_readLikes 51 = .ok (.ior, 1) := by decide +kernel
theorem dX7_readLikes_52 : decode cX7_readLikes 52 = .ok (.iastore, 1) := by decide +kernel
theorem dX7_readLikes_53 : decode cX7_readLikes 53 = .ok (.return_, 1) := by decide +kernel
set_option maxRecDepth 20000 in
theorem ggX7_readWork_X7_takeNumber : GoodIn wsX7_readWork wsX7_takeNumber := goodIn_r _ [7, 1, 8, 9, 10, 11, 12, 6, 13, 14, 15, 16, 17, 18, 19, 20, 21, 22, 23, 24, 25, 26, 37, 38, 39, 40, 41, 42, 43, 44] (by decide +kernel) (by decide +kernel)
set_option maxRecDepth 20000 in
theorem gX7_readWork_X7_takeNumber : GoodIn wsX7_readWork (wsV RX7 137 RX7 yX7_takeNumber wsX7_takeNumber) := goodIn_app (goodIn_of _ (by decide +kernel)) ggX7_readWork_X7_takeNumber
set_option maxRecDepth 20000 in
theorem ggX7_readWork_X8_addWork : GoodIn wsX7_readWork wsX8_addWork := goodIn_r _ [31, 32, 33, 34, 35, 36, 45, 46, 47, 48, 49, 50, 51, 52, 53, 54, 55, 56, 57, 58, 59] (by decide +kernel) (by decide +kernel)
set_option maxRecDepth 20000 in
theorem gX7_readWork_X8_addWork : GoodIn wsX7_readWork (wsV RX7 147 RX8 yX8_addWork wsX8_addWork) := goodIn_app (goodIn_of _ (by decide +kernel)) ggX7_readWork_X8_addWork
theorem dX7_readWork_0 : decode cX7_readWork 0 = .ok (.aload_n 0, 1) := by decide +kernel
theorem dX7_readWork_1 : decode cX7_readWork 1 = .ok (.iconst 0, 1) := by decide +kernel
theorem dX7_readWork_2 : decode cX7_readWork 2 = .ok (.iconst 2, 1) := by decide +kernel
theorem dX7_readWork_3 : decode cX7_readWork 3 = .ok (.invokevirtual 137, 3) := by decide +kernel
theorem dX7_readWork_6 : decode cX7_readWork 6 = .ok (.istore_n 1, 1) := by decide +kernel
theorem dX7_readWork_7 : decode cX7_readWork 7 = .ok (.aload_n 0, 1) := by decide +kernel
theorem dX7_readWork_8 : decode cX7_readWork 8 = .ok (.iconst 1, 1) := by decide +kernel
theorem dX7_readWork_9 : decode cX7_readWork 9 = .ok (.bipush 60, 2) := by decide +kernel
theorem dX7_readWork_11 : decode cX7_readWork 11 = .ok (.invokevirtual 137, 3) := by decide +kernel
theorem dX7_readWork_14 : decode cX7_readWork 14 = .ok (.istore_n 2, 1) := by decide +kernel
theorem dX7_readWork_15 : decode cX7_readWork 15 = .ok (.aload_n 0, 1) := by decide +kernel
theorem dX7_readWork_16 : decode cX7_readWork 16 = .ok (.iconst 1, 1) := by decide +kernel
theorem dX7_readWork_17 : decode cX7_readWork 17 = .ok (.bipush 9, 2) := by decide +kernel
theorem dX7_readWork_19 : decode cX7_readWork 19 = .ok (.invokevirtual 137, 3) := by decide +kernel
theorem dX7_readWork_22 : decode cX7_readWork 22 = .ok (.istore_n 3, 1) := by decide +kernel
theorem dX7_readWork_23 : decode cX7_readWork 23 = .ok (.aload_n 0, 1) := by decide +kernel
theorem dX7_readWork_24 : decode cX7_readWork 24 = .ok (.iconst 0, 1) := by decide +kernel
theorem dX7_readWork_25 : decode cX7_readWork 25 = .ok (.bipush 50, 2) := by decide +kernel
theorem dX7_readWork_27 : decode cX7_readWork 27 = .ok (.invokevirtual 137, 3) := by decide +kernel
theorem dX7_readWork_30 : decode cX7_readWork 30 = .ok (.istore 4, 2) := by decide +kernel
theorem dX7_readWork_32 : decode cX7_readWork 32 = .ok (.aload_n 0, 1) := by decide +kernel
theorem dX7_readWork_33 : decode cX7_readWork 33 = .ok (.getfield 33, 3) := by decide +kernel
theorem dX7_readWork_36 : decode cX7_readWork 36 = .ok (.iconst (-1), 1) := by decide +kernel
theorem dX7_readWork_37 : decode cX7_readWork 37 = .ok (.if_icmp .ne 15, 3) := by decide +kernel
theorem dX7_readWork_40 : decode cX7_readWork 40 = .ok (.aload_n 0, 1) := by decide +kernel
theorem dX7_readWork_41 : decode cX7_readWork 41 = .ok (.getfield 18, 3) := by decide +kernel
theorem dX7_readWork_44 : decode cX7_readWork 44 = .ok (.iload_n 1, 1) := by decide +kernel
theorem dX7_readWork_45 : decode cX7_readWork 45 = .ok (.iload_n 2, 1) := by decide +kernel
theorem dX7_readWork_46 : decode cX7_readWork 46 = .ok (.iload_n 3, 1) := by decide +kernel
theorem dX7_readWork_47 : decode cX7_readWork 47 = .ok (.iload 4, 2) := by decide +kernel
theorem dX7_readWork_49 : decode cX7_readWork 49 = .ok (.invokevirtual 147, 3) := by decide +kernel
theorem dX7_readWork_52 : decode cX7_readWork 52 = .ok (.return_, 1) := by decide +kernel
set_option maxRecDepth 20000 in
theorem ggX7_readGood_X7_takeNumber : GoodIn wsX7_readGood wsX7_takeNumber := goodIn_r _ [7, 1, 8, 9, 10, 11, 12, 6, 13, 14, 15, 16, 17, 18, 19, 20, 21, 22, 23, 24, 25, 26, 36, 37, 38, 39, 40, 41, 42, 43] (by decide +kernel) (by decide +kernel)
set_option maxRecDepth 20000 in
theorem gX7_readGood_X7_takeNumber : GoodIn wsX7_readGood (wsV RX7 137 RX7 yX7_takeNumber wsX7_takeNumber) := goodIn_app (goodIn_of _ (by decide +kernel)) ggX7_readGood_X7_takeNumber
set_option maxRecDepth 20000 in
theorem ggX7_readGood_X8_addGood : GoodIn wsX7_readGood wsX8_addGood := goodIn_r _ [31, 32, 33, 34, 35, 44, 45, 46, 47, 48, 49, 50, 51, 52, 53, 54, 55, 56, 57, 58] (by decide +kernel) (by decide +kernel)
set_option maxRecDepth 20000 in
theorem gX7_readGood_X8_addGood : GoodIn wsX7_readGood (wsV RX7 151 RX8 yX8_addGood wsX8_addGood) := goodIn_app (goodIn_of _ (by decide +kernel)) ggX7_readGood_X8_addGood
theorem dX7_readGood_0 : decode cX7_readGood 0 = .ok (.aload_n 0, 1) := by decide +kernel
theorem dX7_readGood_1 : decode cX7_readGood 1 = .ok (.iconst 0, 1) := by decide +kernel
theorem dX7_readGood_2 : decode cX7_readGood 2 = .ok (.bipush 99, 2) := by decide +kernel
theorem dX7_readGood_4 : decode cX7_readGood 4 = .ok (.invokevirtual 137, 3) := by decide +kernel
theorem dX7_readGood_7 : decode cX7_readGood 7 = .ok (.istore_n 2, 1) := by decide +kernel
theorem dX7_readGood_8 : decode cX7_readGood 8 = .ok (.aload_n 0, 1) := by decide +kernel
theorem dX7_readGood_9 : decode cX7_readGood 9 = .ok (.iconst 0, 1) := by decide +kernel
theorem dX7_readGood_10 : decode cX7_readGood 10 = .ok (.bipush 9, 2) := by decide +kernel
theorem dX7_readGood_12 : decode cX7_readGood 12 = .ok (.invokevirtual 137, 3) := by decide +kernel
theorem dX7_readGood_15 : decode cX7_readGood 15 = .ok (.istore_n 3, 1) := by decide +kernel
theorem dX7_readGood_16 : decode cX7_readGood 16 = .ok (.aload_n 0, 1) := by decide +kernel
theorem dX7_readGood_17 : decode cX7_readGood 17 = .ok (.getfield 33, 3) := by decide +kernel
theorem dX7_readGood_20 : decode cX7_readGood 20 = .ok (.iconst (-1), 1) := by decide +kernel
theorem dX7_readGood_21 : decode cX7_readGood 21 = .ok (.if_icmp .ne 13, 3) := by decide +kernel
theorem dX7_readGood_24 : decode cX7_readGood 24 = .ok (.aload_n 0, 1) := by decide +kernel
theorem dX7_readGood_25 : decode cX7_readGood 25 = .ok (.getfield 18, 3) := by decide +kernel
theorem dX7_readGood_28 : decode cX7_readGood 28 = .ok (.iload_n 2, 1) := by decide +kernel
theorem dX7_readGood_29 : decode cX7_readGood 29 = .ok (.iload_n 3, 1) := by decide +kernel
theorem dX7_readGood_30 : decode cX7_readGood 30 = .ok (.iload_n 1, 1) := by decide +kernel
theorem dX7_readGood_31 : decode cX7_readGood 31 = .ok (.invokevirtual 151, 3) := by decide +kernel
theorem dX7_readGood_34 : decode cX7_readGood 34 = .ok (.return_, 1) := by decide +kernel
set_option maxRecDepth 20000 in
theorem ggX7_readLength_X7_takeNumber : GoodIn wsX7_readLength wsX7_takeNumber := goodIn_r _ [8, 1, 9, 10, 11, 12, 13, 7, 14, 15, 16, 17, 18, 19, 20, 21, 22, 23, 24, 25, 26, 27, 28, 29, 30, 31, 32, 33, 34, 35] (by decide +kernel) (by decide +kernel)
set_option maxRecDepth 20000 in
theorem gX7_readLength_X7_takeNumber : GoodIn wsX7_readLength (wsV RX7 137 RX7 yX7_takeNumber wsX7_takeNumber) := goodIn_app (goodIn_of _ (by decide +kernel)) ggX7_readLength_X7_takeNumber
theorem dX7_readLength_0 : decode cX7_readLength 0 = .ok (.aload_n 0, 1) := by decide +kernel
theorem dX7_readLength_1 : decode cX7_readLength 1 = .ok (.iconst 1, 1) := by decide +kernel
theorem dX7_readLength_2 : decode cX7_readLength 2 = .ok (.bipush 99, 2) := by decide +kernel
theorem dX7_readLength_4 : decode cX7_readLength 4 = .ok (.invokevirtual 137, 3) := by decide +kernel
theorem dX7_readLength_7 : decode cX7_readLength 7 = .ok (.istore_n 1, 1) := by decide +kernel
theorem dX7_readLength_8 : decode cX7_readLength 8 = .ok (.aload_n 0, 1) := by decide +kernel
theorem dX7_readLength_9 : decode cX7_readLength 9 = .ok (.getfield 33, 3) := by decide +kernel
theorem dX7_readLength_12 : decode cX7_readLength 12 = .ok (.iconst (-1), 1) := by decide +kernel
theorem dX7_readLength_13 : decode cX7_readLength 13 = .ok (.if_icmp .ne 11, 3) := by decide +kernel
theorem dX7_readLength_16 : decode cX7_readLength 16 = .ok (.aload_n 0, 1) := by decide +kernel
theorem dX7_readLength_17 : decode cX7_readLength 17 = .ok (.getfield 18, 3) := by decide +kernel
theorem dX7_readLength_20 : decode cX7_readLength 20 = .ok (.iload_n 1, 1) := by decide +kernel
theorem dX7_readLength_21 : decode cX7_readLength 21 = .ok (.putfield 155, 3) := by decide +kernel
theorem dX7_readLength_24 : decode cX7_readLength 24 = .ok (.return_, 1) := by decide +kernel
set_option maxRecDepth 20000 in
theorem ggX7_readWorld_X7_takeNumber : GoodIn wsX7_readWorld wsX7_takeNumber := goodIn_r _ [7, 1, 8, 9, 10, 11, 12, 6, 13, 14, 15, 16, 17, 18, 19, 20, 21, 22, 23, 24, 25, 26, 38, 39, 40, 41, 42, 43, 44, 45] (by decide +kernel) (by decide +kernel)
set_option maxRecDepth 20000 in
theorem gX7_readWorld_X7_takeNumber : GoodIn wsX7_readWorld (wsV RX7 137 RX7 yX7_takeNumber wsX7_takeNumber) := goodIn_app (goodIn_of _ (by decide +kernel)) ggX7_readWorld_X7_takeNumber
set_option maxRecDepth 20000 in
theorem ggX7_readWorld_X7_takeNumberUnlike : GoodIn wsX7_readWorld wsX7_takeNumberUnlike := goodIn_r _ [30, 8, 1, 3, 4, 5, 6, 7, 9, 10, 11, 12, 13, 14, 15, 16, 17, 18, 19, 20, 21, 22, 23, 24, 25, 26, 38, 39, 40, 41, 42, 43, 44, 45] (by decide +kernel) (by decide +kernel)
set_option maxRecDepth 20000 in
theorem gX7_readWorld_X7_takeNumberUnlike : GoodIn wsX7_readWorld (wsV RX7 141 RX7 yX7_takeNumberUnlike wsX7_takeNumberUnlike) := goodIn_app (goodIn_of _ (by decide +kernel)) ggX7_readWorld_X7_takeNumberUnlike
set_option maxRecDepth 20000 in
theorem ggX7_readWorld_X8_tellWorld : GoodIn wsX7_readWorld wsX8_tellWorld := goodIn_r _ [35, 36, 37, 46, 47, 48, 49, 50, 51, 52, 53, 54, 55, 56, 57, 58, 59, 60] (by decide +kernel) (by decide +kernel)
set_option maxRecDepth 20000 in
theorem gX7_readWorld_X8_tellWorld : GoodIn wsX7_readWorld (wsV RX7 157 RX8 yX8_tellWorld wsX8_tellWorld) := goodIn_app (goodIn_of _ (by decide +kernel)) ggX7_readWorld_X8_tellWorld
theorem dX7_readWorld_0 : decode cX7_readWorld 0 = .ok (.aload_n 0, 1) := by decide +kernel
theorem dX7_readWorld_1 : decode cX7_readWorld 1 = .ok (.iconst 0, 1) := by decide +kernel
theorem dX7_readWorld_2 : decode cX7_readWorld 2 = .ok (.iconst 3, 1) := by decide +kernel
theorem dX7_readWorld_3 : decode cX7_readWorld 3 = .ok (.invokevirtual 137, 3) := by decide +kernel
theorem dX7_readWorld_6 : decode cX7_readWorld 6 = .ok (.istore_n 1, 1) := by decide +kernel
theorem dX7_readWorld_7 : decode cX7_readWorld 7 = .ok (.aload_n 0, 1) := by decide +kernel
theorem dX7_readWorld_8 : decode cX7_readWorld 8 = .ok (.iload_n 1, 1) := by decide +kernel
theorem dX7_readWorld_9 : decode cX7_readWorld 9 = .ok (.iconst 3, 1) := by decide +kernel
theorem dX7_readWorld_10 : decode cX7_readWorld 10 = .ok (.invokevirtual 141, 3) := by decide +kernel
theorem dX7_readWorld_13 : decode cX7_readWorld 13 = .ok (.istore_n 2, 1) := by decide +kernel
theorem dX7_readWorld_14 : decode cX7_readWorld 14 = .ok (.aload_n 0, 1) := by decide +kernel
theorem dX7_readWorld_15 : decode cX7_readWorld 15 = .ok (.iconst 0, 1) := by decide +kernel
theorem dX7_readWorld_16 : decode cX7_readWorld 16 = .ok (.bipush 9, 2) := by decide +kernel
theorem dX7_readWorld_18 : decode cX7_readWorld 18 = .ok (.invokevirtual 137, 3) := by decide +kernel
theorem dX7_readWorld_21 : decode cX7_readWorld 21 = .ok (.istore_n 3, 1) := by decide +kernel
theorem dX7_readWorld_22 : decode cX7_readWorld 22 = .ok (.aload_n 0, 1) := by decide +kernel
theorem dX7_readWorld_23 : decode cX7_readWorld 23 = .ok (.getfield 33, 3) := by decide +kernel
theorem dX7_readWorld_26 : decode cX7_readWorld 26 = .ok (.iconst (-1), 1) := by decide +kernel
theorem dX7_readWorld_27 : decode cX7_readWorld 27 = .ok (.if_icmp .ne 13, 3) := by decide +kernel
theorem dX7_readWorld_30 : decode cX7_readWorld 30 = .ok (.aload_n 0, 1) := by decide +kernel
theorem dX7_readWorld_31 : decode cX7_readWorld 31 = .ok (.getfield 18, 3) := by decide +kernel
theorem dX7_readWorld_34 : decode cX7_readWorld 34 = .ok (.iload_n 1, 1) := by decide +kernel
theorem dX7_readWorld_35 : decode cX7_readWorld 35 = .ok (.iload_n 2, 1) := by decide +kernel
theorem dX7_readWorld_36 : decode cX7_readWorld 36 = .ok (.iload_n 3, 1) := by decide +kernel
theorem dX7_readWorld_37 : decode cX7_readWorld 37 = .ok (.invokevirtual 157, 3) := by decide +kernel
theorem dX7_readWorld_40 : decode cX7_readWorld 40 = .ok (.return_, 1) := by decide +kernel
set_option maxRecDepth 20000 in
theorem ggX7_takeNumber_X7_numberOfToken : GoodIn wsX7_takeNumber wsX7_numberOfToken := goodIn_r _ [8, 3, 2, 9, 10, 22, 23, 24, 25, 26, 27, 28, 29] (by decide +kernel) (by decide +kernel)
set_option maxRecDepth 20000 in
theorem gX7_takeNumber_X7_numberOfToken : GoodIn wsX7_takeNumber (wsV RX7 160 RX7 yX7_numberOfToken wsX7_numberOfToken) := goodIn_app (goodIn_of _ (by decide +kernel)) ggX7_takeNumber_X7_numberOfToken
set_option maxRecDepth 20000 in
theorem ggX7_takeNumber_X10_isOutside : GoodIn wsX7_takeNumber wsX10_isOutside := goodIn_r _ [13] (by decide +kernel) (by decide +kernel)
set_option maxRecDepth 20000 in
theorem gX7_takeNumber_X10_isOutside_n163 : GoodIn wsX7_takeNumber (wsX10_isOutside) := ggX7_takeNumber_X10_isOutside
set_option maxRecDepth 20000 in
theorem ggX7_takeNumber_X7_readToken : GoodIn wsX7_takeNumber wsX7_readToken := goodIn_r _ [17, 18, 10, 2, 3, 9, 19, 20, 7, 21, 22, 23, 24, 25, 26, 27, 28, 29] (by decide +kernel) (by decide +kernel)
set_option maxRecDepth 20000 in
theorem gX7_takeNumber_X7_readToken : GoodIn wsX7_takeNumber (wsV RX7 36 RX7 yX7_readToken wsX7_readToken) := goodIn_app (goodIn_of _ (by decide +kernel)) ggX7_takeNumber_X7_readToken
theorem dX7_takeNumber_0 : decode cX7_takeNumber 0 = .ok (.aload_n 0, 1) := by decide +kernel
theorem dX7_takeNumber_1 : decode cX7_takeNumber 1 = .ok (.getfield 33, 3) := by decide +kernel
theorem dX7_takeNumber_4 : decode cX7_takeNumber 4 = .ok (.iconst (-1), 1) := by decide +kernel
theorem dX7_takeNumber_5 : decode cX7_takeNumber 5 = .ok (.if_icmp .eq 5, 3) := by decide +kernel
theorem dX7_takeNumber_8 : decode cX7_takeNumber 8 = .ok (.iconst (-1), 1) := by decide +kernel
theorem dX7_takeNumber_9 : decode cX7_takeNumber 9 = .ok (.ireturn, 1) := by decide +kernel
theorem dX7_takeNumber_10 : decode cX7_takeNumber 10 = .ok (.aload_n 0, 1) := by decide +kernel
theorem dX7_takeNumber_11 : decode cX7_takeNumber 11 = .ok (.invokevirtual 160, 3) := by decide +kernel
theorem dX7_takeNumber_14 : decode cX7_takeNumber 14 = .ok (.istore_n 3, 1) := by decide +kernel
theorem dX7_takeNumber_15 : decode cX7_takeNumber 15 = .ok (.iload_n 3, 1) := by decide +kernel
theorem dX7_takeNumber_16 : decode cX7_takeNumber 16 = .ok (.iload_n 1, 1) := by decide +kernel
theorem dX7_takeNumber_17 : decode cX7_takeNumber 17 = .ok (.iload_n 2, 1) := by decide +kernel
theorem dX7_takeNumber_18 : decode cX7_takeNumber 18 = .ok (.invokestatic 163, 3) := by decide +kernel
theorem dX7_takeNumber_21 : decode cX7_takeNumber 21 = .ok (.ifCond .eq 13, 3) := by decide +kernel
theorem dX7_takeNumber_24 : decode cX7_takeNumber 24 = .ok (.aload_n 0, 1) := by decide +kernel
theorem dX7_takeNumber_25 : decode cX7_takeNumber 25 = .ok (.aload_n 0, 1) := by decide +kernel
theorem dX7_takeNumber_26 : decode cX7_takeNumber 26 = .ok (.getfield 46, 3) := by decide +kernel
theorem dX7_takeNumber_29 : decode cX7_takeNumber 29 = .ok (.putfield 33, 3) := by decide +kernel
theorem dX7_takeNumber_32 : decode cX7_takeNumber 32 = .ok (.iconst (-1), 1) := by decide +kernel
theorem dX7_takeNumber_33 : decode cX7_takeNumber 33 = .ok (.ireturn, 1) := by decide +kernel
theorem dX7_takeNumber_34 : decode cX7_takeNumber 34 = .ok (.aload_n 0, 1) := by decide +kernel
theorem dX7_takeNumber_35 : decode cX7_takeNumber 35 = .ok (.aload_n 0, 1) := by decide +kernel
theorem dX7_takeNumber_36 : decode cX7_takeNumber 36 = .ok (.getfield 49, 3) := by decide +kernel
theorem dX7_takeNumber_39 : decode cX7_takeNumber 39 = .ok (.invokevirtual 36, 3) := by decide +kernel
theorem dX7_takeNumber_42 : decode cX7_takeNumber 42 = .ok (.iload_n 3, 1) := by decide +kernel
theorem dX7_takeNumber_43 : decode cX7_takeNumber 43 = .ok (.ireturn, 1) := by decide +kernel
set_option maxRecDepth 20000 in
theorem ggX7_takeNumberUnlike_X7_takeNumber : GoodIn wsX7_takeNumberUnlike wsX7_takeNumber := goodIn_r _ [7, 2, 1, 8, 9, 10, 11, 6, 12, 13, 14, 15, 16, 17, 18, 19, 20, 21, 22, 23, 24, 25, 26, 27, 28, 29, 30, 31, 32, 33] (by decide +kernel) (by decide +kernel)
set_option maxRecDepth 20000 in
theorem gX7_takeNumberUnlike_X7_takeNumber : GoodIn wsX7_takeNumberUnlike (wsV RX7 137 RX7 yX7_takeNumber wsX7_takeNumber) := goodIn_app (goodIn_of _ (by decide +kernel)) ggX7_takeNumberUnlike_X7_takeNumber
theorem dX7_takeNumberUnlike_0 : decode cX7_takeNumberUnlike 0 = .ok (.aload_n 0, 1) := by decide +kernel
theorem dX7_takeNumberUnlike_1 : decode cX7_takeNumberUnlike 1 = .ok (.getfield 46, 3) := by decide +kernel
theorem dX7_takeNumberUnlike_4 : decode cX7_takeNumberUnlike 4 = .ok (.istore_n 3, 1) := by decide +kernel
theorem dX7_takeNumberUnlike_5 : decode cX7_takeNumberUnlike 5 = .ok (.aload_n 0, 1) := by decide +kernel
theorem dX7_takeNumberUnlike_6 : decode cX7_takeNumberUnlike 6 = .ok (.iconst 0, 1) := by decide +kernel
theorem dX7_takeNumberUnlike_7 : decode cX7_takeNumberUnlike 7 = .ok (.iload_n 2, 1) := by decide +kernel
theorem dX7_takeNumberUnlike_8 : decode cX7_takeNumberUnlike 8 = .ok (.invokevirtual 137, 3) := by decide +kernel
theorem dX7_takeNumberUnlike_11 : decode cX7_takeNumberUnlike 11 = .ok (.istore 4, 2) := by decide +kernel
theorem dX7_takeNumberUnlike_13 : decode cX7_takeNumberUnlike 13 = .ok (.aload_n 0, 1) := by decide +kernel
theorem dX7_takeNumberUnlike_14 : decode cX7_takeNumberUnlike 14 = .ok (.getfield 33, 3) := by decide +kernel
theorem dX7_takeNumberUnlike_17 : decode cX7_takeNumberUnlike 17 = .ok (.iconst (-1), 1) := by decide +kernel
theorem dX7_takeNumberUnlike_18 : decode cX7_takeNumberUnlike 18 = .ok (.if_icmp .ne 14, 3) := by decide +kernel
theorem dX7_takeNumberUnlike_21 : decode cX7_takeNumberUnlike 21 = .ok (.iload 4, 2) := by decide +kernel
theorem dX7_takeNumberUnlike_23 : decode cX7_takeNumberUnlike 23 = .ok (.iload_n 1, 1) := by decide +kernel
theorem dX7_takeNumberUnlike_24 : decode cX7_takeNumberUnlike 24 = .ok (.if_icmp .ne 8, 3) := by decide +kernel
theorem dX7_takeNumberUnlike_27 : decode cX7_takeNumberUnlike 27 = .ok (.aload_n 0, 1) := by decide +kernel
theorem dX7_takeNumberUnlike_28 : decode cX7_takeNumberUnlike 28 = .ok (.iload_n 3, 1) := by decide +kernel
theorem dX7_takeNumberUnlike_29 : decode cX7_takeNumberUnlike 29 = .ok (.putfield 33, 3) := by decide +kernel
theorem dX7_takeNumberUnlike_32 : decode cX7_takeNumberUnlike 32 = .ok (.iload 4, 2) := by decide +kernel
theorem dX7_takeNumberUnlike_34 : decode cX7_takeNumberUnlike 34 = .ok (.ireturn, 1) := by decide +kernel
theorem dX7_numberOfToken_0 : decode cX7_numberOfToken 0 = .ok (.aload_n 0, 1) := by decide +kernel
theorem dX7_numberOfToken_1 : decode cX7_numberOfToken 1 = .ok (.getfield 49, 3) := by decide +kernel
theorem dX7_numberOfToken_4 : decode cX7_numberOfToken 4 = .ok (.aload_n 0, 1) := by decide +kernel
theorem dX7_numberOfToken_5 : decode cX7_numberOfToken 5 = .ok (.getfield 46, 3) := by decide +kernel
theorem dX7_numberOfToken_8 : decode cX7_numberOfToken 8 = .ok (.isub, 1) := by decide +kernel
theorem dX7_numberOfToken_9 : decode cX7_numberOfToken 9 = .ok (.istore_n 1, 1) := by decide +kernel
theorem dX7_numberOfToken_10 : decode cX7_numberOfToken 10 = .ok (.aload_n 0, 1) := by decide +kernel
theorem dX7_numberOfToken_11 : decode cX7_numberOfToken 11 = .ok (.getfield 43, 3) := by decide +kernel
theorem dX7_numberOfToken_14 : decode cX7_numberOfToken 14 = .ok (.iconst 1, 1) := by decide +kernel
theorem dX7_numberOfToken_15 : decode cX7_numberOfToken 15 = .ok (.if_icmp .ne 8, 3) := by decide +kernel
theorem dX7_numberOfToken_18 : decode cX7_numberOfToken 18 = .ok (.iload_n 1, 1) := by decide +kernel
theorem dX7_numberOfToken_19 : decode cX7_numberOfToken 19 = .ok (.iconst 2, 1) := by decide +kernel
theorem dX7_numberOfToken_20 : decode cX7_numberOfToken 20 = .ok (.if_icmp .le 5, 3) := by decide +kernel
theorem dX7_numberOfToken_23 : decode cX7_numberOfToken 23 = .ok (.iconst (-1), 1) := by decide +kernel
theorem dX7_numberOfToken_24 : decode cX7_numberOfToken 24 = .ok (.ireturn, 1) := by decide +kernel
theorem dX7_numberOfToken_25 : decode cX7_numberOfToken 25 = .ok (.iconst 0, 1) := by decide +kernel
theorem dX7_numberOfToken_26 : decode cX7_numberOfToken 26 = .ok (.istore_n 2, 1) := by decide +kernel
theorem dX7_numberOfToken_27 : decode cX7_numberOfToken 27 = .ok (.aload_n 0, 1) := by decide +kernel
theorem dX7_numberOfToken_28 : decode cX7_numberOfToken 28 = .ok (.getfield 46, 3) := by decide +kernel
theorem dX7_numberOfToken_31 : decode cX7_numberOfToken 31 = .ok (.istore_n 3, 1) := by decide +kernel
theorem dX7_numberOfToken_32 : decode cX7_numberOfToken 32 = .ok (.iload_n 3, 1) := by decide +kernel
theorem dX7_numberOfToken_33 : decode cX7_numberOfToken 33 = .ok (.aload_n 0, 1) := by decide +kernel
theorem dX7_numberOfToken_34 : decode cX7_numberOfToken 34 = .ok (.getfield 49, 3) := by decide +kernel
theorem dX7_numberOfToken_37 : decode cX7_numberOfToken 37 = .ok (.if_icmp .ge 24, 3) := by decide +kernel
theorem dX7_numberOfToken_40 : decode cX7_numberOfToken 40 = .ok (.iload_n 2, 1) := by decide +kernel
theorem dX7_numberOfToken_41 : decode cX7_numberOfToken 41 = .ok (.bipush 10, 2) := by decide +kernel
theorem dX7_numberOfToken_43 : decode cX7_numberOfToken 43 = .ok (.imul, 1) := by decide +kernel
theorem dX7_numberOfToken_44 : decode cX7_numberOfToken 44 = .ok (.aload_n 0, 1) := by decide +kernel
theorem dX7_numberOfToken_45 : decode cX7_numberOfToken 45 = .ok (.getfield 9, 3) := by decide +kernel
theorem dX7_numberOfToken_48 : decode cX7_numberOfToken 48 = .ok (.iload_n 3, 1) := by decide +kernel
theorem dX7_numberOfToken_49 : decode cX7_numberOfToken 49 = .ok (.iaload, 1) := by decide +kernel
theorem dX7_numberOfToken_50 : decode cX7_numberOfToken 50 = .ok (.iadd, 1) := by decide +kernel
theorem dX7_numberOfToken_51 : decode cX7_numberOfToken 51 = .ok (.bipush 48, 2) := by decide +kernel
theorem dX7_numberOfToken_53 : decode cX7_numberOfToken 53 = .ok (.isub, 1) := by decide +kernel
theorem dX7_numberOfToken_54 : decode cX7_numberOfToken 54 = .ok (.istore_n 2, 1) := by decide +kernel
theorem dX7_numberOfToken_55 : decode cX7_numberOfToken 55 = .ok (.iinc 3 1, 3) := by decide +kernel
theorem dX7_numberOfToken_58 : decode cX7_numberOfToken 58 = .ok (.goto (-26), 3) := by decide +kernel
theorem dX7_numberOfToken_61 : decode cX7_numberOfToken 61 = .ok (.iload_n 2, 1) := by decide +kernel
theorem dX7_numberOfToken_62 : decode cX7_numberOfToken 62 = .ok (.ireturn, 1) := by decide +kernel
set_option maxRecDepth 20000 in
theorem ggX8_init_X8_tellNothing : GoodIn wsX8_init wsX8_tellNothing := goodIn_r _ [19, 20, 21, 22, 23, 24, 25, 26, 27, 18, 28, 29, 30, 31, 32, 13, 14, 33, 34, 35, 36, 37, 38, 39, 40, 41, 42, 43, 44, 45, 46, 47] (by decide +kernel) (by decide +kernel)
set_option maxRecDepth 20000 in
theorem gX8_init_X8_tellNothing : GoodIn wsX8_init (wsV RX8 42 RX8 yX8_tellNothing wsX8_tellNothing) := goodIn_app (goodIn_of _ (by decide +kernel)) ggX8_init_X8_tellNothing
theorem dX8_init_0 : decode cX8_init 0 = .ok (.aload_n 0, 1) := by decide +kernel
theorem dX8_init_1 : decode cX8_init 1 = .ok (.invokespecial 3, 3) := by decide +kernel
theorem dX8_init_4 : decode cX8_init 4 = .ok (.aload_n 0, 1) := by decide +kernel
theorem dX8_init_5 : decode cX8_init 5 = .ok (.iconst 5, 1) := by decide +kernel
theorem dX8_init_6 : decode cX8_init 6 = .ok (.newarray .int, 2) := by decide +kernel
theorem dX8_init_8 : decode cX8_init 8 = .ok (.putfield 9, 3) := by decide +kernel
theorem dX8_init_11 : decode cX8_init 11 = .ok (.aload_n 0, 1) := by decide +kernel
theorem dX8_init_12 : decode cX8_init 12 = .ok (.iconst 5, 1) := by decide +kernel
theorem dX8_init_13 : decode cX8_init 13 = .ok (.newarray .int, 2) := by decide +kernel
theorem dX8_init_15 : decode cX8_init 15 = .ok (.putfield 15, 3) := by decide +kernel
theorem dX8_init_18 : decode cX8_init 18 = .ok (.aload_n 0, 1) := by decide +kernel
theorem dX8_init_19 : decode cX8_init 19 = .ok (.bipush 6, 2) := by decide +kernel
theorem dX8_init_21 : decode cX8_init 21 = .ok (.newarray .int, 2) := by decide +kernel
theorem dX8_init_23 : decode cX8_init 23 = .ok (.putfield 18, 3) := by decide +kernel
theorem dX8_init_26 : decode cX8_init 26 = .ok (.aload_n 0, 1) := by decide +kernel
theorem dX8_init_27 : decode cX8_init 27 = .ok (.bipush 6, 2) := by decide +kernel
theorem dX8_init_29 : decode cX8_init 29 = .ok (.newarray .int, 2) := by decide +kernel
theorem dX8_init_31 : decode cX8_init 31 = .ok (.putfield 21, 3) := by decide +kernel
theorem dX8_init_34 : decode cX8_init 34 = .ok (.aload_n 0, 1) := by decide +kernel
theorem dX8_init_35 : decode cX8_init 35 = .ok (.bipush 6, 2) := by decide +kernel
theorem dX8_init_37 : decode cX8_init 37 = .ok (.newarray .int, 2) := by decide +kernel
theorem dX8_init_39 : decode cX8_init 39 = .ok (.putfield 24, 3) := by decide +kernel
theorem dX8_init_42 : decode cX8_init 42 = .ok (.aload_n 0, 1) := by decide +kernel
theorem dX8_init_43 : decode cX8_init 43 = .ok (.bipush 6, 2) := by decide +kernel
theorem dX8_init_45 : decode cX8_init 45 = .ok (.newarray .int, 2) := by decide +kernel
theorem dX8_init_47 : decode cX8_init 47 = .ok (.putfield 27, 3) := by decide +kernel
theorem dX8_init_50 : decode cX8_init 50 = .ok (.aload_n 0, 1) := by decide +kernel
theorem dX8_init_51 : decode cX8_init 51 = .ok (.iconst 5, 1) := by decide +kernel
theorem dX8_init_52 : decode cX8_init 52 = .ok (.newarray .int, 2) := by decide +kernel
theorem dX8_init_54 : decode cX8_init 54 = .ok (.putfield 30, 3) := by decide +kernel
theorem dX8_init_57 : decode cX8_init 57 = .ok (.aload_n 0, 1) := by decide +kernel
theorem dX8_init_58 : decode cX8_init 58 = .ok (.iconst 5, 1) := by decide +kernel
theorem dX8_init_59 : decode cX8_init 59 = .ok (.newarray .int, 2) := by decide +kernel
theorem dX8_init_61 : decode cX8_init 61 = .ok (.putfield 33, 3) := by decide +kernel
theorem dX8_init_64 : decode cX8_init 64 = .ok (.aload_n 0, 1) := by decide +kernel
theorem dX8_init_65 : decode cX8_init 65 = .ok (.iconst 4, 1) := by decide +kernel
theorem dX8_init_66 : decode cX8_init 66 = .ok (.newarray .int, 2) := by decide +kernel
theorem dX8_init_68 : decode cX8_init 68 = .ok (.putfield 36, 3) := by decide +kernel
theorem dX8_init_71 : decode cX8_init 71 = .ok (.aload_n 0, 1) := by decide +kernel
theorem dX8_init_72 : decode cX8_init 72 = .ok (.iconst 4, 1) := by decide +kernel
theorem dX8_init_73 : decode cX8_init 73 = .ok (.newarray .int, 2) := by decide +kernel
theorem dX8_init_75 : decode cX8_init 75 = .ok (.putfield 39, 3) := by decide +kernel
theorem dX8_init_78 : decode cX8_init 78 = .ok (.aload_n 0, 1) := by decide +kernel
theorem dX8_init_79 : decode cX8_init 79 = .ok (.invokevirtual 42, 3) := by decide +kernel
theorem dX8_init_82 : decode cX8_init 82 = .ok (.return_, 1) := by decide +kernel
set_option maxRecDepth 20000 in
theorem ggX8_tellNothing_X8_tellStill : GoodIn wsX8_tellNothing wsX8_tellStill := goodIn_r _ [10, 11, 12, 13, 9, 14, 15, 16, 17, 18, 19, 20, 21, 22, 23, 24, 25, 26, 27, 28, 29, 30, 31] (by decide +kernel) (by decide +kernel)
set_option maxRecDepth 20000 in
theorem gX8_tellNothing_X8_tellStill : GoodIn wsX8_tellNothing (wsV RX8 61 RX8 yX8_tellStill wsX8_tellStill) := goodIn_app (goodIn_of _ (by decide +kernel)) ggX8_tellNothing_X8_tellStill
theorem dX8_tellNothing_0 : decode cX8_tellNothing 0 = .ok (.aload_n 0, 1) := by decide +kernel
theorem dX8_tellNothing_1 : decode cX8_tellNothing 1 = .ok (.iconst 0, 1) := by decide +kernel
theorem dX8_tellNothing_2 : decode cX8_tellNothing 2 = .ok (.putfield 45, 3) := by decide +kernel
theorem dX8_tellNothing_5 : decode cX8_tellNothing 5 = .ok (.aload_n 0, 1) := by decide +kernel
theorem dX8_tellNothing_6 : decode cX8_tellNothing 6 = .ok (.iconst 0, 1) := by decide +kernel
theorem dX8_tellNothing_7 : decode cX8_tellNothing 7 = .ok (.putfield 49, 3) := by decide +kernel
theorem dX8_tellNothing_10 : decode cX8_tellNothing 10 = .ok (.aload_n 0, 1) := by decide +kernel
theorem dX8_tellNothing_11 : decode cX8_tellNothing 11 = .ok (.iconst 0, 1) := by decide +kernel
theorem dX8_tellNothing_12 : decode cX8_tellNothing 12 = .ok (.putfield 52, 3) := by decide +kernel
theorem dX8_tellNothing_15 : decode cX8_tellNothing 15 = .ok (.aload_n 0, 1) := by decide +kernel
theorem dX8_tellNothing_16 : decode cX8_tellNothing 16 = .ok (.iconst 0, 1) := by decide +kernel
theorem dX8_tellNothing_17 : decode cX8_tellNothing 17 = .ok (.putfield 55, 3) := by decide +kernel
theorem dX8_tellNothing_20 : decode cX8_tellNothing 20 = .ok (.aload_n 0, 1) := by decide +kernel
theorem dX8_tellNothing_21 : decode cX8_tellNothing 21 = .ok (.bipush 60, 2) := by decide +kernel
theorem dX8_tellNothing_23 : decode cX8_tellNothing 23 = .ok (.putfield 58, 3) := by decide +kernel
theorem dX8_tellNothing_26 : decode cX8_tellNothing 26 = .ok (.aload_n 0, 1) := by decide +kernel
theorem dX8_tellNothing_27 : decode cX8_tellNothing 27 = .ok (.invokevirtual 61, 3) := by decide +kernel
theorem dX8_tellNothing_30 : decode cX8_tellNothing 30 = .ok (.return_, 1) := by decide +kernel
set_option maxRecDepth 20000 in
theorem ggX8_tellStill_X8_tellWorld : GoodIn wsX8_tellStill wsX8_tellWorld := goodIn_r _ [5, 6, 7, 8, 9, 10, 11, 12, 13, 14, 15, 16, 17, 18, 19, 20, 21, 22] (by decide +kernel) (by decide +kernel)
set_option maxRecDepth 20000 in
theorem gX8_tellStill_X8_tellWorld : GoodIn wsX8_tellStill (wsV RX8 64 RX8 yX8_tellWorld wsX8_tellWorld) := goodIn_app (goodIn_of _ (by decide +kernel)) ggX8_tellStill_X8_tellWorld
theorem dX8_tellStill_0 : decode cX8_tellStill 0 = .ok (.iconst 0, 1) := by decide +kernel
theorem dX8_tellStill_1 : decode cX8_tellStill 1 = .ok (.istore_n 1, 1) := by decide +kernel
theorem dX8_tellStill_2 : decode cX8_tellStill 2 = .ok (.iload_n 1, 1) := by decide +kernel
theorem dX8_tellStill_3 : decode cX8_tellStill 3 = .ok (.iconst 4, 1) := by decide +kernel
theorem dX8_tellStill_4 : decode cX8_tellStill 4 = .ok (.if_icmp .ge 16, 3) := by decide +kernel
theorem dX8_tellStill_7 : decode cX8_tellStill 7 = .ok (.aload_n 0, 1) := by decide +kernel
theorem dX8_tellStill_8 : decode cX8_tellStill 8 = .ok (.iload_n 1, 1) := by decide +kernel
theorem dX8_tellStill_9 : decode cX8_tellStill 9 = .ok (.iload_n 1, 1) := by decide +kernel
theorem dX8_tellStill_10 : decode cX8_tellStill 10 = .ok (.iconst 0, 1) := by decide +kernel
theorem dX8_tellStill_11 : decode cX8_tellStill 11 = .ok (.invokevirtual 64, 3) := by decide +kernel
theorem dX8_tellStill_14 : decode cX8_tellStill 14 = .ok (.iinc 1 1, 3) := by decide +kernel
theorem dX8_tellStill_17 : decode cX8_tellStill 17 = .ok (.goto (-15), 3) := by decide +kernel
theorem dX8_tellStill_20 : decode cX8_tellStill 20 = .ok (.return_, 1) := by decide +kernel
theorem dX8_tellWorld_0 : decode cX8_tellWorld 0 = .ok (.aload_n 0, 1) := by decide +kernel
theorem dX8_tellWorld_1 : decode cX8_tellWorld 1 = .ok (.getfield 36, 3) := by decide +kernel
theorem dX8_tellWorld_4 : decode cX8_tellWorld 4 = .ok (.iload_n 1, 1) := by decide +kernel
theorem dX8_tellWorld_5 : decode cX8_tellWorld 5 = .ok (.iload_n 2, 1) := by decide +kernel
theorem dX8_tellWorld_6 : decode cX8_tellWorld 6 = .ok (.iastore, 1) := by decide +kernel
theorem dX8_tellWorld_7 : decode cX8_tellWorld 7 = .ok (.aload_n 0, 1) := by decide +kernel
theorem dX8_tellWorld_8 : decode cX8_tellWorld 8 = .ok (.getfield 39, 3) := by decide +kernel
theorem dX8_tellWorld_11 : decode cX8_tellWorld 11 = .ok (.iload_n 1, 1) := by decide +kernel
theorem dX8_tellWorld_12 : decode cX8_tellWorld 12 = .ok (.iload_n 3, 1) := by decide +kernel
theorem dX8_tellWorld_13 : decode cX8_tellWorld 13 = .ok (.iastore, 1) := by decide +kernel
theorem dX8_tellWorld_14 : decode cX8_tellWorld 14 = .ok (.return_, 1) := by decide +kernel
theorem dX8_addOne_0 : decode cX8_addOne 0 = .ok (.aload_n 0, 1) := by decide +kernel
theorem dX8_addOne_1 : decode cX8_addOne 1 = .ok (.getfield 45, 3) := by decide +kernel
theorem dX8_addOne_4 : decode cX8_addOne 4 = .ok (.iconst 5, 1) := by decide +kernel
theorem dX8_addOne_5 : decode cX8_addOne 5 = .ok (.if_icmp .lt 4, 3) := by decide +kernel
theorem dX8_addOne_8 : decode cX8_addOne 8 = .ok (.return_, 1) := by decide +kernel
theorem dX8_addOne_9 : decode cX8_addOne 9 = .ok (.aload_n 0, 1) := by decide +kernel
theorem dX8_addOne_10 : decode cX8_addOne 10 = .ok (.getfield 9, 3) := by decide +kernel
theorem dX8_addOne_13 : decode cX8_addOne 13 = .ok (.aload_n 0, 1) := by decide +kernel
theorem dX8_addOne_14 : decode cX8_addOne 14 = .ok (.getfield 45, 3) := by decide +kernel
theorem dX8_addOne_17 : decode cX8_addOne 17 = .ok (.iload_n 1, 1) := by decide +kernel
theorem dX8_addOne_18 : decode cX8_addOne 18 = .ok (.iastore, 1) := by decide +kernel
theorem dX8_addOne_19 : decode cX8_addOne 19 = .ok (.aload_n 0, 1) := by decide +kernel
theorem dX8_addOne_20 : decode cX8_addOne 20 = .ok (.getfield 15, 3) := by decide +kernel
theorem dX8_addOne_23 : decode cX8_addOne 23 = .ok (.aload_n 0, 1) := by decide +kernel
theorem dX8_addOne_24 : decode cX8_addOne 24 = .ok (.getfield 45, 3) := by decide +kernel
theorem dX8_addOne_27 : decode cX8_addOne 27 = .ok (.iconst 0, 1) := by decide +kernel
theorem dX8_addOne_28 : decode cX8_addOne 28 = .ok (.iastore, 1) := by decide +kernel
theorem dX8_addOne_29 : decode cX8_addOne 29 = .ok (.aload_n 0, 1) := by decide +kernel
theorem dX8_addOne_30 : decode cX8_addOne 30 = .ok (.dup, 1) := by decide +kernel
theorem dX8_addOne_31 : decode cX8_addOne 31 = .ok (.getfield 45, 3) := by decide +kernel
theorem dX8_addOne_34 : decode cX8_addOne 34 = .ok (.iconst 1, 1) := by decide +kernel
theorem dX8_addOne_35 : decode cX8_addOne 35 = .ok (.iadd, 1) := by decide +kernel
theorem dX8_addOne_36 : decode cX8_addOne 36 = .ok (.putfield 45, 3) := by decide +kernel
theorem dX8_addOne_39 : decode cX8_addOne 39 = .ok (.return_, 1) := by decide +kernel
theorem dX8_addWork_0 : decode cX8_addWork 0 = .ok (.aload_n 0, 1) := by decide +kernel
theorem dX8_addWork_1 : decode cX8_addWork 1 = .ok (.getfield 49, 3) := by decide +kernel
theorem dX8_addWork_4 : decode cX8_addWork 4 = .ok (.bipush 6, 2) := by decide +kernel
theorem dX8_addWork_6 : decode cX8_addWork 6 = .ok (.if_icmp .lt 4, 3) := by decide +kernel
theorem dX8_addWork_9 : decode cX8_addWork 9 = .ok (.return_, 1) := by decide +kernel
theorem dX8_addWork_10 : decode cX8_addWork 10 = .ok (.aload_n 0, 1) := by decide +kernel
theorem dX8_addWork_11 : decode cX8_addWork 11 = .ok (.getfield 18, 3) := by decide +kernel
theorem dX8_addWork_14 : decode cX8_addWork 14 = .ok (.aload_n 0, 1) := by decide +kernel
theorem dX8_addWork_15 : decode cX8_addWork 15 = .ok (.getfield 49, 3) := by decide +kernel
theorem dX8_addWork_18 : decode cX8_addWork 18 = .ok (.iload_n 1, 1) := by decide +kernel
theorem dX8_addWork_19 : decode cX8_addWork 19 = .ok (.iastore, 1) := by decide +kernel
theorem dX8_addWork_20 : decode cX8_addWork 20 = .ok (.aload_n 0, 1) := by decide +kernel
theorem dX8_addWork_21 : decode cX8_addWork 21 = .ok (.getfield 21, 3) := by decide +kernel
theorem dX8_addWork_24 : decode cX8_addWork 24 = .ok (.aload_n 0, 1) := by decide +kernel
theorem dX8_addWork_25 : decode cX8_addWork 25 = .ok (.getfield 49, 3) := by decide +kernel
theorem dX8_addWork_28 : decode cX8_addWork 28 = .ok (.iload_n 2, 1) := by decide +kernel
theorem dX8_addWork_29 : decode cX8_addWork 29 = .ok (.iastore, 1) := by decide +kernel
theorem dX8_addWork_30 : decode cX8_addWork 30 = .ok (.aload_n 0, 1) := by decide +kernel
theorem dX8_addWork_31 : decode cX8_addWork 31 = .ok (.getfield 24, 3) := by decide +kernel
theorem dX8_addWork_34 : decode cX8_addWork 34 = .ok (.aload_n 0, 1) := by decide +kernel
theorem dX8_addWork_35 : decode cX8_addWork 35 = .ok (.getfield 49, 3) := by decide +kernel
theorem dX8_addWork_38 : decode cX8_addWork 38 = .ok (.iload_n 3, 1) := by decide +kernel
theorem dX8_addWork_39 : decode cX8_addWork 39 = .ok (.iastore, 1) := by decide +kernel
theorem dX8_addWork_40 : decode cX8_addWork 40 = .ok (.aload_n 0, 1) := by decide +kernel
theorem dX8_addWork_41 : decode cX8_addWork 41 = .ok (.getfield 27, 3) := by decide +kernel
theorem dX8_addWork_44 : decode cX8_addWork 44 = .ok (.aload_n 0, 1) := by decide +kernel
theorem dX8_addWork_45 : decode cX8_addWork 45 = .ok (.getfield 49, 3) := by decide +kernel
theorem dX8_addWork_48 : decode cX8_addWork 48 = .ok (.iload 4, 2) := by decide +kernel
theorem dX8_addWork_50 : decode cX8_addWork 50 = .ok (.iastore, 1) := by decide +kernel
theorem dX8_addWork_51 : decode cX8_addWork 51 = .ok (.aload_n 0, 1) := by decide +kernel
theorem dX8_addWork_52 : decode cX8_addWork 52 = .ok (.dup, 1) := by decide +kernel
theorem dX8_addWork_53 : decode cX8_addWork 53 = .ok (.getfield 49, 3) := by decide +kernel
theorem dX8_addWork_56 : decode cX8_addWork 56 = .ok (.iconst 1, 1) := by decide +kernel
theorem dX8_addWork_57 : decode cX8_addWork 57 = .ok (.iadd, 1) := by decide +kernel
theorem dX8_addWork_58 : decode cX8_addWork 58 = .ok (.putfield 49, 3) := by decide +kernel
theorem dX8_addWork_61 : decode cX8_addWork 61 = .ok (.return_, 1) := by decide +kernel
theorem dX8_addGood_0 : decode cX8_addGood 0 = .ok (.aload_n 0, 1) := by decide +kernel
theorem dX8_addGood_1 : decode cX8_addGood 1 = .ok (.getfield 52, 3) := by decide +kernel
theorem dX8_addGood_4 : decode cX8_addGood 4 = .ok (.iconst 5, 1) := by decide +kernel
theorem dX8_addGood_5 : decode cX8_addGood 5 = .ok (.if_icmp .lt 4, 3) := by decide +kernel
theorem dX8_addGood_8 : decode cX8_addGood 8 = .ok (.return_, 1) := by decide +kernel
theorem dX8_addGood_9 : decode cX8_addGood 9 = .ok (.aload_n 0, 1) := by decide +kernel
theorem dX8_addGood_10 : decode cX8_addGood 10 = .ok (.getfield 30, 3) := by decide +kernel
theorem dX8_addGood_13 : decode cX8_addGood 13 = .ok (.aload_n 0, 1) := by decide +kernel
theorem dX8_addGood_14 : decode cX8_addGood 14 = .ok (.getfield 52, 3) := by decide +kernel
theorem dX8_addGood_17 : decode cX8_addGood 17 = .ok (.iload_n 1, 1) := by decide +kernel
theorem dX8_addGood_18 : decode cX8_addGood 18 = .ok (.iastore, 1) := by decide +kernel
theorem dX8_addGood_19 : decode cX8_addGood 19 = .ok (.aload_n 0, 1) := by decide +kernel
theorem dX8_addGood_20 : decode cX8_addGood 20 = .ok (.getfield 33, 3) := by decide +kernel
theorem dX8_addGood_23 : decode cX8_addGood 23 = .ok (.aload_n 0, 1) := by decide +kernel
theorem dX8_addGood_24 : decode cX8_addGood 24 = .ok (.getfield 52, 3) := by decide +kernel
theorem dX8_addGood_27 : decode cX8_addGood 27 = .ok (.iload_n 2, 1) := by decide +kernel
theorem dX8_addGood_28 : decode cX8_addGood 28 = .ok (.iastore, 1) := by decide +kernel
theorem dX8_addGood_29 : decode cX8_addGood 29 = .ok (.aload_n 0, 1) := by decide +kernel
theorem dX8_addGood_30 : decode cX8_addGood 30 = .ok (.aload_n 0, 1) := by decide +kernel
theorem dX8_addGood_31 : decode cX8_addGood 31 = .ok (.getfield 55, 3) := by decide +kernel
theorem dX8_addGood_34 : decode cX8_addGood 34 = .ok (.iconst 1, 1) := by decide +kernel
theorem dX8_addGood_35 : decode cX8_addGood 35 = .ok (.aload_n 0, 1) := by decide +kernel
theorem dX8_addGood_36 : decode cX8_addGood 36 = .ok (.getfield 52, 3) := by decide +kernel
theorem dX8_addGood_39 : decode cX8_addGood 39 = .ok (.ishl, 1) := by decide +kernel
theorem dX8_addGood_40 : decode cX8_addGood 40 = .ok (.iconst (-1), 1) := by decide +kernel
theorem dX8_addGood_41 : decode cX8_addGood 41 = .ok (.ixor, 1) := by decide +kernel
theorem dX8_addGood_42 : decode cX8_addGood 42 = .ok (.iand, 1) := by decide +kernel
theorem dX8_addGood_43 : decode cX8_addGood 43 = .ok (.iload_n 3, 1) := by decide +kernel
theorem dX8_addGood_44 : decode cX8_addGood 44 = .ok (.aload_n 0, 1) := by decide +kernel
theorem dX8_addGood_45 : decode cX8_addGood 45 = .ok (.getfield 52, 3) := by decide +kernel
theorem dX8_addGood_48 : decode cX8_addGood 48 = .ok (.ishl, 1) := by decide +kernel
theorem dX8_addGood_49 : decode cX8_addGood 49 = .ok (.ior, 1) := by decide +kernel
theorem dX8_addGood_50 : decode cX8_addGood 50 = .ok (.putfield 55, 3) := by decide +kernel
theorem dX8_addGood_53 : decode cX8_addGood 53 = .ok (.aload_n 0, 1) := by decide +kernel
theorem dX8_addGood_54 : decode cX8_addGood 54 = .ok (.dup, 1) := by decide +kernel
theorem dX8_addGood_55 : decode cX8_addGood 55 = .ok (.getfield 52, 3) := by decide +kernel
theorem dX8_addGood_58 : decode cX8_addGood 58 = .ok (.iconst 1, 1) := by decide +kernel
theorem dX8_addGood_59 : decode cX8_addGood 59 = .ok (.iadd, 1) := by decide +kernel
theorem dX8_addGood_60 : decode cX8_addGood 60 = .ok (.putfield 52, 3) := by decide +kernel
theorem dX8_addGood_63 : decode cX8_addGood 63 = .ok (.return_, 1) := by decide +kernel
theorem dX8_copyFrom_0 : decode cX8_copyFrom 0 = .ok (.aload_n 0, 1) := by decide +kernel
theorem dX8_copyFrom_1 : decode cX8_copyFrom 1 = .ok (.aload_n 1, 1) := by decide +kernel
theorem dX8_copyFrom_2 : decode cX8_copyFrom 2 = .ok (.getfield 45, 3) := by decide +kernel
theorem dX8_copyFrom_5 : decode cX8_copyFrom 5 = .ok (.putfield 45, 3) := by decide +kernel
theorem dX8_copyFrom_8 : decode cX8_copyFrom 8 = .ok (.aload_n 0, 1) := by decide +kernel
theorem dX8_copyFrom_9 : decode cX8_copyFrom 9 = .ok (.aload_n 1, 1) := by decide +kernel
theorem dX8_copyFrom_10 : decode cX8_copyFrom 10 = .ok (.getfield 49, 3) := by decide +kernel
theorem dX8_copyFrom_13 : decode cX8_copyFrom 13 = .ok (.putfield 49, 3) := by decide +kernel
theorem dX8_copyFrom_16 : decode cX8_copyFrom 16 = .ok (.aload_n 0, 1) := by decide +kernel
theorem dX8_copyFrom_17 : decode cX8_copyFrom 17 = .ok (.aload_n 1, 1) := by decide +kernel
theorem dX8_copyFrom_18 : decode cX8_copyFrom 18 = .ok (.getfield 52, 3) := by decide +kernel
theorem dX8_copyFrom_21 : decode cX8_copyFrom 21 = .ok (.putfield 52, 3) := by decide +kernel
theorem dX8_copyFrom_24 : decode cX8_copyFrom 24 = .ok (.aload_n 0, 1) := by decide +kernel
theorem dX8_copyFrom_25 : decode cX8_copyFrom 25 = .ok (.aload_n 1, 1) := by decide +kernel
theorem dX8_copyFrom_26 : decode cX8_copyFrom 26 = .ok (.getfield 55, 3) := by decide +kernel
theorem dX8_copyFrom_29 : decode cX8_copyFrom 29 = .ok (.putfield 55, 3) := by decide +kernel
theorem dX8_copyFrom_32 : decode cX8_copyFrom 32 = .ok (.aload_n 0, 1) := by decide +kernel
theorem dX8_copyFrom_33 : decode cX8_copyFrom 33 = .ok (.aload_n 1, 1) := by decide +kernel
theorem dX8_copyFrom_34 : decode cX8_copyFrom 34 = .ok (.getfield 58, 3) := by decide +kernel
theorem dX8_copyFrom_37 : decode cX8_copyFrom 37 = .ok (.putfield 58, 3) := by decide +kernel
theorem dX8_copyFrom_40 : decode cX8_copyFrom 40 = .ok (.aload_n 1, 1) := by decide +kernel
theorem dX8_copyFrom_41 : decode cX8_copyFrom 41 = .ok (.getfield 9, 3) := by decide +kernel
theorem dX8_copyFrom_44 : decode cX8_copyFrom 44 = .ok (.iconst 0, 1) := by decide +kernel
theorem dX8_copyFrom_45 : decode cX8_copyFrom 45 = .ok (.aload_n 0, 1) := by decide +kernel
theorem dX8_copyFrom_46 : decode cX8_copyFrom 46 = .ok (.getfield 9, 3) := by decide +kernel
theorem dX8_copyFrom_49 : decode cX8_copyFrom 49 = .ok (.iconst 0, 1) := by decide +kernel
theorem dX8_copyFrom_50 : decode cX8_copyFrom 50 = .ok (.iconst 5, 1) := by decide +kernel
theorem dX8_copyFrom_51 : decode cX8_copyFrom 51 = .ok (.invokestatic 68, 3) := by decide +kernel
theorem dX8_copyFrom_54 : decode cX8_copyFrom 54 = .ok (.aload_n 1, 1) := by decide +kernel
theorem dX8_copyFrom_55 : decode cX8_copyFrom 55 = .ok (.getfield 15, 3) := by decide +kernel
theorem dX8_copyFrom_58 : decode cX8_copyFrom 58 = .ok (.iconst 0, 1) := by decide +kernel
theorem dX8_copyFrom_59 : decode cX8_copyFrom 59 = .ok (.aload_n 0, 1) := by decide +kernel
theorem dX8_copyFrom_60 : decode cX8_copyFrom 60 = .ok (.getfield 15, 3) := by decide +kernel
theorem dX8_copyFrom_63 : decode cX8_copyFrom 63 = .ok (.iconst 0, 1) := by decide +kernel
theorem dX8_copyFrom_64 : decode cX8_copyFrom 64 = .ok (.iconst 5, 1) := by decide +kernel
theorem dX8_copyFrom_65 : decode cX8_copyFrom 65 = .ok (.invokestatic 68, 3) := by decide +kernel
theorem dX8_copyFrom_68 : decode cX8_copyFrom 68 = .ok (.aload_n 1, 1) := by decide +kernel
theorem dX8_copyFrom_69 : decode cX8_copyFrom 69 = .ok (.getfield 18, 3) := by decide +kernel
theorem dX8_copyFrom_72 : decode cX8_copyFrom 72 = .ok (.iconst 0, 1) := by decide +kernel
theorem dX8_copyFrom_73 : decode cX8_copyFrom 73 = .ok (.aload_n 0, 1) := by decide +kernel
theorem dX8_copyFrom_74 : decode cX8_copyFrom 74 = .ok (.getfield 18, 3) := by decide +kernel
theorem dX8_copyFrom_77 : decode cX8_copyFrom 77 = .ok (.iconst 0, 1) := by decide +kernel
theorem dX8_copyFrom_78 : decode cX8_copyFrom 78 = .ok (.bipush 6, 2) := by decide +kernel
theorem dX8_copyFrom_80 : decode cX8_copyFrom 80 = .ok (.invokestatic 68, 3) := by decide +kernel
theorem dX8_copyFrom_83 : decode cX8_copyFrom 83 = .ok (.aload_n 1, 1) := by decide +kernel
theorem dX8_copyFrom_84 : decode cX8_copyFrom 84 = .ok (.getfield 21, 3) := by decide +kernel
theorem dX8_copyFrom_87 : decode cX8_copyFrom 87 = .ok (.iconst 0, 1) := by decide +kernel
theorem dX8_copyFrom_88 : decode cX8_copyFrom 88 = .ok (.aload_n 0, 1) := by decide +kernel
theorem dX8_copyFrom_89 : decode cX8_copyFrom 89 = .ok (.getfield 21, 3) := by decide +kernel
theorem dX8_copyFrom_92 : decode cX8_copyFrom 92 = .ok (.iconst 0, 1) := by decide +kernel
theorem dX8_copyFrom_93 : decode cX8_copyFrom 93 = .ok (.bipush 6, 2) := by decide +kernel
theorem dX8_copyFrom_95 : decode cX8_copyFrom 95 = .ok (.invokestatic 68, 3) := by decide +kernel
theorem dX8_copyFrom_98 : decode cX8_copyFrom 98 = .ok (.aload_n 1, 1) := by decide +kernel
theorem dX8_copyFrom_99 : decode cX8_copyFrom 99 = .ok (.getfield 24, 3) := by decide +kernel
theorem dX8_copyFrom_102 : decode cX8_copyFrom 102 = .ok (.iconst 0, 1) := by decide +kernel
theorem dX8_copyFrom_103 : decode cX8_copyFrom 103 = .ok (.aload_n 0, 1) := by decide +kernel
theorem dX8_copyFrom_104 : decode cX8_copyFrom 104 = .ok (.getfield 24, 3) := by decide +kernel
theorem dX8_copyFrom_107 : decode cX8_copyFrom 107 = .ok (.iconst 0, 1) := by decide +kernel
theorem dX8_copyFrom_108 : decode cX8_copyFrom 108 = .ok (.bipush 6, 2) := by decide +kernel
theorem dX8_copyFrom_110 : decode cX8_copyFrom 110 = .ok (.invokestatic 68, 3) := by decide +kernel
theorem dX8_copyFrom_113 : decode cX8_copyFrom 113 = .ok (.aload_n 1, 1) := by decide +kernel
theorem dX8_copyFrom_114 : decode cX8_copyFrom 114 = .ok (.getfield 27, 3) := by decide +kernel
theorem dX8_copyFrom_117 : decode cX8_copyFrom 117 = .ok (.iconst 0, 1) := by decide +kernel
theorem dX8_copyFrom_118 : decode cX8_copyFrom 118 = .ok (.aload_n 0, 1) := by decide +kernel
theorem dX8_copyFrom_119 : decode cX8_copyFrom 119 = .ok (.getfield 27, 3) := by decide +kernel
theorem dX8_copyFrom_122 : decode cX8_copyFrom 122 = .ok (.iconst 0, 1) := by decide +kernel
theorem dX8_copyFrom_123 : decode cX8_copyFrom 123 = .ok (.bipush 6, 2) := by decide +kernel
theorem dX8_copyFrom_125 : decode cX8_copyFrom 125 = .ok (.invokestatic 68, 3) := by decide +kernel
theorem dX8_copyFrom_128 : decode cX8_copyFrom 128 = .ok (.aload_n 1, 1) := by decide +kernel
theorem dX8_copyFrom_129 : decode cX8_copyFrom 129 = .ok (.getfield 30, 3) := by decide +kernel
theorem dX8_copyFrom_132 : decode cX8_copyFrom 132 = .ok (.iconst 0, 1) := by decide +kernel
theorem dX8_copyFrom_133 : decode cX8_copyFrom 133 = .ok (.aload_n 0, 1) := by decide +kernel
theorem dX8_copyFrom_134 : decode cX8_copyFrom 134 = .ok (.getfield 30, 3) := by decide +kernel
theorem dX8_copyFrom_137 : decode cX8_copyFrom 137 = .ok (.iconst 0, 1) := by decide +kernel
theorem dX8_copyFrom_138 : decode cX8_copyFrom 138 = .ok (.iconst 5, 1) := by decide +kernel
theorem dX8_copyFrom_139 : decode cX8_copyFrom 139 = .ok (.invokestatic 68, 3) := by decide +kernel
theorem dX8_copyFrom_142 : decode cX8_copyFrom 142 = .ok (.aload_n 1, 1) := by decide +kernel
theorem dX8_copyFrom_143 : decode cX8_copyFrom 143 = .ok (.getfield 33, 3) := by decide +kernel
theorem dX8_copyFrom_146 : decode cX8_copyFrom 146 = .ok (.iconst 0, 1) := by decide +kernel
theorem dX8_copyFrom_147 : decode cX8_copyFrom 147 = .ok (.aload_n 0, 1) := by decide +kernel
theorem dX8_copyFrom_148 : decode cX8_copyFrom 148 = .ok (.getfield 33, 3) := by decide +kernel
theorem dX8_copyFrom_151 : decode cX8_copyFrom 151 = .ok (.iconst 0, 1) := by decide +kernel
theorem dX8_copyFrom_152 : decode cX8_copyFrom 152 = .ok (.iconst 5, 1) := by decide +kernel
theorem dX8_copyFrom_153 : decode cX8_copyFrom 153 = .ok (.invokestatic 68, 3) := by decide +kernel
theorem dX8_copyFrom_156 : decode cX8_copyFrom 156 = .ok (.aload_n 1, 1) := by decide +kernel
theorem dX8_copyFrom_157 : decode cX8_copyFrom 157 = .ok (.getfield 36, 3) := by decide +kernel
theorem dX8_copyFrom_160 : decode cX8_copyFrom 160 = .ok (.iconst 0, 1) := by decide +kernel
theorem dX8_copyFrom_161 : decode cX8_copyFrom 161 = .ok (.aload_n 0, 1) := by decide +kernel
theorem dX8_copyFrom_162 : decode cX8_copyFrom 162 = .ok (.getfield 36, 3) := by decide +kernel
theorem dX8_copyFrom_165 : decode cX8_copyFrom 165 = .ok (.iconst 0, 1) := by decide +kernel
theorem dX8_copyFrom_166 : decode cX8_copyFrom 166 = .ok (.iconst 4, 1) := by decide +kernel
theorem dX8_copyFrom_167 : decode cX8_copyFrom 167 = .ok (.invokestatic 68, 3) := by decide +kernel
theorem dX8_copyFrom_170 : decode cX8_copyFrom 170 = .ok (.aload_n 1, 1) := by decide +kernel
theorem dX8_copyFrom_171 : decode cX8_copyFrom 171 = .ok (.getfield 39, 3) := by decide +kernel
theorem dX8_copyFrom_174 : decode cX8_copyFrom 174 = .ok (.iconst 0, 1) := by decide +kernel
theorem dX8_copyFrom_175 : decode cX8_copyFrom 175 = .ok (.aload_n 0, 1) := by decide +kernel
theorem dX8_copyFrom_176 : decode cX8_copyFrom 176 = .ok (.getfield 39, 3) := by decide +kernel
theorem dX8_copyFrom_179 : decode cX8_copyFrom 179 = .ok (.iconst 0, 1) := by decide +kernel
theorem dX8_copyFrom_180 : decode cX8_copyFrom 180 = .ok (.iconst 4, 1) := by decide +kernel
theorem dX8_copyFrom_181 : decode cX8_copyFrom 181 = .ok (.invokestatic 68, 3) := by decide +kernel
theorem dX8_copyFrom_184 : decode cX8_copyFrom 184 = .ok (.return_, 1) := by decide +kernel
theorem dX8_skillBitsOf_0 : decode cX8_skillBitsOf 0 = .ok (.aload_n 0, 1) := by decide +kernel
theorem dX8_skillBitsOf_1 : decode cX8_skillBitsOf 1 = .ok (.getfield 9, 3) := by decide +kernel
theorem dX8_skillBitsOf_4 : decode cX8_skillBitsOf 4 = .ok (.iload_n 1, 1) := by decide +kernel
theorem dX8_skillBitsOf_5 : decode cX8_skillBitsOf 5 = .ok (.iaload, 1) := by decide +kernel
theorem dX8_skillBitsOf_6 : decode cX8_skillBitsOf 6 = .ok (.iconst 3, 1) := by decide +kernel
theorem dX8_skillBitsOf_7 : decode cX8_skillBitsOf 7 = .ok (.if_icmp .ne 8, 3) := by decide +kernel
theorem dX8_skillBitsOf_10 : decode cX8_skillBitsOf 10 = .ok (.bipush 7, 2) := by decide +kernel
theorem dX8_skillBitsOf_12 : decode cX8_skillBitsOf 12 = .ok (.goto 11, 3) := by decide +kernel
theorem dX8_skillBitsOf_15 : decode cX8_skillBitsOf 15 = .ok (.iconst 1, 1) := by decide +kernel
theorem dX8_skillBitsOf_16 : decode cX8_skillBitsOf 16 = .ok (.aload_n 0, 1) := by decide +kernel
theorem dX8_skillBitsOf_17 : decode cX8_skillBitsOf 17 = .ok (.getfield 9, 3) := by decide +kernel
theorem dX8_skillBitsOf_20 : decode cX8_skillBitsOf 20 = .ok (.iload_n 1, 1) := by decide +kernel
theorem dX8_skillBitsOf_21 : decode cX8_skillBitsOf 21 = .ok (.iaload, 1) := by decide +kernel
theorem dX8_skillBitsOf_22 : decode cX8_skillBitsOf 22 = .ok (.ishl, 1) := by decide +kernel
theorem dX8_skillBitsOf_23 : decode cX8_skillBitsOf 23 = .ok (.ireturn, 1) := by decide +kernel
set_option maxRecDepth 20000 in
theorem ggX8_likeOneAnother_X10_bitOf : GoodIn wsX8_likeOneAnother wsX10_bitOf := goodIn_r _ [4] (by decide +kernel) (by decide +kernel)
set_option maxRecDepth 20000 in
theorem gX8_likeOneAnother_X10_bitOf_n74 : GoodIn wsX8_likeOneAnother (wsX10_bitOf) := ggX8_likeOneAnother_X10_bitOf
theorem dX8_likeOneAnother_0 : decode cX8_likeOneAnother 0 = .ok (.aload_n 0, 1) := by decide +kernel
theorem dX8_likeOneAnother_1 : decode cX8_likeOneAnother 1 = .ok (.getfield 15, 3) := by decide +kernel
theorem dX8_likeOneAnother_4 : decode cX8_likeOneAnother 4 = .ok (.iload_n 1, 1) := by decide +kernel
theorem dX8_likeOneAnother_5 : decode cX8_likeOneAnother 5 = .ok (.iaload, 1) := by decide +kernel
theorem dX8_likeOneAnother_6 : decode cX8_likeOneAnother 6 = .ok (.iload_n 2, 1) := by decide +kernel
theorem dX8_likeOneAnother_7 : decode cX8_likeOneAnother 7 = .ok (.invokestatic 74, 3) := by decide +kernel
theorem dX8_likeOneAnother_10 : decode cX8_likeOneAnother 10 = .ok (.iconst 1, 1) := by decide +kernel
theorem dX8_likeOneAnother_11 : decode cX8_likeOneAnother 11 = .ok (.if_icmp .ne 21, 3) := by decide +kernel
theorem dX8_likeOneAnother_14 : decode cX8_likeOneAnother 14 = .ok (.aload_n 0, 1) := by decide +kernel
theorem dX8_likeOneAnother_15 : decode cX8_likeOneAnother 15 = .ok (.getfield 15, 3) := by decide +kernel
theorem dX8_likeOneAnother_18 : decode cX8_likeOneAnother 18 = .ok (.iload_n 2, 1) := by decide +kernel
theorem dX8_likeOneAnother_19 : decode cX8_likeOneAnother 19 = .ok (.iaload, 1) := by decide +kernel
theorem dX8_likeOneAnother_20 : decode cX8_likeOneAnother 20 = .ok (.iload_n 1, 1) := by decide +kernel
theorem dX8_likeOneAnother_21 : decode cX8_likeOneAnother 21 = .ok (.invokestatic 74, 3) := by decide +kernel
theorem dX8_likeOneAnother_24 : decode cX8_likeOneAnother 24 = .ok (.iconst 1, 1) := by decide +kernel
theorem dX8_likeOneAnother_25 : decode cX8_likeOneAnother 25 = .ok (.if_icmp .ne 7, 3) := by decide +kernel
theorem dX8_likeOneAnother_28 : decode cX8_likeOneAnother 28 = .ok (.iconst 1, 1) := by decide +kernel
theorem dX8_likeOneAnother_29 : decode cX8_likeOneAnother 29 = .ok (.goto 4, 3) := by decide +kernel
theorem dX8_likeOneAnother_32 : decode cX8_likeOneAnother 32 = .ok (.iconst 0, 1) := by decide +kernel
theorem dX8_likeOneAnother_33 : decode cX8_likeOneAnother 33 = .ok (.ireturn, 1) := by decide +kernel
set_option maxRecDepth 20000 in
theorem ggX8_priceOf_X10_bitOf : GoodIn wsX8_priceOf wsX10_bitOf := goodIn_r _ [10] (by decide +kernel) (by decide +kernel)
set_option maxRecDepth 20000 in
theorem gX8_priceOf_X10_bitOf_n74 : GoodIn wsX8_priceOf (wsX10_bitOf) := ggX8_priceOf_X10_bitOf
theorem dX8_priceOf_0 : decode cX8_priceOf 0 = .ok (.aload_n 0, 1) := by decide +kernel
theorem dX8_priceOf_1 : decode cX8_priceOf 1 = .ok (.getfield 33, 3) := by decide +kernel
theorem dX8_priceOf_4 : decode cX8_priceOf 4 = .ok (.iload_n 1, 1) := by decide +kernel
theorem dX8_priceOf_5 : decode cX8_priceOf 5 = .ok (.iaload, 1) := by decide +kernel
theorem dX8_priceOf_6 : decode cX8_priceOf 6 = .ok (.iload_n 2, 1) := by decide +kernel
theorem dX8_priceOf_7 : decode cX8_priceOf 7 = .ok (.imul, 1) := by decide +kernel
theorem dX8_priceOf_8 : decode cX8_priceOf 8 = .ok (.istore_n 3, 1) := by decide +kernel
theorem dX8_priceOf_9 : decode cX8_priceOf 9 = .ok (.aload_n 0, 1) := by decide +kernel
theorem dX8_priceOf_10 : decode cX8_priceOf 10 = .ok (.getfield 55, 3) := by decide +kernel
theorem dX8_priceOf_13 : decode cX8_priceOf 13 = .ok (.iload_n 1, 1) := by decide +kernel
theorem dX8_priceOf_14 : decode cX8_priceOf 14 = .ok (.invokestatic 74, 3) := by decide +kernel
theorem dX8_priceOf_17 : decode cX8_priceOf 17 = .ok (.iconst 1, 1) := by decide +kernel
theorem dX8_priceOf_18 : decode cX8_priceOf 18 = .ok (.if_icmp .ne 12, 3) := by decide +kernel
theorem dX8_priceOf_21 : decode cX8_priceOf 21 = .ok (.aload_n 0, 1) := by decide +kernel
theorem dX8_priceOf_22 : decode cX8_priceOf 22 = .ok (.getfield 30, 3) := by decide +kernel
theorem dX8_priceOf_25 : decode cX8_priceOf 25 = .ok (.iload_n 1, 1) := by decide +kernel
theorem dX8_priceOf_26 : decode cX8_priceOf 26 = .ok (.iaload, 1) := by decide +kernel
theorem dX8_priceOf_27 : decode cX8_priceOf 27 = .ok (.iload_n 3, 1) := by decide +kernel
theorem dX8_priceOf_28 : decode cX8_priceOf 28 = .ok (.iadd, 1) := by decide +kernel
theorem dX8_priceOf_29 : decode cX8_priceOf 29 = .ok (.ireturn, 1) := by decide +kernel
theorem dX8_priceOf_30 : decode cX8_priceOf 30 = .ok (.iconst 0, 1) := by decide +kernel
theorem dX8_priceOf_31 : decode cX8_priceOf 31 = .ok (.aload_n 0, 1) := by decide +kernel
theorem dX8_priceOf_32 : decode cX8_priceOf 32 = .ok (.getfield 30, 3) := by decide +kernel
theorem dX8_priceOf_35 : decode cX8_priceOf 35 = .ok (.iload_n 1, 1) := by decide +kernel
theorem dX8_priceOf_36 : decode cX8_priceOf 36 = .ok (.iaload, 1) := by decide +kernel
theorem dX8_priceOf_37 : decode cX8_priceOf 37 = .ok (.iload_n 3, 1) := by decide +kernel
theorem dX8_priceOf_38 : decode cX8_priceOf 38 = .ok (.isub, 1) := by decide +kernel
theorem dX8_priceOf_39 : decode cX8_priceOf 39 = .ok (.invokestatic 78, 3) := by decide +kernel
theorem dX8_priceOf_42 : decode cX8_priceOf 42 = .ok (.ireturn, 1) := by decide +kernel
theorem dX9_init_0 : decode cX9_init 0 = .ok (.aload_n 0, 1) := by decide +kernel
theorem dX9_init_1 : decode cX9_init 1 = .ok (.invokespecial 3, 3) := by decide +kernel
theorem dX9_init_4 : decode cX9_init 4 = .ok (.aload_n 0, 1) := by decide +kernel
theorem dX9_init_5 : decode cX9_init 5 = .ok (.bipush 6, 2) := by decide +kernel
theorem dX9_init_7 : decode cX9_init 7 = .ok (.newarray .int, 2) := by decide +kernel
theorem dX9_init_9 : decode cX9_init 9 = .ok (.putfield 9, 3) := by decide +kernel
theorem dX9_init_12 : decode cX9_init 12 = .ok (.return_, 1) := by decide +kernel
theorem dX9_add_0 : decode cX9_add 0 = .ok (.aload_n 0, 1) := by decide +kernel
theorem dX9_add_1 : decode cX9_add 1 = .ok (.getfield 15, 3) := by decide +kernel
theorem dX9_add_4 : decode cX9_add 4 = .ok (.bipush 6, 2) := by decide +kernel
theorem dX9_add_6 : decode cX9_add 6 = .ok (.if_icmp .lt 5, 3) := by decide +kernel
theorem dX9_add_9 : decode cX9_add 9 = .ok (.iconst 0, 1) := by decide +kernel
theorem dX9_add_10 : decode cX9_add 10 = .ok (.ireturn, 1) := by decide +kernel
theorem dX9_add_11 : decode cX9_add 11 = .ok (.aload_n 0, 1) := by decide +kernel
theorem dX9_add_12 : decode cX9_add 12 = .ok (.getfield 9, 3) := by decide +kernel
theorem dX9_add_15 : decode cX9_add 15 = .ok (.aload_n 0, 1) := by decide +kernel
theorem dX9_add_16 : decode cX9_add 16 = .ok (.getfield 15, 3) := by decide +kernel
theorem dX9_add_19 : decode cX9_add 19 = .ok (.iload_n 1, 1) := by decide +kernel
theorem dX9_add_20 : decode cX9_add 20 = .ok (.iastore, 1) := by decide +kernel
theorem dX9_add_21 : decode cX9_add 21 = .ok (.aload_n 0, 1) := by decide +kernel
theorem dX9_add_22 : decode cX9_add 22 = .ok (.dup, 1) := by decide +kernel
theorem dX9_add_23 : decode cX9_add 23 = .ok (.getfield 15, 3) := by decide +kernel
theorem dX9_add_26 : decode cX9_add 26 = .ok (.iconst 1, 1) := by decide +kernel
theorem dX9_add_27 : decode cX9_add 27 = .ok (.iadd, 1) := by decide +kernel
theorem dX9_add_28 : decode cX9_add 28 = .ok (.putfield 15, 3) := by decide +kernel
theorem dX9_add_31 : decode cX9_add 31 = .ok (.iconst 1, 1) := by decide +kernel
theorem dX9_add_32 : decode cX9_add 32 = .ok (.ireturn, 1) := by decide +kernel
set_option maxRecDepth 20000 in
theorem ggX9_within_J6_bitCount_0f7a4 : GoodIn wsX9_within wsJ6_bitCount_0f7a4 := goodIn_r _ [6, 7, 8, 9] (by decide +kernel) (by decide +kernel)
set_option maxRecDepth 20000 in
theorem gX9_within_J6_bitCount_0f7a4 : GoodIn wsX9_within (va_wsS RX9 19 yJ6_bitCount_0f7a4 wsJ6_bitCount_0f7a4) := goodIn_app (goodIn_of _ (by decide +kernel)) ggX9_within_J6_bitCount_0f7a4
theorem dX9_within_0 : decode cX9_within 0 = .ok (.iconst 0, 1) := by decide +kernel
theorem dX9_within_1 : decode cX9_within 1 = .ok (.istore_n 3, 1) := by decide +kernel
theorem dX9_within_2 : decode cX9_within 2 = .ok (.iconst 0, 1) := by decide +kernel
theorem dX9_within_3 : decode cX9_within 3 = .ok (.istore 4, 2) := by decide +kernel
theorem dX9_within_5 : decode cX9_within 5 = .ok (.iload 4, 2) := by decide +kernel
theorem dX9_within_7 : decode cX9_within 7 = .ok (.aload_n 0, 1) := by decide +kernel
theorem dX9_within_8 : decode cX9_within 8 = .ok (.getfield 15, 3) := by decide +kernel
theorem dX9_within_11 : decode cX9_within 11 = .ok (.if_icmp .ge 32, 3) := by decide +kernel
theorem dX9_within_14 : decode cX9_within 14 = .ok (.aload_n 0, 1) := by decide +kernel
theorem dX9_within_15 : decode cX9_within 15 = .ok (.getfield 9, 3) := by decide +kernel
theorem dX9_within_18 : decode cX9_within 18 = .ok (.iload 4, 2) := by decide +kernel
theorem dX9_within_20 : decode cX9_within 20 = .ok (.iaload, 1) := by decide +kernel
theorem dX9_within_21 : decode cX9_within 21 = .ok (.iload_n 1, 1) := by decide +kernel
theorem dX9_within_22 : decode cX9_within 22 = .ok (.ixor, 1) := by decide +kernel
theorem dX9_within_23 : decode cX9_within 23 = .ok (.invokestatic 19, 3) := by decide +kernel
theorem dX9_within_26 : decode cX9_within 26 = .ok (.iload_n 2, 1) := by decide +kernel
theorem dX9_within_27 : decode cX9_within 27 = .ok (.if_icmp .gt 10, 3) := by decide +kernel
theorem dX9_within_30 : decode cX9_within 30 = .ok (.iload_n 3, 1) := by decide +kernel
theorem dX9_within_31 : decode cX9_within 31 = .ok (.iconst 1, 1) := by decide +kernel
theorem dX9_within_32 : decode cX9_within 32 = .ok (.iload 4, 2) := by decide +kernel
theorem dX9_within_34 : decode cX9_within 34 = .ok (.ishl, 1) := by decide +kernel
theorem dX9_within_35 : decode cX9_within 35 = .ok (.ior, 1) := by decide +kernel
theorem dX9_within_36 : decode cX9_within 36 = .ok (.istore_n 3, 1) := by decide +kernel
theorem dX9_within_37 : decode cX9_within 37 = .ok (.iinc 4 1, 3) := by decide +kernel
theorem dX9_within_40 : decode cX9_within 40 = .ok (.goto (-35), 3) := by decide +kernel
theorem dX9_within_43 : decode cX9_within 43 = .ok (.iload_n 3, 1) := by decide +kernel
theorem dX9_within_44 : decode cX9_within 44 = .ok (.ireturn, 1) := by decide +kernel
set_option maxRecDepth 20000 in
theorem ggX9_alterings_J6_bitCount_0f7a4 : GoodIn wsX9_alterings wsJ6_bitCount_0f7a4 := goodIn_r _ [10, 11, 12, 13] (by decide +kernel) (by decide +kernel)
set_option maxRecDepth 20000 in
theorem gX9_alterings_J6_bitCount_0f7a4 : GoodIn wsX9_alterings (va_wsS RX9 19 yJ6_bitCount_0f7a4 wsJ6_bitCount_0f7a4) := goodIn_app (goodIn_of _ (by decide +kernel)) ggX9_alterings_J6_bitCount_0f7a4
theorem dX9_alterings_0 : decode cX9_alterings 0 = .ok (.aload_n 0, 1) := by decide +kernel
theorem dX9_alterings_1 : decode cX9_alterings 1 = .ok (.getfield 15, 3) := by decide +kernel
theorem dX9_alterings_4 : decode cX9_alterings 4 = .ok (.iconst 1, 1) := by decide +kernel
theorem dX9_alterings_5 : decode cX9_alterings 5 = .ok (.if_icmp .ne 6, 3) := by decide +kernel
theorem dX9_alterings_8 : decode cX9_alterings 8 = .ok (.bipush 6, 2) := by decide +kernel
theorem dX9_alterings_10 : decode cX9_alterings 10 = .ok (.ireturn, 1) := by decide +kernel
theorem dX9_alterings_11 : decode cX9_alterings 11 = .ok (.bipush 6, 2) := by decide +kernel
theorem dX9_alterings_13 : decode cX9_alterings 13 = .ok (.istore_n 1, 1) := by decide +kernel
theorem dX9_alterings_14 : decode cX9_alterings 14 = .ok (.iconst 0, 1) := by decide +kernel
theorem dX9_alterings_15 : decode cX9_alterings 15 = .ok (.istore_n 2, 1) := by decide +kernel
theorem dX9_alterings_16 : decode cX9_alterings 16 = .ok (.iload_n 2, 1) := by decide +kernel
theorem dX9_alterings_17 : decode cX9_alterings 17 = .ok (.aload_n 0, 1) := by decide +kernel
theorem dX9_alterings_18 : decode cX9_alterings 18 = .ok (.getfield 15, 3) := by decide +kernel
theorem dX9_alterings_21 : decode cX9_alterings 21 = .ok (.if_icmp .ge 43, 3) := by decide +kernel
theorem dX9_alterings_24 : decode cX9_alterings 24 = .ok (.iconst 0, 1) := by decide +kernel
theorem dX9_alterings_25 : decode cX9_alterings 25 = .ok (.istore_n 3, 1) := by decide +kernel
theorem dX9_alterings_26 : decode cX9_alterings 26 = .ok (.iload_n 3, 1) := by decide +kernel
theorem dX9_alterings_27 : decode cX9_alterings 27 = .ok (.iload_n 2, 1) := by decide +kernel
theorem dX9_alterings_28 : decode cX9_alterings 28 = .ok (.if_icmp .ge 30, 3) := by decide +kernel
theorem dX9_alterings_31 : decode cX9_alterings 31 = .ok (.iload_n 1, 1) := by decide +kernel
theorem dX9_alterings_32 : decode cX9_alterings 32 = .ok (.aload_n 0, 1) := by decide +kernel
theorem dX9_alterings_33 : decode cX9_alterings 33 = .ok (.getfield 9, 3) := by decide +kernel
theorem dX9_alterings_36 : decode cX9_alterings 36 = .ok (.iload_n 2, 1) := by decide +kernel
theorem dX9_alterings_37 : decode cX9_alterings 37 = .ok (.iaload, 1) := by decide +kernel
theorem dX9_alterings_38 : decode cX9_alterings 38 = .ok (.aload_n 0, 1) := by decide +kernel
theorem dX9_alterings_39 : decode cX9_alterings 39 = .ok (.getfield 9, 3) := by decide +kernel
theorem dX9_alterings_42 : decode cX9_alterings 42 = .ok (.iload_n 3, 1) := by decide +kernel
theorem dX9_alterings_43 : decode cX9_alterings 43 = .ok (.iaload, 1) := by decide +kernel
theorem dX9_alterings_44 : decode cX9_alterings 44 = .ok (.ixor, 1) := by decide +kernel
theorem dX9_alterings_45 : decode cX9_alterings 45 = .ok (.invokestatic 19, 3) := by decide +kernel
theorem dX9_alterings_48 : decode cX9_alterings 48 = .ok (.invokestatic 25, 3) := by decide +kernel
theorem dX9_alterings_51 : decode cX9_alterings 51 = .ok (.istore_n 1, 1) := by decide +kernel
theorem dX9_alterings_52 : decode cX9_alterings 52 = .ok (.iinc 3 1, 3) := by decide +kernel
theorem dX9_alterings_55 : decode cX9_alterings 55 = .ok (.goto (-29), 3) := by decide +kernel
theorem dX9_alterings_58 : decode cX9_alterings 58 = .ok (.iinc 2 1, 3) := by decide +kernel
theorem dX9_alterings_61 : decode cX9_alterings 61 = .ok (.goto (-45), 3) := by decide +kernel
theorem dX9_alterings_64 : decode cX9_alterings 64 = .ok (.iload_n 1, 1) := by decide +kernel
theorem dX9_alterings_65 : decode cX9_alterings 65 = .ok (.iconst 1, 1) := by decide +kernel
theorem dX9_alterings_66 : decode cX9_alterings 66 = .ok (.isub, 1) := by decide +kernel
theorem dX9_alterings_67 : decode cX9_alterings 67 = .ok (.iconst 2, 1) := by decide +kernel
theorem dX9_alterings_68 : decode cX9_alterings 68 = .ok (.idiv, 1) := by decide +kernel
theorem dX9_alterings_69 : decode cX9_alterings 69 = .ok (.ireturn, 1) := by decide +kernel
