set_option maxRecDepth 20000 in
theorem ggX10_init_X8_init : GoodIn wsX10_init wsX8_init := goodIn_r _ [49, 50, 2, 3, 51, 52, 53, 54, 55, 56, 57, 58, 59, 60, 61, 62, 63, 64, 6, 65, 66, 67, 68, 69, 70, 71, 72, 73, 74, 75, 76, 77, 78, 162, 163, 164, 165, 166, 167, 168, 169, 170, 171, 172, 173, 174, 175, 176] (by decide +kernel) (by decide +kernel)
set_option maxRecDepth 20000 in
theorem gX10_init_X8_init : GoodIn wsX10_init (wsX8_init) := ggX10_init_X8_init
set_option maxRecDepth 20000 in
theorem ggX10_init_X7_init : GoodIn wsX10_init wsX7_init := goodIn_r _ [81, 82, 2, 3, 51, 83, 84, 5, 6, 85, 86, 48, 49, 50, 52, 53, 54, 55, 56, 57, 58, 59, 60, 61, 62, 63, 64, 65, 66, 67, 68, 69, 70, 71, 72, 73, 74, 75, 76, 77, 78, 189, 190, 191, 192, 193, 194, 195, 196, 162, 163, 164, 165, 166, 167, 168, 169, 170, 171, 172, 173, 174, 175, 176] (by decide +kernel) (by decide +kernel)
set_option maxRecDepth 20000 in
theorem gX10_init_X7_init : GoodIn wsX10_init (wsX7_init) := ggX10_init_X7_init
set_option maxRecDepth 20000 in
theorem ggX10_init_X3_init : GoodIn wsX10_init wsX3_init := goodIn_r _ [89, 90, 2, 3, 51, 91, 92, 93, 197, 198, 199, 200, 201, 202, 203, 204, 205, 206] (by decide +kernel) (by decide +kernel)
set_option maxRecDepth 20000 in
theorem gX10_init_X3_init : GoodIn wsX10_init (wsX3_init) := ggX10_init_X3_init
set_option maxRecDepth 20000 in
theorem ggX10_init_X5_init : GoodIn wsX10_init wsX5_init := goodIn_r _ [96, 97, 2, 3, 98, 99, 13, 14, 100, 88, 89, 90, 51, 91, 92, 93, 207, 208, 209, 197, 198, 199, 200, 201, 202, 203, 204, 205, 206] (by decide +kernel) (by decide +kernel)
set_option maxRecDepth 20000 in
theorem gX10_init_X5_init : GoodIn wsX10_init (wsX5_init) := ggX10_init_X5_init
set_option maxRecDepth 20000 in
theorem ggX10_init_X6_init : GoodIn wsX10_init wsX6_init := goodIn_r _ [103, 104, 2, 3, 51, 105, 106, 107, 108, 109, 110, 111, 210, 211, 212, 213, 214, 215, 216, 217, 218, 219] (by decide +kernel) (by decide +kernel)
set_option maxRecDepth 20000 in
theorem gX10_init_X6_init : GoodIn wsX10_init (wsX6_init) := ggX10_init_X6_init
set_option maxRecDepth 20000 in
theorem ggX10_init_X4_init : GoodIn wsX10_init wsX4_init := goodIn_r _ [114, 115, 2, 3, 51, 116, 117, 220, 221, 222, 223, 224] (by decide +kernel) (by decide +kernel)
set_option maxRecDepth 20000 in
theorem gX10_init_X4_init : GoodIn wsX10_init (wsX4_init) := ggX10_init_X4_init
set_option maxRecDepth 20000 in
theorem ggX10_init_X1_init : GoodIn wsX10_init wsX1_init := goodIn_r _ [120, 121, 2, 3, 51, 122, 123, 124, 125, 126, 127, 128, 225, 226, 227, 228, 229, 230, 231] (by decide +kernel) (by decide +kernel)
set_option maxRecDepth 20000 in
theorem gX10_init_X1_init : GoodIn wsX10_init (wsX1_init) := ggX10_init_X1_init
set_option maxRecDepth 20000 in
theorem ggX10_init_X2_init : GoodIn wsX10_init wsX2_init := goodIn_r _ [131, 132, 2, 3, 51, 133, 134, 232, 233, 234, 235, 236] (by decide +kernel) (by decide +kernel)
set_option maxRecDepth 20000 in
theorem gX10_init_X2_init : GoodIn wsX10_init (wsX2_init) := ggX10_init_X2_init
set_option maxRecDepth 20000 in
theorem ggX10_init_X9_init : GoodIn wsX10_init wsX9_init := goodIn_r _ [137, 138, 2, 3, 51, 139, 237, 238] (by decide +kernel) (by decide +kernel)
set_option maxRecDepth 20000 in
theorem gX10_init_X9_init : GoodIn wsX10_init (wsX9_init) := ggX10_init_X9_init
set_option maxRecDepth 20000 in
theorem ggX10_init_X0_init : GoodIn wsX10_init wsX0_init := goodIn_r _ [142, 143, 2, 3, 51, 144, 145, 146, 239, 240, 241, 242] (by decide +kernel) (by decide +kernel)
set_option maxRecDepth 20000 in
theorem gX10_init_X0_init : GoodIn wsX10_init (wsX0_init) := ggX10_init_X0_init
set_option maxRecDepth 20000 in
theorem ggX10_init_X3_beginAnew : GoodIn wsX10_init wsX3_beginAnew := goodIn_r _ [150, 151, 152, 153, 154, 155, 156, 157, 91, 92, 93, 158, 159, 160, 161, 197, 198, 199, 200, 201, 202, 203, 204, 205, 206] (by decide +kernel) (by decide +kernel)
set_option maxRecDepth 20000 in
theorem gX10_init_X3_beginAnew : GoodIn wsX10_init (wsV RX10 90 RX3 yX3_beginAnew wsX3_beginAnew) := goodIn_app (goodIn_of _ (by decide +kernel)) ggX10_init_X3_beginAnew
theorem dX10_init_0 : decode cX10_init 0 = .ok (.aload_n 0, 1) := by decide +kernel
theorem dX10_init_1 : decode cX10_init 1 = .ok (.invokespecial 1, 3) := by decide +kernel
theorem dX10_init_4 : decode cX10_init 4 = .ok (.aload_n 0, 1) := by decide +kernel
theorem dX10_init_5 : decode cX10_init 5 = .ok (.new 7, 3) := by decide +kernel
theorem dX10_init_8 : decode cX10_init 8 = .ok (.dup, 1) := by decide +kernel
theorem dX10_init_9 : decode cX10_init 9 = .ok (.invokespecial 9, 3) := by decide +kernel
theorem dX10_init_12 : decode cX10_init 12 = .ok (.putfield 10, 3) := by decide +kernel
theorem dX10_init_15 : decode cX10_init 15 = .ok (.aload_n 0, 1) := by decide +kernel
theorem dX10_init_16 : decode cX10_init 16 = .ok (.new 16, 3) := by decide +kernel
theorem dX10_init_19 : decode cX10_init 19 = .ok (.dup, 1) := by decide +kernel
theorem dX10_init_20 : decode cX10_init 20 = .ok (.invokespecial 18, 3) := by decide +kernel
theorem dX10_init_23 : decode cX10_init 23 = .ok (.putfield 19, 3) := by decide +kernel
theorem dX10_init_26 : decode cX10_init 26 = .ok (.aload_n 0, 1) := by decide +kernel
theorem dX10_init_27 : decode cX10_init 27 = .ok (.new 23, 3) := by decide +kernel
theorem dX10_init_30 : decode cX10_init 30 = .ok (.dup, 1) := by decide +kernel
theorem dX10_init_31 : decode cX10_init 31 = .ok (.invokespecial 25, 3) := by decide +kernel
theorem dX10_init_34 : decode cX10_init 34 = .ok (.putfield 26, 3) := by decide +kernel
theorem dX10_init_37 : decode cX10_init 37 = .ok (.aload_n 0, 1) := by decide +kernel
theorem dX10_init_38 : decode cX10_init 38 = .ok (.new 30, 3) := by decide +kernel
theorem dX10_init_41 : decode cX10_init 41 = .ok (.dup, 1) := by decide +kernel
theorem dX10_init_42 : decode cX10_init 42 = .ok (.invokespecial 32, 3) := by decide +kernel
theorem dX10_init_45 : decode cX10_init 45 = .ok (.putfield 33, 3) := by decide +kernel
theorem dX10_init_48 : decode cX10_init 48 = .ok (.aload_n 0, 1) := by decide +kernel
theorem dX10_init_49 : decode cX10_init 49 = .ok (.iconst 2, 1) := by decide +kernel
theorem dX10_init_50 : decode cX10_init 50 = .ok (.anewarray 23, 3) := by decide +kernel
theorem dX10_init_53 : decode cX10_init 53 = .ok (.putfield 37, 3) := by decide +kernel
theorem dX10_init_56 : decode cX10_init 56 = .ok (.iconst 0, 1) := by decide +kernel
theorem dX10_init_57 : decode cX10_init 57 = .ok (.istore_n 1, 1) := by decide +kernel
theorem dX10_init_58 : decode cX10_init 58 = .ok (.iload_n 1, 1) := by decide +kernel
theorem dX10_init_59 : decode cX10_init 59 = .ok (.iconst 2, 1) := by decide +kernel
theorem dX10_init_60 : decode cX10_init 60 = .ok (.if_icmp .ge 22, 3) := by decide +kernel
theorem dX10_init_63 : decode cX10_init 63 = .ok (.aload_n 0, 1) := by decide +kernel
theorem dX10_init_64 : decode cX10_init 64 = .ok (.getfield 37, 3) := by decide +kernel
theorem dX10_init_67 : decode cX10_init 67 = .ok (.iload_n 1, 1) := by decide +kernel
theorem dX10_init_68 : decode cX10_init 68 = .ok (.new 23, 3) := by decide +kernel
theorem dX10_init_71 : decode cX10_init 71 = .ok (.dup, 1) := by decide +kernel
theorem dX10_init_72 : decode cX10_init 72 = .ok (.invokespecial 25, 3) := by decide +kernel
theorem dX10_init_75 : decode cX10_init 75 = .ok (.aastore, 1) := by decide +kernel
theorem dX10_init_76 : decode cX10_init 76 = .ok (.iinc 1 1, 3) := by decide +kernel
theorem dX10_init_79 : decode cX10_init 79 = .ok (.goto (-21), 3) := by decide +kernel
theorem dX10_init_82 : decode cX10_init 82 = .ok (.aload_n 0, 1) := by decide +kernel
theorem dX10_init_83 : decode cX10_init 83 = .ok (.new 41, 3) := by decide +kernel
theorem dX10_init_86 : decode cX10_init 86 = .ok (.dup, 1) := by decide +kernel
theorem dX10_init_87 : decode cX10_init 87 = .ok (.invokespecial 43, 3) := by decide +kernel
theorem dX10_init_90 : decode cX10_init 90 = .ok (.putfield 44, 3) := by decide +kernel
theorem dX10_init_93 : decode cX10_init 93 = .ok (.aload_n 0, 1) := by decide +kernel
theorem dX10_init_94 : decode cX10_init 94 = .ok (.new 48, 3) := by decide +kernel
theorem dX10_init_97 : decode cX10_init 97 = .ok (.dup, 1) := by decide +kernel
theorem dX10_init_98 : decode cX10_init 98 = .ok (.invokespecial 50, 3) := by decide +kernel
theorem dX10_init_101 : decode cX10_init 101 = .ok (.putfield 51, 3) := by decide +kernel
theorem dX10_init_104 : decode cX10_init 104 = .ok (.aload_n 0, 1) := by decide +kernel
theorem dX10_init_105 : decode cX10_init 105 = .ok (.new 55, 3) := by decide +kernel
theorem dX10_init_108 : decode cX10_init 108 = .ok (.dup, 1) := by decide +kernel
theorem dX10_init_109 : decode cX10_init 109 = .ok (.invokespecial 57, 3) := by decide +kernel
theorem dX10_init_112 : decode cX10_init 112 = .ok (.putfield 58, 3) := by decide +kernel
theorem dX10_init_115 : decode cX10_init 115 = .ok (.aload_n 0, 1) := by decide +kernel
theorem dX10_init_116 : decode cX10_init 116 = .ok (.new 62, 3) := by decide +kernel
theorem dX10_init_119 : decode cX10_init 119 = .ok (.dup, 1) := by decide +kernel
theorem dX10_init_120 : decode cX10_init 120 = .ok (.invokespecial 64, 3) := by decide +kernel
theorem dX10_init_123 : decode cX10_init 123 = .ok (.putfield 65, 3) := by decide +kernel
theorem dX10_init_126 : decode cX10_init 126 = .ok (.aload_n 0, 1) := by decide +kernel
theorem dX10_init_127 : decode cX10_init 127 = .ok (.new 69, 3) := by decide +kernel
theorem dX10_init_130 : decode cX10_init 130 = .ok (.dup, 1) := by decide +kernel
theorem dX10_init_131 : decode cX10_init 131 = .ok (.invokespecial 71, 3) := by decide +kernel
theorem dX10_init_134 : decode cX10_init 134 = .ok (.putfield 72, 3) := by decide +kernel
theorem dX10_init_137 : decode cX10_init 137 = .ok (.aload_n 0, 1) := by decide +kernel
theorem dX10_init_138 : decode cX10_init 138 = .ok (.new 76, 3) := by decide +kernel
theorem dX10_init_141 : decode cX10_init 141 = .ok (.dup, 1) := by decide +kernel
theorem dX10_init_142 : decode cX10_init 142 = .ok (.invokespecial 78, 3) := by decide +kernel
theorem dX10_init_145 : decode cX10_init 145 = .ok (.putfield 79, 3) := by decide +kernel
theorem dX10_init_148 : decode cX10_init 148 = .ok (.aload_n 0, 1) := by decide +kernel
theorem dX10_init_149 : decode cX10_init 149 = .ok (.iconst 0, 1) := by decide +kernel
theorem dX10_init_150 : decode cX10_init 150 = .ok (.putfield 83, 3) := by decide +kernel
theorem dX10_init_153 : decode cX10_init 153 = .ok (.aload_n 0, 1) := by decide +kernel
theorem dX10_init_154 : decode cX10_init 154 = .ok (.getfield 26, 3) := by decide +kernel
theorem dX10_init_157 : decode cX10_init 157 = .ok (.aload_n 0, 1) := by decide +kernel
theorem dX10_init_158 : decode cX10_init 158 = .ok (.getfield 10, 3) := by decide +kernel
theorem dX10_init_161 : decode cX10_init 161 = .ok (.getfield 87, 3) := by decide +kernel
theorem dX10_init_164 : decode cX10_init 164 = .ok (.invokevirtual 90, 3) := by decide +kernel
theorem dX10_init_167 : decode cX10_init 167 = .ok (.return_, 1) := by decide +kernel
set_option maxRecDepth 20000 in
theorem ggX10_write_X10_isOutside : GoodIn wsX10_write wsX10_isOutside := goodIn_r _ [6] (by decide +kernel) (by decide +kernel)
set_option maxRecDepth 20000 in
theorem gX10_write_X10_isOutside : GoodIn wsX10_write (va_wsS RX10 94 yX10_isOutside wsX10_isOutside) := goodIn_app (goodIn_of _ (by decide +kernel)) ggX10_write_X10_isOutside
set_option maxRecDepth 20000 in
theorem ggX10_write_X7_add : GoodIn wsX10_write wsX7_add := goodIn_r _ [11, 12, 13, 26, 27, 28, 29, 30, 31, 32, 33] (by decide +kernel) (by decide +kernel)
set_option maxRecDepth 20000 in
theorem gX10_write_X7_add : GoodIn wsX10_write (wsV RX10 98 RX7 yX7_add wsX7_add) := goodIn_app (goodIn_of _ (by decide +kernel)) ggX10_write_X7_add
theorem dX10_write_0 : decode cX10_write 0 = .ok (.iload_n 1, 1) := by decide +kernel
theorem dX10_write_1 : decode cX10_write 1 = .ok (.iconst 0, 1) := by decide +kernel
theorem dX10_write_2 : decode cX10_write 2 = .ok (.sipush 255, 3) := by decide +kernel
theorem dX10_write_5 : decode cX10_write 5 = .ok (.invokestatic 94, 3) := by decide +kernel
theorem dX10_write_8 : decode cX10_write 8 = .ok (.ifCond .eq 6, 3) := by decide +kernel
theorem dX10_write_11 : decode cX10_write 11 = .ok (.bipush (-3), 2) := by decide +kernel
theorem dX10_write_13 : decode cX10_write 13 = .ok (.ireturn, 1) := by decide +kernel
theorem dX10_write_14 : decode cX10_write 14 = .ok (.aload_n 0, 1) := by decide +kernel
theorem dX10_write_15 : decode cX10_write 15 = .ok (.getfield 19, 3) := by decide +kernel
theorem dX10_write_18 : decode cX10_write 18 = .ok (.iload_n 1, 1) := by decide +kernel
theorem dX10_write_19 : decode cX10_write 19 = .ok (.invokevirtual 98, 3) := by decide +kernel
theorem dX10_write_22 : decode cX10_write 22 = .ok (.ifCond .eq 13, 3) := by decide +kernel
theorem dX10_write_25 : decode cX10_write 25 = .ok (.aload_n 0, 1) := by decide +kernel
theorem dX10_write_26 : decode cX10_write 26 = .ok (.getfield 19, 3) := by decide +kernel
theorem dX10_write_29 : decode cX10_write 29 = .ok (.getfield 102, 3) := by decide +kernel
theorem dX10_write_32 : decode cX10_write 32 = .ok (.goto 5, 3) := by decide +kernel
theorem dX10_write_35 : decode cX10_write 35 = .ok (.bipush (-5), 2) := by decide +kernel
theorem dX10_write_37 : decode cX10_write 37 = .ok (.ireturn, 1) := by decide +kernel
theorem dX10_erase_0 : decode cX10_erase 0 = .ok (.aload_n 0, 1) := by decide +kernel
theorem dX10_erase_1 : decode cX10_erase 1 = .ok (.getfield 19, 3) := by decide +kernel
theorem dX10_erase_4 : decode cX10_erase 4 = .ok (.getfield 102, 3) := by decide +kernel
theorem dX10_erase_7 : decode cX10_erase 7 = .ok (.istore_n 1, 1) := by decide +kernel
theorem dX10_erase_8 : decode cX10_erase 8 = .ok (.aload_n 0, 1) := by decide +kernel
theorem dX10_erase_9 : decode cX10_erase 9 = .ok (.getfield 19, 3) := by decide +kernel
theorem dX10_erase_12 : decode cX10_erase 12 = .ok (.iconst 0, 1) := by decide +kernel
theorem dX10_erase_13 : decode cX10_erase 13 = .ok (.putfield 102, 3) := by decide +kernel
theorem dX10_erase_16 : decode cX10_erase 16 = .ok (.iload_n 1, 1) := by decide +kernel
theorem dX10_erase_17 : decode cX10_erase 17 = .ok (.ireturn, 1) := by decide +kernel
set_option maxRecDepth 20000 in
theorem ggX10_fault_X7_findFault : GoodIn wsX10_fault wsX7_findFault := goodIn_r _ [7, 8, 9, 10, 11, 12, 13, 14, 15, 16, 17, 18, 19, 20, 21, 22, 23, 24, 25, 26, 27, 28, 29, 30, 31, 32, 33, 34, 35, 36, 37, 38, 39, 40, 41, 6, 42, 43, 44, 45, 46, 47, 48, 49, 50, 51, 52, 53, 54, 55, 56, 57, 58, 59, 60, 61, 62, 63, 64, 65, 66, 67, 68, 69, 70, 71, 72, 73, 74, 75, 76, 77, 78, 79, 80, 81, 82, 83, 84, 85, 86, 87, 88, 89, 90, 91, 92, 93, 94, 95, 96, 97, 98, 99, 100, 101, 102, 103, 104, 105, 106, 107, 108, 109, 110, 111, 112, 113, 114, 115, 116, 117, 118, 119, 120, 121, 122, 123, 124, 125, 126, 127, 128, 129, 130, 131, 132, 133, 134, 135, 136, 137, 138, 139, 140, 141, 142, 143, 144, 145, 146, 147, 148, 149, 150, 151, 152, 153, 154, 155, 156, 157, 158, 159, 160, 161, 162, 163, 164, 165, 166, 167, 168, 169, 170, 171, 172, 173, 174, 175, 176, 177, 178, 179, 180, 193, 194, 195, 196, 197, 198, 199, 200, 201, 202, 203, 204, 205, 206, 207, 208, 209, 210, 211, 212, 213, 214, 215] (by decide +kernel) (by decide +kernel)
set_option maxRecDepth 20000 in
theorem gX10_fault_X7_findFault : GoodIn wsX10_fault (wsV RX10 105 RX7 yX7_findFault wsX7_findFault) := goodIn_app (goodIn_of _ (by decide +kernel)) ggX10_fault_X7_findFault
theorem dX10_fault_0 : decode cX10_fault 0 = .ok (.aload_n 0, 1) := by decide +kernel
theorem dX10_fault_1 : decode cX10_fault 1 = .ok (.getfield 19, 3) := by decide +kernel
theorem dX10_fault_4 : decode cX10_fault 4 = .ok (.aload_n 0, 1) := by decide +kernel
theorem dX10_fault_5 : decode cX10_fault 5 = .ok (.getfield 10, 3) := by decide +kernel
theorem dX10_fault_8 : decode cX10_fault 8 = .ok (.invokevirtual 105, 3) := by decide +kernel
theorem dX10_fault_11 : decode cX10_fault 11 = .ok (.ireturn, 1) := by decide +kernel
set_option maxRecDepth 20000 in
theorem ggX10_town_X7_findFault : GoodIn wsX10_town wsX7_findFault := goodIn_r _ [21, 22, 23, 24, 25, 26, 27, 28, 29, 30, 31, 32, 33, 34, 35, 36, 37, 38, 39, 40, 41, 42, 43, 44, 45, 46, 47, 48, 49, 50, 51, 52, 53, 54, 55, 20, 56, 57, 58, 59, 60, 61, 62, 63, 64, 65, 66, 67, 68, 69, 70, 71, 72, 73, 74, 75, 76, 77, 78, 79, 80, 81, 82, 83, 84, 85, 86, 87, 88, 89, 90, 91, 92, 93, 94, 95, 96, 97, 98, 99, 100, 101, 102, 103, 104, 105, 106, 107, 108, 109, 110, 111, 112, 113, 114, 115, 116, 117, 118, 119, 120, 121, 122, 123, 124, 125, 126, 127, 128, 129, 130, 131, 132, 133, 134, 135, 136, 137, 138, 139, 140, 141, 142, 143, 144, 145, 146, 147, 148, 149, 150, 151, 152, 153, 154, 155, 156, 157, 158, 159, 160, 161, 162, 163, 164, 165, 166, 167, 168, 169, 170, 171, 172, 173, 174, 175, 176, 177, 178, 179, 180, 181, 182, 183, 184, 185, 186, 187, 188, 189, 190, 191, 192, 193, 194, 227, 228, 229, 230, 231, 232, 233, 234, 235, 236, 237, 238, 239, 240, 241, 242, 243, 244, 245, 246, 247, 248, 249] (by decide +kernel) (by decide +kernel)
set_option maxRecDepth 20000 in
theorem gX10_town_X7_findFault : GoodIn wsX10_town (wsV RX10 105 RX7 yX7_findFault wsX7_findFault) := goodIn_app (goodIn_of _ (by decide +kernel)) ggX10_town_X7_findFault
set_option maxRecDepth 20000 in
theorem ggX10_town_X8_copyFrom : GoodIn wsX10_town wsX8_copyFrom := goodIn_r _ [33, 34, 35, 36, 37, 38, 39, 40, 41, 42, 43, 44, 45, 46, 47, 48, 49, 50, 51, 52, 235, 236, 237, 238, 239, 240, 241, 242, 243, 244, 245, 246, 247, 248, 249] (by decide +kernel) (by decide +kernel)
set_option maxRecDepth 20000 in
theorem gX10_town_X8_copyFrom : GoodIn wsX10_town (wsV RX10 112 RX8 yX8_copyFrom wsX8_copyFrom) := goodIn_app (goodIn_of _ (by decide +kernel)) ggX10_town_X8_copyFrom
set_option maxRecDepth 20000 in
theorem ggX10_town_X3_beginAnew : GoodIn wsX10_town wsX3_beginAnew := goodIn_r _ [200, 201, 202, 203, 204, 205, 206, 207, 208, 209, 210, 211, 212, 213, 214, 266, 267, 268, 269, 270, 271, 272, 273, 274, 275] (by decide +kernel) (by decide +kernel)
set_option maxRecDepth 20000 in
theorem gX10_town_X3_beginAnew : GoodIn wsX10_town (wsV RX10 90 RX3 yX3_beginAnew wsX3_beginAnew) := goodIn_app (goodIn_of _ (by decide +kernel)) ggX10_town_X3_beginAnew
theorem dX10_town_0 : decode cX10_town 0 = .ok (.aload_n 0, 1) := by decide +kernel
theorem dX10_town_1 : decode cX10_town 1 = .ok (.getfield 19, 3) := by decide +kernel
theorem dX10_town_4 : decode cX10_town 4 = .ok (.aload_n 0, 1) := by decide +kernel
theorem dX10_town_5 : decode cX10_town 5 = .ok (.getfield 10, 3) := by decide +kernel
theorem dX10_town_8 : decode cX10_town 8 = .ok (.invokevirtual 105, 3) := by decide +kernel
theorem dX10_town_11 : decode cX10_town 11 = .ok (.iconst (-1), 1) := by decide +kernel
theorem dX10_town_12 : decode cX10_town 12 = .ok (.if_icmp .eq 6, 3) := by decide +kernel
theorem dX10_town_15 : decode cX10_town 15 = .ok (.bipush (-4), 2) := by decide +kernel
theorem dX10_town_17 : decode cX10_town 17 = .ok (.ireturn, 1) := by decide +kernel
theorem dX10_town_18 : decode cX10_town 18 = .ok (.aload_n 0, 1) := by decide +kernel
theorem dX10_town_19 : decode cX10_town 19 = .ok (.getfield 10, 3) := by decide +kernel
theorem dX10_town_22 : decode cX10_town 22 = .ok (.aload_n 0, 1) := by decide +kernel
theorem dX10_town_23 : decode cX10_town 23 = .ok (.getfield 19, 3) := by decide +kernel
theorem dX10_town_26 : decode cX10_town 26 = .ok (.getfield 109, 3) := by decide +kernel
theorem dX10_town_29 : decode cX10_town 29 = .ok (.invokevirtual 112, 3) := by decide +kernel
theorem dX10_town_32 : decode cX10_town 32 = .ok (.aload_n 0, 1) := by decide +kernel
theorem dX10_town_33 : decode cX10_town 33 = .ok (.getfield 19, 3) := by decide +kernel
theorem dX10_town_36 : decode cX10_town 36 = .ok (.iconst 0, 1) := by decide +kernel
theorem dX10_town_37 : decode cX10_town 37 = .ok (.putfield 102, 3) := by decide +kernel
theorem dX10_town_40 : decode cX10_town 40 = .ok (.aload_n 0, 1) := by decide +kernel
theorem dX10_town_41 : decode cX10_town 41 = .ok (.getfield 26, 3) := by decide +kernel
theorem dX10_town_44 : decode cX10_town 44 = .ok (.aload_n 0, 1) := by decide +kernel
theorem dX10_town_45 : decode cX10_town 45 = .ok (.getfield 10, 3) := by decide +kernel
theorem dX10_town_48 : decode cX10_town 48 = .ok (.getfield 87, 3) := by decide +kernel
theorem dX10_town_51 : decode cX10_town 51 = .ok (.invokevirtual 90, 3) := by decide +kernel
theorem dX10_town_54 : decode cX10_town 54 = .ok (.aload_n 0, 1) := by decide +kernel
theorem dX10_town_55 : decode cX10_town 55 = .ok (.getfield 33, 3) := by decide +kernel
theorem dX10_town_58 : decode cX10_town 58 = .ok (.iconst 0, 1) := by decide +kernel
theorem dX10_town_59 : decode cX10_town 59 = .ok (.putfield 116, 3) := by decide +kernel
theorem dX10_town_62 : decode cX10_town 62 = .ok (.aload_n 0, 1) := by decide +kernel
theorem dX10_town_63 : decode cX10_town 63 = .ok (.iconst 0, 1) := by decide +kernel
theorem dX10_town_64 : decode cX10_town 64 = .ok (.putfield 83, 3) := by decide +kernel
theorem dX10_town_67 : decode cX10_town 67 = .ok (.aload_n 0, 1) := by decide +kernel
theorem dX10_town_68 : decode cX10_town 68 = .ok (.getfield 58, 3) := by decide +kernel
theorem dX10_town_71 : decode cX10_town 71 = .ok (.iconst 0, 1) := by decide +kernel
theorem dX10_town_72 : decode cX10_town 72 = .ok (.putfield 117, 3) := by decide +kernel
theorem dX10_town_75 : decode cX10_town 75 = .ok (.aload_n 0, 1) := by decide +kernel
theorem dX10_town_76 : decode cX10_town 76 = .ok (.getfield 72, 3) := by decide +kernel
theorem dX10_town_79 : decode cX10_town 79 = .ok (.iconst 0, 1) := by decide +kernel
theorem dX10_town_80 : decode cX10_town 80 = .ok (.putfield 120, 3) := by decide +kernel
theorem dX10_town_83 : decode cX10_town 83 = .ok (.aload_n 0, 1) := by decide +kernel
theorem dX10_town_84 : decode cX10_town 84 = .ok (.getfield 79, 3) := by decide +kernel
theorem dX10_town_87 : decode cX10_town 87 = .ok (.iconst 0, 1) := by decide +kernel
theorem dX10_town_88 : decode cX10_town 88 = .ok (.putfield 121, 3) := by decide +kernel
theorem dX10_town_91 : decode cX10_town 91 = .ok (.aload_n 0, 1) := by decide +kernel
theorem dX10_town_92 : decode cX10_town 92 = .ok (.getfield 19, 3) := by decide +kernel
theorem dX10_town_95 : decode cX10_town 95 = .ok (.getfield 122, 3) := by decide +kernel
theorem dX10_town_98 : decode cX10_town 98 = .ok (.ireturn, 1) := by decide +kernel
set_option maxRecDepth 20000 in
theorem ggX10_one_X10_isNoOne : GoodIn wsX10_one wsX10_isNoOne := goodIn_r _ [13, 1, 14, 18, 19, 20, 21, 22, 23, 24, 25, 26, 27, 28, 29, 30, 31, 32, 33, 34, 35, 36, 37, 38, 39, 40, 41, 42, 43, 44] (by decide +kernel) (by decide +kernel)
set_option maxRecDepth 20000 in
theorem gX10_one_X10_isNoOne : GoodIn wsX10_one (wsV RX10 125 RX10 yX10_isNoOne wsX10_isNoOne) := goodIn_app (goodIn_of _ (by decide +kernel)) ggX10_one_X10_isNoOne
set_option maxRecDepth 20000 in
theorem ggX10_one_X10_bitOf : GoodIn wsX10_one wsX10_bitOf := goodIn_r _ [17] (by decide +kernel) (by decide +kernel)
set_option maxRecDepth 20000 in
theorem gX10_one_X10_bitOf : GoodIn wsX10_one (va_wsS RX10 144 yX10_bitOf wsX10_bitOf) := goodIn_app (goodIn_of _ (by decide +kernel)) ggX10_one_X10_bitOf
theorem dX10_one_0 : decode cX10_one 0 = .ok (.aload_n 0, 1) := by decide +kernel
theorem dX10_one_1 : decode cX10_one 1 = .ok (.iload_n 1, 1) := by decide +kernel
theorem dX10_one_2 : decode cX10_one 2 = .ok (.invokevirtual 125, 3) := by decide +kernel
theorem dX10_one_5 : decode cX10_one 5 = .ok (.ifCond .eq 6, 3) := by decide +kernel
theorem dX10_one_8 : decode cX10_one 8 = .ok (.bipush (-2), 2) := by decide +kernel
theorem dX10_one_10 : decode cX10_one 10 = .ok (.ireturn, 1) := by decide +kernel
theorem dX10_one_11 : decode cX10_one 11 = .ok (.iload_n 2, 1) := by decide +kernel
theorem dX10_one_12 : decode cX10_one 12 = .ok (.tableswitch 104 0 5 #[40, 50, 60, 70, 80, 92], 40) := by decide +kernel
theorem dX10_one_52 : decode cX10_one 52 = .ok (.aload_n 0, 1) := by decide +kernel
theorem dX10_one_53 : decode cX10_one 53 = .ok (.getfield 10, 3) := by decide +kernel
theorem dX10_one_56 : decode cX10_one 56 = .ok (.getfield 128, 3) := by decide +kernel
theorem dX10_one_59 : decode cX10_one 59 = .ok (.iload_n 1, 1) := by decide +kernel
theorem dX10_one_60 : decode cX10_one 60 = .ok (.iaload, 1) := by decide +kernel
theorem dX10_one_61 : decode cX10_one 61 = .ok (.ireturn, 1) := by decide +kernel
theorem dX10_one_62 : decode cX10_one 62 = .ok (.aload_n 0, 1) := by decide +kernel
theorem dX10_one_63 : decode cX10_one 63 = .ok (.getfield 10, 3) := by decide +kernel
theorem dX10_one_66 : decode cX10_one 66 = .ok (.getfield 132, 3) := by decide +kernel
theorem dX10_one_69 : decode cX10_one 69 = .ok (.iload_n 1, 1) := by decide +kernel
theorem dX10_one_70 : decode cX10_one 70 = .ok (.iaload, 1) := by decide +kernel
theorem dX10_one_71 : decode cX10_one 71 = .ok (.ireturn, 1) := by decide +kernel
theorem dX10_one_72 : decode cX10_one 72 = .ok (.aload_n 0, 1) := by decide +kernel
theorem dX10_one_73 : decode cX10_one 73 = .ok (.getfield 26, 3) := by decide +kernel
theorem dX10_one_76 : decode cX10_one 76 = .ok (.getfield 135, 3) := by decide +kernel
theorem dX10_one_79 : decode cX10_one 79 = .ok (.iload_n 1, 1) := by decide +kernel
theorem dX10_one_80 : decode cX10_one 80 = .ok (.iaload, 1) := by decide +kernel
theorem dX10_one_81 : decode cX10_one 81 = .ok (.ireturn, 1) := by decide +kernel
theorem dX10_one_82 : decode cX10_one 82 = .ok (.aload_n 0, 1) := by decide +kernel
theorem dX10_one_83 : decode cX10_one 83 = .ok (.getfield 26, 3) := by decide +kernel
theorem dX10_one_86 : decode cX10_one 86 = .ok (.getfield 138, 3) := by decide +kernel
theorem dX10_one_89 : decode cX10_one 89 = .ok (.iload_n 1, 1) := by decide +kernel
theorem dX10_one_90 : decode cX10_one 90 = .ok (.iaload, 1) := by decide +kernel
theorem dX10_one_91 : decode cX10_one 91 = .ok (.ireturn, 1) := by decide +kernel
theorem dX10_one_92 : decode cX10_one 92 = .ok (.aload_n 0, 1) := by decide +kernel
theorem dX10_one_93 : decode cX10_one 93 = .ok (.getfield 26, 3) := by decide +kernel
theorem dX10_one_96 : decode cX10_one 96 = .ok (.getfield 141, 3) := by decide +kernel
theorem dX10_one_99 : decode cX10_one 99 = .ok (.iload_n 1, 1) := by decide +kernel
theorem dX10_one_100 : decode cX10_one 100 = .ok (.invokestatic 144, 3) := by decide +kernel
theorem dX10_one_103 : decode cX10_one 103 = .ok (.ireturn, 1) := by decide +kernel
theorem dX10_one_104 : decode cX10_one 104 = .ok (.aload_n 0, 1) := by decide +kernel
theorem dX10_one_105 : decode cX10_one 105 = .ok (.getfield 26, 3) := by decide +kernel
theorem dX10_one_108 : decode cX10_one 108 = .ok (.getfield 148, 3) := by decide +kernel
theorem dX10_one_111 : decode cX10_one 111 = .ok (.iload_n 1, 1) := by decide +kernel
theorem dX10_one_112 : decode cX10_one 112 = .ok (.invokestatic 144, 3) := by decide +kernel
theorem dX10_one_115 : decode cX10_one 115 = .ok (.ireturn, 1) := by decide +kernel
theorem dX10_one_116 : decode cX10_one 116 = .ok (.bipush (-3), 2) := by decide +kernel
theorem dX10_one_118 : decode cX10_one 118 = .ok (.ireturn, 1) := by decide +kernel
set_option maxRecDepth 20000 in
theorem ggX10_work_X10_isNoWork : GoodIn wsX10_work wsX10_isNoWork := goodIn_r _ [12, 1, 13, 14, 15, 16, 17, 18, 19, 20, 21, 22, 23, 24, 25, 26, 27, 28, 29, 30, 31, 32, 33, 34, 35, 36, 37, 38, 39, 40] (by decide +kernel) (by decide +kernel)
set_option maxRecDepth 20000 in
theorem gX10_work_X10_isNoWork : GoodIn wsX10_work (wsV RX10 151 RX10 yX10_isNoWork wsX10_isNoWork) := goodIn_app (goodIn_of _ (by decide +kernel)) ggX10_work_X10_isNoWork
theorem dX10_work_0 : decode cX10_work 0 = .ok (.aload_n 0, 1) := by decide +kernel
theorem dX10_work_1 : decode cX10_work 1 = .ok (.iload_n 1, 1) := by decide +kernel
theorem dX10_work_2 : decode cX10_work 2 = .ok (.invokevirtual 151, 3) := by decide +kernel
theorem dX10_work_5 : decode cX10_work 5 = .ok (.ifCond .eq 6, 3) := by decide +kernel
theorem dX10_work_8 : decode cX10_work 8 = .ok (.bipush (-2), 2) := by decide +kernel
theorem dX10_work_10 : decode cX10_work 10 = .ok (.ireturn, 1) := by decide +kernel
theorem dX10_work_11 : decode cX10_work 11 = .ok (.iload_n 2, 1) := by decide +kernel
theorem dX10_work_12 : decode cX10_work 12 = .ok (.tableswitch 86 0 4 #[36, 46, 56, 66, 76], 36) := by decide +kernel
theorem dX10_work_48 : decode cX10_work 48 = .ok (.aload_n 0, 1) := by decide +kernel
theorem dX10_work_49 : decode cX10_work 49 = .ok (.getfield 10, 3) := by decide +kernel
theorem dX10_work_52 : decode cX10_work 52 = .ok (.getfield 154, 3) := by decide +kernel
theorem dX10_work_55 : decode cX10_work 55 = .ok (.iload_n 1, 1) := by decide +kernel
theorem dX10_work_56 : decode cX10_work 56 = .ok (.iaload, 1) := by decide +kernel
theorem dX10_work_57 : decode cX10_work 57 = .ok (.ireturn, 1) := by decide +kernel
theorem dX10_work_58 : decode cX10_work 58 = .ok (.aload_n 0, 1) := by decide +kernel
theorem dX10_work_59 : decode cX10_work 59 = .ok (.getfield 10, 3) := by decide +kernel
theorem dX10_work_62 : decode cX10_work 62 = .ok (.getfield 157, 3) := by decide +kernel
theorem dX10_work_65 : decode cX10_work 65 = .ok (.iload_n 1, 1) := by decide +kernel
theorem dX10_work_66 : decode cX10_work 66 = .ok (.iaload, 1) := by decide +kernel
theorem dX10_work_67 : decode cX10_work 67 = .ok (.ireturn, 1) := by decide +kernel
theorem dX10_work_68 : decode cX10_work 68 = .ok (.aload_n 0, 1) := by decide +kernel
theorem dX10_work_69 : decode cX10_work 69 = .ok (.getfield 10, 3) := by decide +kernel
theorem dX10_work_72 : decode cX10_work 72 = .ok (.getfield 160, 3) := by decide +kernel
theorem dX10_work_75 : decode cX10_work 75 = .ok (.iload_n 1, 1) := by decide +kernel
theorem dX10_work_76 : decode cX10_work 76 = .ok (.iaload, 1) := by decide +kernel
theorem dX10_work_77 : decode cX10_work 77 = .ok (.ireturn, 1) := by decide +kernel
theorem dX10_work_78 : decode cX10_work 78 = .ok (.aload_n 0, 1) := by decide +kernel
theorem dX10_work_79 : decode cX10_work 79 = .ok (.getfield 10, 3) := by decide +kernel
theorem dX10_work_82 : decode cX10_work 82 = .ok (.getfield 163, 3) := by decide +kernel
theorem dX10_work_85 : decode cX10_work 85 = .ok (.iload_n 1, 1) := by decide +kernel
theorem dX10_work_86 : decode cX10_work 86 = .ok (.iaload, 1) := by decide +kernel
theorem dX10_work_87 : decode cX10_work 87 = .ok (.ireturn, 1) := by decide +kernel
theorem dX10_work_88 : decode cX10_work 88 = .ok (.aload_n 0, 1) := by decide +kernel
theorem dX10_work_89 : decode cX10_work 89 = .ok (.getfield 26, 3) := by decide +kernel
theorem dX10_work_92 : decode cX10_work 92 = .ok (.getfield 166, 3) := by decide +kernel
theorem dX10_work_95 : decode cX10_work 95 = .ok (.iload_n 1, 1) := by decide +kernel
theorem dX10_work_96 : decode cX10_work 96 = .ok (.iaload, 1) := by decide +kernel
theorem dX10_work_97 : decode cX10_work 97 = .ok (.ireturn, 1) := by decide +kernel
theorem dX10_work_98 : decode cX10_work 98 = .ok (.bipush (-3), 2) := by decide +kernel
theorem dX10_work_100 : decode cX10_work 100 = .ok (.ireturn, 1) := by decide +kernel
set_option maxRecDepth 20000 in
theorem ggX10_good_X10_isNoGood : GoodIn wsX10_good wsX10_isNoGood := goodIn_r _ [9, 1, 10, 26, 27, 28, 29, 30, 31, 32, 33, 34, 35, 36, 37, 48, 49, 50, 51, 52, 53, 54, 55, 56, 57, 58, 59, 60, 61, 62] (by decide +kernel) (by decide +kernel)
set_option maxRecDepth 20000 in
theorem gX10_good_X10_isNoGood : GoodIn wsX10_good (wsV RX10 169 RX10 yX10_isNoGood wsX10_isNoGood) := goodIn_app (goodIn_of _ (by decide +kernel)) ggX10_good_X10_isNoGood
set_option maxRecDepth 20000 in
theorem ggX10_good_X8_priceOf : GoodIn wsX10_good wsX8_priceOf := goodIn_r _ [15, 16, 17, 18, 19, 20, 21, 22, 23, 8, 24, 48, 49, 50, 51, 52, 53, 54, 55, 56, 57, 58, 59, 60, 61, 62] (by decide +kernel) (by decide +kernel)
set_option maxRecDepth 20000 in
theorem gX10_good_X8_priceOf : GoodIn wsX10_good (wsV RX10 175 RX8 yX8_priceOf wsX8_priceOf) := goodIn_app (goodIn_of _ (by decide +kernel)) ggX10_good_X8_priceOf
set_option maxRecDepth 20000 in
theorem ggX10_good_X10_bitOf : GoodIn wsX10_good wsX10_bitOf := goodIn_r _ [24] (by decide +kernel) (by decide +kernel)
set_option maxRecDepth 20000 in
theorem gX10_good_X10_bitOf : GoodIn wsX10_good (va_wsS RX10 144 yX10_bitOf wsX10_bitOf) := goodIn_app (goodIn_of _ (by decide +kernel)) ggX10_good_X10_bitOf
theorem dX10_good_0 : decode cX10_good 0 = .ok (.aload_n 0, 1) := by decide +kernel
theorem dX10_good_1 : decode cX10_good 1 = .ok (.iload_n 1, 1) := by decide +kernel
theorem dX10_good_2 : decode cX10_good 2 = .ok (.invokevirtual 169, 3) := by decide +kernel
theorem dX10_good_5 : decode cX10_good 5 = .ok (.ifCond .eq 6, 3) := by decide +kernel
theorem dX10_good_8 : decode cX10_good 8 = .ok (.bipush (-2), 2) := by decide +kernel
theorem dX10_good_10 : decode cX10_good 10 = .ok (.ireturn, 1) := by decide +kernel
theorem dX10_good_11 : decode cX10_good 11 = .ok (.iload_n 2, 1) := by decide +kernel
theorem dX10_good_12 : decode cX10_good 12 = .ok (.lookupswitch 56 #[(0, 28), (1, 44)], 28) := by decide +kernel
theorem dX10_good_40 : decode cX10_good 40 = .ok (.aload_n 0, 1) := by decide +kernel
theorem dX10_good_41 : decode cX10_good 41 = .ok (.getfield 10, 3) := by decide +kernel
theorem dX10_good_44 : decode cX10_good 44 = .ok (.iload_n 1, 1) := by decide +kernel
theorem dX10_good_45 : decode cX10_good 45 = .ok (.aload_n 0, 1) := by decide +kernel
theorem dX10_good_46 : decode cX10_good 46 = .ok (.getfield 26, 3) := by decide +kernel
theorem dX10_good_49 : decode cX10_good 49 = .ok (.getfield 172, 3) := by decide +kernel
theorem dX10_good_52 : decode cX10_good 52 = .ok (.invokevirtual 175, 3) := by decide +kernel
theorem dX10_good_55 : decode cX10_good 55 = .ok (.ireturn, 1) := by decide +kernel
theorem dX10_good_56 : decode cX10_good 56 = .ok (.aload_n 0, 1) := by decide +kernel
theorem dX10_good_57 : decode cX10_good 57 = .ok (.getfield 26, 3) := by decide +kernel
theorem dX10_good_60 : decode cX10_good 60 = .ok (.getfield 178, 3) := by decide +kernel
theorem dX10_good_63 : decode cX10_good 63 = .ok (.iload_n 1, 1) := by decide +kernel
theorem dX10_good_64 : decode cX10_good 64 = .ok (.invokestatic 144, 3) := by decide +kernel
theorem dX10_good_67 : decode cX10_good 67 = .ok (.ireturn, 1) := by decide +kernel
theorem dX10_good_68 : decode cX10_good 68 = .ok (.bipush (-3), 2) := by decide +kernel
theorem dX10_good_70 : decode cX10_good 70 = .ok (.ireturn, 1) := by decide +kernel
set_option maxRecDepth 20000 in
theorem ggX10_as_X10_isNoOne : GoodIn wsX10_as wsX10_isNoOne := goodIn_r _ [9, 2, 10, 32, 33, 34, 35, 36, 37, 38, 39, 40, 41, 42, 43, 44, 45, 46, 47, 48, 49, 50, 51, 52, 53, 54, 55, 56, 57, 58] (by decide +kernel) (by decide +kernel)
set_option maxRecDepth 20000 in
theorem gX10_as_X10_isNoOne : GoodIn wsX10_as (wsV RX10 125 RX10 yX10_isNoOne wsX10_isNoOne) := goodIn_app (goodIn_of _ (by decide +kernel)) ggX10_as_X10_isNoOne
set_option maxRecDepth 20000 in
theorem ggX10_as_X10_isOutside : GoodIn wsX10_as wsX10_isOutside := goodIn_r _ [13] (by decide +kernel) (by decide +kernel)
set_option maxRecDepth 20000 in
theorem gX10_as_X10_isOutside : GoodIn wsX10_as (va_wsS RX10 94 yX10_isOutside wsX10_isOutside) := goodIn_app (goodIn_of _ (by decide +kernel)) ggX10_as_X10_isOutside
set_option maxRecDepth 20000 in
theorem ggX10_as_X10_bitOf : GoodIn wsX10_as wsX10_bitOf := goodIn_r _ [16] (by decide +kernel) (by decide +kernel)
set_option maxRecDepth 20000 in
theorem gX10_as_X10_bitOf : GoodIn wsX10_as (va_wsS RX10 144 yX10_bitOf wsX10_bitOf) := goodIn_app (goodIn_of _ (by decide +kernel)) ggX10_as_X10_bitOf
set_option maxRecDepth 20000 in
theorem ggX10_as_X10_canDo : GoodIn wsX10_as wsX10_canDo := goodIn_r _ [20, 21, 22, 2, 23, 24, 25, 14, 15, 8, 16, 26, 27, 28, 29, 30, 31, 32, 33, 34, 35, 36, 37, 38, 39, 40, 41, 42, 43, 59, 60, 61, 62, 63, 64, 65, 66, 67, 68, 44, 45, 46, 47, 48, 49, 50, 51, 52, 53, 54, 55, 56, 57, 58] (by decide +kernel) (by decide +kernel)
set_option maxRecDepth 20000 in
theorem gX10_as_X10_canDo : GoodIn wsX10_as (wsV RX10 187 RX10 yX10_canDo wsX10_canDo) := goodIn_app (goodIn_of _ (by decide +kernel)) ggX10_as_X10_canDo
theorem dX10_as_0 : decode cX10_as 0 = .ok (.aload_n 0, 1) := by decide +kernel
theorem dX10_as_1 : decode cX10_as 1 = .ok (.iload_n 1, 1) := by decide +kernel
theorem dX10_as_2 : decode cX10_as 2 = .ok (.invokevirtual 125, 3) := by decide +kernel
theorem dX10_as_5 : decode cX10_as 5 = .ok (.ifCond .eq 6, 3) := by decide +kernel
theorem dX10_as_8 : decode cX10_as 8 = .ok (.bipush (-2), 2) := by decide +kernel
theorem dX10_as_10 : decode cX10_as 10 = .ok (.ireturn, 1) := by decide +kernel
theorem dX10_as_11 : decode cX10_as 11 = .ok (.iload_n 2, 1) := by decide +kernel
theorem dX10_as_12 : decode cX10_as 12 = .ok (.iconst 0, 1) := by decide +kernel
theorem dX10_as_13 : decode cX10_as 13 = .ok (.iconst 5, 1) := by decide +kernel
theorem dX10_as_14 : decode cX10_as 14 = .ok (.invokestatic 94, 3) := by decide +kernel
theorem dX10_as_17 : decode cX10_as 17 = .ok (.ifCond .eq 6, 3) := by decide +kernel
theorem dX10_as_20 : decode cX10_as 20 = .ok (.bipush (-3), 2) := by decide +kernel
theorem dX10_as_22 : decode cX10_as 22 = .ok (.ireturn, 1) := by decide +kernel
theorem dX10_as_23 : decode cX10_as 23 = .ok (.getstatic 181, 3) := by decide +kernel
theorem dX10_as_26 : decode cX10_as 26 = .ok (.aload_n 0, 1) := by decide +kernel
theorem dX10_as_27 : decode cX10_as 27 = .ok (.getfield 10, 3) := by decide +kernel
theorem dX10_as_30 : decode cX10_as 30 = .ok (.getfield 128, 3) := by decide +kernel
theorem dX10_as_33 : decode cX10_as 33 = .ok (.iload_n 1, 1) := by decide +kernel
theorem dX10_as_34 : decode cX10_as 34 = .ok (.iaload, 1) := by decide +kernel
theorem dX10_as_35 : decode cX10_as 35 = .ok (.iaload, 1) := by decide +kernel
theorem dX10_as_36 : decode cX10_as 36 = .ok (.iload_n 2, 1) := by decide +kernel
theorem dX10_as_37 : decode cX10_as 37 = .ok (.invokestatic 144, 3) := by decide +kernel
theorem dX10_as_40 : decode cX10_as 40 = .ok (.ifCond .ne 6, 3) := by decide +kernel
theorem dX10_as_43 : decode cX10_as 43 = .ok (.bipush (-4), 2) := by decide +kernel
theorem dX10_as_45 : decode cX10_as 45 = .ok (.ireturn, 1) := by decide +kernel
theorem dX10_as_46 : decode cX10_as 46 = .ok (.iconst 0, 1) := by decide +kernel
theorem dX10_as_47 : decode cX10_as 47 = .ok (.istore_n 3, 1) := by decide +kernel
theorem dX10_as_48 : decode cX10_as 48 = .ok (.iconst 0, 1) := by decide +kernel
theorem dX10_as_49 : decode cX10_as 49 = .ok (.istore 4, 2) := by decide +kernel
theorem dX10_as_51 : decode cX10_as 51 = .ok (.iload 4, 2) := by decide +kernel
theorem dX10_as_53 : decode cX10_as 53 = .ok (.aload_n 0, 1) := by decide +kernel
theorem dX10_as_54 : decode cX10_as 54 = .ok (.getfield 10, 3) := by decide +kernel
theorem dX10_as_57 : decode cX10_as 57 = .ok (.getfield 184, 3) := by decide +kernel
theorem dX10_as_60 : decode cX10_as 60 = .ok (.if_icmp .ge 26, 3) := by decide +kernel
theorem dX10_as_63 : decode cX10_as 63 = .ok (.aload_n 0, 1) := by decide +kernel
theorem dX10_as_64 : decode cX10_as 64 = .ok (.iload_n 1, 1) := by decide +kernel
theorem dX10_as_65 : decode cX10_as 65 = .ok (.iload 4, 2) := by decide +kernel
theorem dX10_as_67 : decode cX10_as 67 = .ok (.invokevirtual 187, 3) := by decide +kernel
theorem dX10_as_70 : decode cX10_as 70 = .ok (.ifCond .eq 10, 3) := by decide +kernel
theorem dX10_as_73 : decode cX10_as 73 = .ok (.iload_n 3, 1) := by decide +kernel
theorem dX10_as_74 : decode cX10_as 74 = .ok (.iconst 1, 1) := by decide +kernel
theorem dX10_as_75 : decode cX10_as 75 = .ok (.iload 4, 2) := by decide +kernel
theorem dX10_as_77 : decode cX10_as 77 = .ok (.ishl, 1) := by decide +kernel
theorem dX10_as_78 : decode cX10_as 78 = .ok (.ior, 1) := by decide +kernel
theorem dX10_as_79 : decode cX10_as 79 = .ok (.istore_n 3, 1) := by decide +kernel
theorem dX10_as_80 : decode cX10_as 80 = .ok (.iinc 4 1, 3) := by decide +kernel
theorem dX10_as_83 : decode cX10_as 83 = .ok (.goto (-32), 3) := by decide +kernel
theorem dX10_as_86 : decode cX10_as 86 = .ok (.iload_n 3, 1) := by decide +kernel
theorem dX10_as_87 : decode cX10_as 87 = .ok (.ireturn, 1) := by decide +kernel
set_option maxRecDepth 20000 in
theorem ggX10_goodAs_X10_isNoGood : GoodIn wsX10_goodAs wsX10_isNoGood := goodIn_r _ [9, 1, 10, 29, 30, 31, 32, 33, 34, 35, 36, 37, 38, 39, 40, 41, 42, 43, 44, 45, 46, 47, 48, 49, 50, 51, 52, 53, 54, 55] (by decide +kernel) (by decide +kernel)
set_option maxRecDepth 20000 in
theorem gX10_goodAs_X10_isNoGood : GoodIn wsX10_goodAs (wsV RX10 169 RX10 yX10_isNoGood wsX10_isNoGood) := goodIn_app (goodIn_of _ (by decide +kernel)) ggX10_goodAs_X10_isNoGood
set_option maxRecDepth 20000 in
theorem ggX10_goodAs_X10_isOutside : GoodIn wsX10_goodAs wsX10_isOutside := goodIn_r _ [13] (by decide +kernel) (by decide +kernel)
set_option maxRecDepth 20000 in
theorem gX10_goodAs_X10_isOutside : GoodIn wsX10_goodAs (va_wsS RX10 94 yX10_isOutside wsX10_isOutside) := goodIn_app (goodIn_of _ (by decide +kernel)) ggX10_goodAs_X10_isOutside
set_option maxRecDepth 20000 in
theorem ggX10_goodAs_X10_bitOf : GoodIn wsX10_goodAs wsX10_bitOf := goodIn_r _ [16] (by decide +kernel) (by decide +kernel)
set_option maxRecDepth 20000 in
theorem gX10_goodAs_X10_bitOf : GoodIn wsX10_goodAs (va_wsS RX10 144 yX10_bitOf wsX10_bitOf) := goodIn_app (goodIn_of _ (by decide +kernel)) ggX10_goodAs_X10_bitOf
set_option maxRecDepth 20000 in
theorem ggX10_goodAs_X8_priceOf : GoodIn wsX10_goodAs wsX8_priceOf := goodIn_r _ [21, 22, 23, 24, 25, 26, 27, 28, 15, 8, 16, 41, 42, 43, 44, 45, 46, 47, 48, 49, 50, 51, 52, 53, 54, 55] (by decide +kernel) (by decide +kernel)
set_option maxRecDepth 20000 in
theorem gX10_goodAs_X8_priceOf : GoodIn wsX10_goodAs (wsV RX10 175 RX8 yX8_priceOf wsX8_priceOf) := goodIn_app (goodIn_of _ (by decide +kernel)) ggX10_goodAs_X8_priceOf
theorem dX10_goodAs_0 : decode cX10_goodAs 0 = .ok (.aload_n 0, 1) := by decide +kernel
theorem dX10_goodAs_1 : decode cX10_goodAs 1 = .ok (.iload_n 1, 1) := by decide +kernel
theorem dX10_goodAs_2 : decode cX10_goodAs 2 = .ok (.invokevirtual 169, 3) := by decide +kernel
theorem dX10_goodAs_5 : decode cX10_goodAs 5 = .ok (.ifCond .eq 6, 3) := by decide +kernel
theorem dX10_goodAs_8 : decode cX10_goodAs 8 = .ok (.bipush (-2), 2) := by decide +kernel
theorem dX10_goodAs_10 : decode cX10_goodAs 10 = .ok (.ireturn, 1) := by decide +kernel
theorem dX10_goodAs_11 : decode cX10_goodAs 11 = .ok (.iload_n 2, 1) := by decide +kernel
theorem dX10_goodAs_12 : decode cX10_goodAs 12 = .ok (.iconst 0, 1) := by decide +kernel
theorem dX10_goodAs_13 : decode cX10_goodAs 13 = .ok (.iconst 2, 1) := by decide +kernel
theorem dX10_goodAs_14 : decode cX10_goodAs 14 = .ok (.invokestatic 94, 3) := by decide +kernel
theorem dX10_goodAs_17 : decode cX10_goodAs 17 = .ok (.ifCond .eq 6, 3) := by decide +kernel
theorem dX10_goodAs_20 : decode cX10_goodAs 20 = .ok (.bipush (-3), 2) := by decide +kernel
theorem dX10_goodAs_22 : decode cX10_goodAs 22 = .ok (.ireturn, 1) := by decide +kernel
theorem dX10_goodAs_23 : decode cX10_goodAs 23 = .ok (.aload_n 0, 1) := by decide +kernel
theorem dX10_goodAs_24 : decode cX10_goodAs 24 = .ok (.getfield 10, 3) := by decide +kernel
theorem dX10_goodAs_27 : decode cX10_goodAs 27 = .ok (.getfield 191, 3) := by decide +kernel
theorem dX10_goodAs_30 : decode cX10_goodAs 30 = .ok (.iload_n 1, 1) := by decide +kernel
theorem dX10_goodAs_31 : decode cX10_goodAs 31 = .ok (.invokestatic 144, 3) := by decide +kernel
theorem dX10_goodAs_34 : decode cX10_goodAs 34 = .ok (.iconst 1, 1) := by decide +kernel
theorem dX10_goodAs_35 : decode cX10_goodAs 35 = .ok (.if_icmp .ne 7, 3) := by decide +kernel
theorem dX10_goodAs_38 : decode cX10_goodAs 38 = .ok (.iconst 1, 1) := by decide +kernel
theorem dX10_goodAs_39 : decode cX10_goodAs 39 = .ok (.goto 4, 3) := by decide +kernel
theorem dX10_goodAs_42 : decode cX10_goodAs 42 = .ok (.iconst 2, 1) := by decide +kernel
theorem dX10_goodAs_43 : decode cX10_goodAs 43 = .ok (.istore_n 3, 1) := by decide +kernel
theorem dX10_goodAs_44 : decode cX10_goodAs 44 = .ok (.iload_n 2, 1) := by decide +kernel
theorem dX10_goodAs_45 : decode cX10_goodAs 45 = .ok (.ifCond .eq 11, 3) := by decide +kernel
theorem dX10_goodAs_48 : decode cX10_goodAs 48 = .ok (.iload_n 2, 1) := by decide +kernel
theorem dX10_goodAs_49 : decode cX10_goodAs 49 = .ok (.iload_n 3, 1) := by decide +kernel
theorem dX10_goodAs_50 : decode cX10_goodAs 50 = .ok (.if_icmp .eq 6, 3) := by decide +kernel
theorem dX10_goodAs_53 : decode cX10_goodAs 53 = .ok (.bipush (-4), 2) := by decide +kernel
theorem dX10_goodAs_55 : decode cX10_goodAs 55 = .ok (.ireturn, 1) := by decide +kernel
theorem dX10_goodAs_56 : decode cX10_goodAs 56 = .ok (.aload_n 0, 1) := by decide +kernel
theorem dX10_goodAs_57 : decode cX10_goodAs 57 = .ok (.getfield 10, 3) := by decide +kernel
theorem dX10_goodAs_60 : decode cX10_goodAs 60 = .ok (.iload_n 1, 1) := by decide +kernel
theorem dX10_goodAs_61 : decode cX10_goodAs 61 = .ok (.aload_n 0, 1) := by decide +kernel
theorem dX10_goodAs_62 : decode cX10_goodAs 62 = .ok (.getfield 26, 3) := by decide +kernel
theorem dX10_goodAs_65 : decode cX10_goodAs 65 = .ok (.getfield 172, 3) := by decide +kernel
theorem dX10_goodAs_68 : decode cX10_goodAs 68 = .ok (.iconst 1, 1) := by decide +kernel
theorem dX10_goodAs_69 : decode cX10_goodAs 69 = .ok (.iadd, 1) := by decide +kernel
theorem dX10_goodAs_70 : decode cX10_goodAs 70 = .ok (.invokevirtual 175, 3) := by decide +kernel
theorem dX10_goodAs_73 : decode cX10_goodAs 73 = .ok (.ireturn, 1) := by decide +kernel
set_option maxRecDepth 20000 in
theorem ggX10_does_X10_isNoOne : GoodIn wsX10_does wsX10_isNoOne := goodIn_r _ [12, 4, 13, 65, 66, 67, 68, 69, 70, 71, 72, 73, 74, 75, 76, 87, 88, 89, 90, 91, 92, 93, 94, 95, 96, 97, 98, 99, 100, 101] (by decide +kernel) (by decide +kernel)
set_option maxRecDepth 20000 in
theorem gX10_does_X10_isNoOne : GoodIn wsX10_does (wsV RX10 125 RX10 yX10_isNoOne wsX10_isNoOne) := goodIn_app (goodIn_of _ (by decide +kernel)) ggX10_does_X10_isNoOne
set_option maxRecDepth 20000 in
theorem ggX10_does_X10_isNoWork : GoodIn wsX10_does wsX10_isNoWork := goodIn_r _ [17, 4, 18, 65, 66, 67, 68, 69, 70, 71, 72, 73, 74, 75, 76, 87, 88, 89, 90, 91, 92, 93, 94, 95, 96, 97, 98, 99, 100, 101] (by decide +kernel) (by decide +kernel)
set_option maxRecDepth 20000 in
theorem gX10_does_X10_isNoWork : GoodIn wsX10_does (wsV RX10 151 RX10 yX10_isNoWork wsX10_isNoWork) := goodIn_app (goodIn_of _ (by decide +kernel)) ggX10_does_X10_isNoWork
set_option maxRecDepth 20000 in
theorem ggX10_does_X10_canDo : GoodIn wsX10_does wsX10_canDo := goodIn_r _ [22, 2, 23, 4, 24, 5, 3, 25, 26, 11, 27, 28, 29, 30, 31, 32, 33, 65, 66, 67, 68, 69, 70, 71, 72, 73, 74, 75, 76, 77, 78, 79, 80, 81, 82, 83, 84, 85, 86, 87, 88, 89, 90, 91, 92, 93, 94, 95, 96, 97, 98, 99, 100, 101] (by decide +kernel) (by decide +kernel)
set_option maxRecDepth 20000 in
theorem gX10_does_X10_canDo : GoodIn wsX10_does (wsV RX10 187 RX10 yX10_canDo wsX10_canDo) := goodIn_app (goodIn_of _ (by decide +kernel)) ggX10_does_X10_canDo
set_option maxRecDepth 20000 in
theorem ggX10_does_X5_remember : GoodIn wsX10_does wsX5_remember := goodIn_r _ [38, 39, 40, 41, 42, 43, 44, 45, 46, 47, 48, 49, 50, 51, 52, 53, 54, 55, 56, 57, 58, 59, 60, 61, 62, 63, 64, 102, 103, 104, 77, 78, 79, 80, 81, 82, 83, 84, 85, 86] (by decide +kernel) (by decide +kernel)
set_option maxRecDepth 20000 in
theorem gX10_does_X5_remember : GoodIn wsX10_does (wsV RX10 194 RX5 yX5_remember wsX5_remember) := goodIn_app (goodIn_of _ (by decide +kernel)) ggX10_does_X5_remember
theorem dX10_does_0 : decode cX10_does 0 = .ok (.aload_n 0, 1) := by decide +kernel
theorem dX10_does_1 : decode cX10_does 1 = .ok (.iload_n 1, 1) := by decide +kernel
theorem dX10_does_2 : decode cX10_does 2 = .ok (.invokevirtual 125, 3) := by decide +kernel
theorem dX10_does_5 : decode cX10_does 5 = .ok (.ifCond .ne 11, 3) := by decide +kernel
theorem dX10_does_8 : decode cX10_does 8 = .ok (.aload_n 0, 1) := by decide +kernel
theorem dX10_does_9 : decode cX10_does 9 = .ok (.iload_n 2, 1) := by decide +kernel
theorem dX10_does_10 : decode cX10_does 10 = .ok (.invokevirtual 151, 3) := by decide +kernel
theorem dX10_does_13 : decode cX10_does 13 = .ok (.ifCond .eq 6, 3) := by decide +kernel
theorem dX10_does_16 : decode cX10_does 16 = .ok (.bipush (-2), 2) := by decide +kernel
theorem dX10_does_18 : decode cX10_does 18 = .ok (.ireturn, 1) := by decide +kernel
theorem dX10_does_19 : decode cX10_does 19 = .ok (.aload_n 0, 1) := by decide +kernel
theorem dX10_does_20 : decode cX10_does 20 = .ok (.iload_n 1, 1) := by decide +kernel
theorem dX10_does_21 : decode cX10_does 21 = .ok (.iload_n 2, 1) := by decide +kernel
theorem dX10_does_22 : decode cX10_does 22 = .ok (.invokevirtual 187, 3) := by decide +kernel
theorem dX10_does_25 : decode cX10_does 25 = .ok (.ifCond .ne 6, 3) := by decide +kernel
theorem dX10_does_28 : decode cX10_does 28 = .ok (.bipush (-4), 2) := by decide +kernel
theorem dX10_does_30 : decode cX10_does 30 = .ok (.ireturn, 1) := by decide +kernel
theorem dX10_does_31 : decode cX10_does 31 = .ok (.aload_n 0, 1) := by decide +kernel
theorem dX10_does_32 : decode cX10_does 32 = .ok (.getfield 33, 3) := by decide +kernel
theorem dX10_does_35 : decode cX10_does 35 = .ok (.aload_n 0, 1) := by decide +kernel
theorem dX10_does_36 : decode cX10_does 36 = .ok (.getfield 26, 3) := by decide +kernel
theorem dX10_does_39 : decode cX10_does 39 = .ok (.invokevirtual 194, 3) := by decide +kernel
theorem dX10_does_42 : decode cX10_does 42 = .ok (.aload_n 0, 1) := by decide +kernel
theorem dX10_does_43 : decode cX10_does 43 = .ok (.getfield 26, 3) := by decide +kernel
theorem dX10_does_46 : decode cX10_does 46 = .ok (.getfield 135, 3) := by decide +kernel
theorem dX10_does_49 : decode cX10_does 49 = .ok (.iload_n 1, 1) := by decide +kernel
theorem dX10_does_50 : decode cX10_does 50 = .ok (.dup2, 1) := by decide +kernel
theorem dX10_does_51 : decode cX10_does 51 = .ok (.iaload, 1) := by decide +kernel
theorem dX10_does_52 : decode cX10_does 52 = .ok (.aload_n 0, 1) := by decide +kernel
theorem dX10_does_53 : decode cX10_does 53 = .ok (.getfield 10, 3) := by decide +kernel
theorem dX10_does_56 : decode cX10_does 56 = .ok (.getfield 157, 3) := by decide +kernel
theorem dX10_does_59 : decode cX10_does 59 = .ok (.iload_n 2, 1) := by decide +kernel
theorem dX10_does_60 : decode cX10_does 60 = .ok (.iaload, 1) := by decide +kernel
theorem dX10_does_61 : decode cX10_does 61 = .ok (.isub, 1) := by decide +kernel
theorem dX10_does_62 : decode cX10_does 62 = .ok (.iastore, 1) := by decide +kernel
theorem dX10_does_63 : decode cX10_does 63 = .ok (.aload_n 0, 1) := by decide +kernel
theorem dX10_does_64 : decode cX10_does 64 = .ok (.getfield 26, 3) := by decide +kernel
theorem dX10_does_67 : decode cX10_does 67 = .ok (.getfield 166, 3) := by decide +kernel
theorem dX10_does_70 : decode cX10_does 70 = .ok (.iload_n 2, 1) := by decide +kernel
theorem dX10_does_71 : decode cX10_does 71 = .ok (.aload_n 0, 1) := by decide +kernel
theorem dX10_does_72 : decode cX10_does 72 = .ok (.getfield 10, 3) := by decide +kernel
theorem dX10_does_75 : decode cX10_does 75 = .ok (.getfield 160, 3) := by decide +kernel
theorem dX10_does_78 : decode cX10_does 78 = .ok (.iload_n 2, 1) := by decide +kernel
theorem dX10_does_79 : decode cX10_does 79 = .ok (.iaload, 1) := by decide +kernel
theorem dX10_does_80 : decode cX10_does 80 = .ok (.iastore, 1) := by decide +kernel
theorem dX10_does_81 : decode cX10_does 81 = .ok (.aload_n 0, 1) := by decide +kernel
theorem dX10_does_82 : decode cX10_does 82 = .ok (.getfield 26, 3) := by decide +kernel
theorem dX10_does_85 : decode cX10_does 85 = .ok (.getfield 135, 3) := by decide +kernel
theorem dX10_does_88 : decode cX10_does 88 = .ok (.iload_n 1, 1) := by decide +kernel
theorem dX10_does_89 : decode cX10_does 89 = .ok (.iaload, 1) := by decide +kernel
theorem dX10_does_90 : decode cX10_does 90 = .ok (.ireturn, 1) := by decide +kernel
set_option maxRecDepth 20000 in
theorem ggX10_marry_X10_isNoOne : GoodIn wsX10_marry wsX10_isNoOne := goodIn_r _ [10, 1, 11, 55, 56, 57, 58, 59, 60, 61, 62, 63, 64, 65, 66, 77, 78, 79, 80, 81, 82, 83, 84, 85, 86, 87, 88, 89, 90, 91] (by decide +kernel) (by decide +kernel)
set_option maxRecDepth 20000 in
theorem gX10_marry_X10_isNoOne : GoodIn wsX10_marry (wsV RX10 125 RX10 yX10_isNoOne wsX10_isNoOne) := goodIn_app (goodIn_of _ (by decide +kernel)) ggX10_marry_X10_isNoOne
set_option maxRecDepth 20000 in
theorem ggX10_marry_X8_likeOneAnother : GoodIn wsX10_marry wsX8_likeOneAnother := goodIn_r _ [16, 17, 18, 9, 19, 77, 78, 79, 80, 81, 82, 83, 84, 85, 86, 87, 88, 89, 90, 91] (by decide +kernel) (by decide +kernel)
set_option maxRecDepth 20000 in
theorem gX10_marry_X8_likeOneAnother : GoodIn wsX10_marry (wsV RX10 198 RX8 yX8_likeOneAnother wsX8_likeOneAnother) := goodIn_app (goodIn_of _ (by decide +kernel)) ggX10_marry_X8_likeOneAnother
set_option maxRecDepth 20000 in
theorem ggX10_marry_X3_isMarried : GoodIn wsX10_marry wsX3_isMarried := goodIn_r _ [24, 25, 67, 68, 69, 70, 71, 72, 73, 74, 75, 76] (by decide +kernel) (by decide +kernel)
set_option maxRecDepth 20000 in
theorem gX10_marry_X3_isMarried : GoodIn wsX10_marry (wsV RX10 201 RX3 yX3_isMarried wsX3_isMarried) := goodIn_app (goodIn_of _ (by decide +kernel)) ggX10_marry_X3_isMarried
set_option maxRecDepth 20000 in
theorem ggX10_marry_X5_remember : GoodIn wsX10_marry wsX5_remember := goodIn_r _ [30, 31, 32, 33, 34, 35, 36, 37, 38, 39, 40, 23, 41, 42, 43, 44, 45, 46, 47, 48, 49, 50, 51, 52, 53, 25, 54, 92, 93, 94, 67, 68, 69, 70, 71, 72, 73, 74, 75, 76] (by decide +kernel) (by decide +kernel)
set_option maxRecDepth 20000 in
theorem gX10_marry_X5_remember : GoodIn wsX10_marry (wsV RX10 194 RX5 yX5_remember wsX5_remember) := goodIn_app (goodIn_of _ (by decide +kernel)) ggX10_marry_X5_remember
theorem dX10_marry_0 : decode cX10_marry 0 = .ok (.aload_n 0, 1) := by decide +kernel
theorem dX10_marry_1 : decode cX10_marry 1 = .ok (.iload_n 1, 1) := by decide +kernel
theorem dX10_marry_2 : decode cX10_marry 2 = .ok (.invokevirtual 125, 3) := by decide +kernel
theorem dX10_marry_5 : decode cX10_marry 5 = .ok (.ifCond .ne 16, 3) := by decide +kernel
theorem dX10_marry_8 : decode cX10_marry 8 = .ok (.aload_n 0, 1) := by decide +kernel
theorem dX10_marry_9 : decode cX10_marry 9 = .ok (.iload_n 2, 1) := by decide +kernel
theorem dX10_marry_10 : decode cX10_marry 10 = .ok (.invokevirtual 125, 3) := by decide +kernel
theorem dX10_marry_13 : decode cX10_marry 13 = .ok (.ifCond .ne 8, 3) := by decide +kernel
theorem dX10_marry_16 : decode cX10_marry 16 = .ok (.iload_n 1, 1) := by decide +kernel
theorem dX10_marry_17 : decode cX10_marry 17 = .ok (.iload_n 2, 1) := by decide +kernel
theorem dX10_marry_18 : decode cX10_marry 18 = .ok (.if_icmp .ne 6, 3) := by decide +kernel
theorem dX10_marry_21 : decode cX10_marry 21 = .ok (.bipush (-2), 2) := by decide +kernel
theorem dX10_marry_23 : decode cX10_marry 23 = .ok (.ireturn, 1) := by decide +kernel
theorem dX10_marry_24 : decode cX10_marry 24 = .ok (.aload_n 0, 1) := by decide +kernel
theorem dX10_marry_25 : decode cX10_marry 25 = .ok (.getfield 10, 3) := by decide +kernel
theorem dX10_marry_28 : decode cX10_marry 28 = .ok (.iload_n 1, 1) := by decide +kernel
theorem dX10_marry_29 : decode cX10_marry 29 = .ok (.iload_n 2, 1) := by decide +kernel
theorem dX10_marry_30 : decode cX10_marry 30 = .ok (.invokevirtual 198, 3) := by decide +kernel
theorem dX10_marry_33 : decode cX10_marry 33 = .ok (.ifCond .eq 25, 3) := by decide +kernel
theorem dX10_marry_36 : decode cX10_marry 36 = .ok (.aload_n 0, 1) := by decide +kernel
theorem dX10_marry_37 : decode cX10_marry 37 = .ok (.getfield 26, 3) := by decide +kernel
theorem dX10_marry_40 : decode cX10_marry 40 = .ok (.iload_n 1, 1) := by decide +kernel
theorem dX10_marry_41 : decode cX10_marry 41 = .ok (.invokevirtual 201, 3) := by decide +kernel
theorem dX10_marry_44 : decode cX10_marry 44 = .ok (.ifCond .ne 14, 3) := by decide +kernel
theorem dX10_marry_47 : decode cX10_marry 47 = .ok (.aload_n 0, 1) := by decide +kernel
theorem dX10_marry_48 : decode cX10_marry 48 = .ok (.getfield 26, 3) := by decide +kernel
theorem dX10_marry_51 : decode cX10_marry 51 = .ok (.iload_n 2, 1) := by decide +kernel
theorem dX10_marry_52 : decode cX10_marry 52 = .ok (.invokevirtual 201, 3) := by decide +kernel
theorem dX10_marry_55 : decode cX10_marry 55 = .ok (.ifCond .eq 6, 3) := by decide +kernel
theorem dX10_marry_58 : decode cX10_marry 58 = .ok (.bipush (-4), 2) := by decide +kernel
theorem dX10_marry_60 : decode cX10_marry 60 = .ok (.ireturn, 1) := by decide +kernel
theorem dX10_marry_61 : decode cX10_marry 61 = .ok (.aload_n 0, 1) := by decide +kernel
theorem dX10_marry_62 : decode cX10_marry 62 = .ok (.getfield 33, 3) := by decide +kernel
theorem dX10_marry_65 : decode cX10_marry 65 = .ok (.aload_n 0, 1) := by decide +kernel
theorem dX10_marry_66 : decode cX10_marry 66 = .ok (.getfield 26, 3) := by decide +kernel
theorem dX10_marry_69 : decode cX10_marry 69 = .ok (.invokevirtual 194, 3) := by decide +kernel
theorem dX10_marry_72 : decode cX10_marry 72 = .ok (.aload_n 0, 1) := by decide +kernel
theorem dX10_marry_73 : decode cX10_marry 73 = .ok (.getfield 26, 3) := by decide +kernel
theorem dX10_marry_76 : decode cX10_marry 76 = .ok (.getfield 138, 3) := by decide +kernel
theorem dX10_marry_79 : decode cX10_marry 79 = .ok (.iload_n 1, 1) := by decide +kernel
theorem dX10_marry_80 : decode cX10_marry 80 = .ok (.iload_n 2, 1) := by decide +kernel
theorem dX10_marry_81 : decode cX10_marry 81 = .ok (.iastore, 1) := by decide +kernel
theorem dX10_marry_82 : decode cX10_marry 82 = .ok (.aload_n 0, 1) := by decide +kernel
theorem dX10_marry_83 : decode cX10_marry 83 = .ok (.getfield 26, 3) := by decide +kernel
theorem dX10_marry_86 : decode cX10_marry 86 = .ok (.getfield 138, 3) := by decide +kernel
theorem dX10_marry_89 : decode cX10_marry 89 = .ok (.iload_n 2, 1) := by decide +kernel
theorem dX10_marry_90 : decode cX10_marry 90 = .ok (.iload_n 1, 1) := by decide +kernel
theorem dX10_marry_91 : decode cX10_marry 91 = .ok (.iastore, 1) := by decide +kernel
theorem dX10_marry_92 : decode cX10_marry 92 = .ok (.aload_n 0, 1) := by decide +kernel
theorem dX10_marry_93 : decode cX10_marry 93 = .ok (.getfield 26, 3) := by decide +kernel
theorem dX10_marry_96 : decode cX10_marry 96 = .ok (.dup, 1) := by decide +kernel
theorem dX10_marry_97 : decode cX10_marry 97 = .ok (.getfield 204, 3) := by decide +kernel
theorem dX10_marry_100 : decode cX10_marry 100 = .ok (.iconst 1, 1) := by decide +kernel
theorem dX10_marry_101 : decode cX10_marry 101 = .ok (.iadd, 1) := by decide +kernel
theorem dX10_marry_102 : decode cX10_marry 102 = .ok (.putfield 204, 3) := by decide +kernel
theorem dX10_marry_105 : decode cX10_marry 105 = .ok (.aload_n 0, 1) := by decide +kernel
theorem dX10_marry_106 : decode cX10_marry 106 = .ok (.getfield 26, 3) := by decide +kernel
theorem dX10_marry_109 : decode cX10_marry 109 = .ok (.getfield 204, 3) := by decide +kernel
theorem dX10_marry_112 : decode cX10_marry 112 = .ok (.ireturn, 1) := by decide +kernel
set_option maxRecDepth 20000 in
theorem ggX10_sell_X10_isNoGood : GoodIn wsX10_sell wsX10_isNoGood := goodIn_r _ [11, 4, 12, 58, 59, 60, 61, 62, 63, 64, 65, 66, 67, 68, 69, 80, 81, 82, 83, 84, 85, 86, 87, 88, 89, 90, 91, 92, 93, 94] (by decide +kernel) (by decide +kernel)
set_option maxRecDepth 20000 in
theorem gX10_sell_X10_isNoGood : GoodIn wsX10_sell (wsV RX10 169 RX10 yX10_isNoGood wsX10_isNoGood) := goodIn_app (goodIn_of _ (by decide +kernel)) ggX10_sell_X10_isNoGood
set_option maxRecDepth 20000 in
theorem ggX10_sell_X10_bitOf : GoodIn wsX10_sell wsX10_bitOf := goodIn_r _ [15] (by decide +kernel) (by decide +kernel)
set_option maxRecDepth 20000 in
theorem gX10_sell_X10_bitOf : GoodIn wsX10_sell (va_wsS RX10 144 yX10_bitOf wsX10_bitOf) := goodIn_app (goodIn_of _ (by decide +kernel)) ggX10_sell_X10_bitOf
set_option maxRecDepth 20000 in
theorem ggX10_sell_X5_remember : GoodIn wsX10_sell wsX5_remember := goodIn_r _ [20, 21, 22, 23, 24, 25, 26, 27, 28, 29, 30, 31, 32, 33, 34, 35, 36, 37, 38, 39, 40, 41, 42, 43, 44, 45, 46, 95, 96, 97, 70, 71, 72, 73, 74, 75, 76, 77, 78, 79] (by decide +kernel) (by decide +kernel)
set_option maxRecDepth 20000 in
theorem gX10_sell_X5_remember : GoodIn wsX10_sell (wsV RX10 194 RX5 yX5_remember wsX5_remember) := goodIn_app (goodIn_of _ (by decide +kernel)) ggX10_sell_X5_remember
set_option maxRecDepth 20000 in
theorem ggX10_sell_X8_priceOf : GoodIn wsX10_sell wsX8_priceOf := goodIn_r _ [51, 52, 53, 54, 55, 56, 26, 57, 14, 10, 15, 80, 81, 82, 83, 84, 85, 86, 87, 88, 89, 90, 91, 92, 93, 94] (by decide +kernel) (by decide +kernel)
set_option maxRecDepth 20000 in
theorem gX10_sell_X8_priceOf : GoodIn wsX10_sell (wsV RX10 175 RX8 yX8_priceOf wsX8_priceOf) := goodIn_app (goodIn_of _ (by decide +kernel)) ggX10_sell_X8_priceOf
theorem dX10_sell_0 : decode cX10_sell 0 = .ok (.aload_n 0, 1) := by decide +kernel
theorem dX10_sell_1 : decode cX10_sell 1 = .ok (.iload_n 1, 1) := by decide +kernel
theorem dX10_sell_2 : decode cX10_sell 2 = .ok (.invokevirtual 169, 3) := by decide +kernel
theorem dX10_sell_5 : decode cX10_sell 5 = .ok (.ifCond .eq 6, 3) := by decide +kernel
theorem dX10_sell_8 : decode cX10_sell 8 = .ok (.bipush (-2), 2) := by decide +kernel
theorem dX10_sell_10 : decode cX10_sell 10 = .ok (.ireturn, 1) := by decide +kernel
theorem dX10_sell_11 : decode cX10_sell 11 = .ok (.aload_n 0, 1) := by decide +kernel
theorem dX10_sell_12 : decode cX10_sell 12 = .ok (.getfield 26, 3) := by decide +kernel
theorem dX10_sell_15 : decode cX10_sell 15 = .ok (.getfield 178, 3) := by decide +kernel
theorem dX10_sell_18 : decode cX10_sell 18 = .ok (.iload_n 1, 1) := by decide +kernel
theorem dX10_sell_19 : decode cX10_sell 19 = .ok (.invokestatic 144, 3) := by decide +kernel
theorem dX10_sell_22 : decode cX10_sell 22 = .ok (.iconst 1, 1) := by decide +kernel
theorem dX10_sell_23 : decode cX10_sell 23 = .ok (.if_icmp .ne 6, 3) := by decide +kernel
theorem dX10_sell_26 : decode cX10_sell 26 = .ok (.bipush (-4), 2) := by decide +kernel
theorem dX10_sell_28 : decode cX10_sell 28 = .ok (.ireturn, 1) := by decide +kernel
theorem dX10_sell_29 : decode cX10_sell 29 = .ok (.aload_n 0, 1) := by decide +kernel
theorem dX10_sell_30 : decode cX10_sell 30 = .ok (.getfield 33, 3) := by decide +kernel
theorem dX10_sell_33 : decode cX10_sell 33 = .ok (.aload_n 0, 1) := by decide +kernel
theorem dX10_sell_34 : decode cX10_sell 34 = .ok (.getfield 26, 3) := by decide +kernel
theorem dX10_sell_37 : decode cX10_sell 37 = .ok (.invokevirtual 194, 3) := by decide +kernel
theorem dX10_sell_40 : decode cX10_sell 40 = .ok (.aload_n 0, 1) := by decide +kernel
theorem dX10_sell_41 : decode cX10_sell 41 = .ok (.getfield 10, 3) := by decide +kernel
theorem dX10_sell_44 : decode cX10_sell 44 = .ok (.iload_n 1, 1) := by decide +kernel
theorem dX10_sell_45 : decode cX10_sell 45 = .ok (.aload_n 0, 1) := by decide +kernel
theorem dX10_sell_46 : decode cX10_sell 46 = .ok (.getfield 26, 3) := by decide +kernel
theorem dX10_sell_49 : decode cX10_sell 49 = .ok (.getfield 172, 3) := by decide +kernel
theorem dX10_sell_52 : decode cX10_sell 52 = .ok (.invokevirtual 175, 3) := by decide +kernel
theorem dX10_sell_55 : decode cX10_sell 55 = .ok (.istore_n 2, 1) := by decide +kernel
theorem dX10_sell_56 : decode cX10_sell 56 = .ok (.aload_n 0, 1) := by decide +kernel
theorem dX10_sell_57 : decode cX10_sell 57 = .ok (.getfield 26, 3) := by decide +kernel
theorem dX10_sell_60 : decode cX10_sell 60 = .ok (.dup, 1) := by decide +kernel
theorem dX10_sell_61 : decode cX10_sell 61 = .ok (.getfield 178, 3) := by decide +kernel
theorem dX10_sell_64 : decode cX10_sell 64 = .ok (.iconst 1, 1) := by decide +kernel
theorem dX10_sell_65 : decode cX10_sell 65 = .ok (.iload_n 1, 1) := by decide +kernel
theorem dX10_sell_66 : decode cX10_sell 66 = .ok (.ishl, 1) := by decide +kernel
theorem dX10_sell_67 : decode cX10_sell 67 = .ok (.ior, 1) := by decide +kernel
theorem dX10_sell_68 : decode cX10_sell 68 = .ok (.putfield 178, 3) := by decide +kernel
theorem dX10_sell_71 : decode cX10_sell 71 = .ok (.aload_n 0, 1) := by decide +kernel
theorem dX10_sell_72 : decode cX10_sell 72 = .ok (.getfield 26, 3) := by decide +kernel
theorem dX10_sell_75 : decode cX10_sell 75 = .ok (.dup, 1) := by decide +kernel
theorem dX10_sell_76 : decode cX10_sell 76 = .ok (.getfield 207, 3) := by decide +kernel
theorem dX10_sell_79 : decode cX10_sell 79 = .ok (.iload_n 2, 1) := by decide +kernel
theorem dX10_sell_80 : decode cX10_sell 80 = .ok (.iadd, 1) := by decide +kernel
theorem dX10_sell_81 : decode cX10_sell 81 = .ok (.putfield 207, 3) := by decide +kernel
theorem dX10_sell_84 : decode cX10_sell 84 = .ok (.iload_n 2, 1) := by decide +kernel
theorem dX10_sell_85 : decode cX10_sell 85 = .ok (.ireturn, 1) := by decide +kernel
set_option maxRecDepth 20000 in
theorem ggX10_oversleep_X10_isNoOne : GoodIn wsX10_oversleep wsX10_isNoOne := goodIn_r _ [8, 9, 10, 48, 49, 50, 51, 52, 53, 54, 55, 56, 57, 58, 59, 70, 71, 72, 73, 74, 75, 76, 77, 78, 79, 80, 81, 82, 83, 84] (by decide +kernel) (by decide +kernel)
set_option maxRecDepth 20000 in
theorem gX10_oversleep_X10_isNoOne : GoodIn wsX10_oversleep (wsV RX10 125 RX10 yX10_isNoOne wsX10_isNoOne) := goodIn_app (goodIn_of _ (by decide +kernel)) ggX10_oversleep_X10_isNoOne
set_option maxRecDepth 20000 in
theorem ggX10_oversleep_X10_isOutside : GoodIn wsX10_oversleep wsX10_isOutside := goodIn_r _ [13] (by decide +kernel) (by decide +kernel)
set_option maxRecDepth 20000 in
theorem gX10_oversleep_X10_isOutside : GoodIn wsX10_oversleep (va_wsS RX10 94 yX10_isOutside wsX10_isOutside) := goodIn_app (goodIn_of _ (by decide +kernel)) ggX10_oversleep_X10_isOutside
set_option maxRecDepth 20000 in
theorem ggX10_oversleep_X5_remember : GoodIn wsX10_oversleep wsX5_remember := goodIn_r _ [18, 19, 20, 21, 22, 23, 24, 25, 26, 27, 28, 29, 30, 31, 32, 33, 34, 35, 36, 37, 38, 39, 40, 41, 42, 43, 44, 85, 86, 87, 60, 61, 62, 63, 64, 65, 66, 67, 68, 69] (by decide +kernel) (by decide +kernel)
set_option maxRecDepth 20000 in
theorem gX10_oversleep_X5_remember : GoodIn wsX10_oversleep (wsV RX10 194 RX5 yX5_remember wsX5_remember) := goodIn_app (goodIn_of _ (by decide +kernel)) ggX10_oversleep_X5_remember
set_option maxRecDepth 20000 in
theorem ggX10_oversleep_X10_bitOf : GoodIn wsX10_oversleep wsX10_bitOf := goodIn_r _ [47] (by decide +kernel) (by decide +kernel)
set_option maxRecDepth 20000 in
theorem gX10_oversleep_X10_bitOf : GoodIn wsX10_oversleep (va_wsS RX10 144 yX10_bitOf wsX10_bitOf) := goodIn_app (goodIn_of _ (by decide +kernel)) ggX10_oversleep_X10_bitOf
theorem dX10_oversleep_0 : decode cX10_oversleep 0 = .ok (.aload_n 0, 1) := by decide +kernel
theorem dX10_oversleep_1 : decode cX10_oversleep 1 = .ok (.iload_n 1, 1) := by decide +kernel
theorem dX10_oversleep_2 : decode cX10_oversleep 2 = .ok (.invokevirtual 125, 3) := by decide +kernel
theorem dX10_oversleep_5 : decode cX10_oversleep 5 = .ok (.ifCond .eq 6, 3) := by decide +kernel
theorem dX10_oversleep_8 : decode cX10_oversleep 8 = .ok (.bipush (-2), 2) := by decide +kernel
theorem dX10_oversleep_10 : decode cX10_oversleep 10 = .ok (.ireturn, 1) := by decide +kernel
theorem dX10_oversleep_11 : decode cX10_oversleep 11 = .ok (.iload_n 2, 1) := by decide +kernel
theorem dX10_oversleep_12 : decode cX10_oversleep 12 = .ok (.iconst 0, 1) := by decide +kernel
theorem dX10_oversleep_13 : decode cX10_oversleep 13 = .ok (.iconst 1, 1) := by decide +kernel
theorem dX10_oversleep_14 : decode cX10_oversleep 14 = .ok (.invokestatic 94, 3) := by decide +kernel
theorem dX10_oversleep_17 : decode cX10_oversleep 17 = .ok (.ifCond .eq 6, 3) := by decide +kernel
theorem dX10_oversleep_20 : decode cX10_oversleep 20 = .ok (.bipush (-3), 2) := by decide +kernel
theorem dX10_oversleep_22 : decode cX10_oversleep 22 = .ok (.ireturn, 1) := by decide +kernel
theorem dX10_oversleep_23 : decode cX10_oversleep 23 = .ok (.aload_n 0, 1) := by decide +kernel
theorem dX10_oversleep_24 : decode cX10_oversleep 24 = .ok (.getfield 33, 3) := by decide +kernel
theorem dX10_oversleep_27 : decode cX10_oversleep 27 = .ok (.aload_n 0, 1) := by decide +kernel
theorem dX10_oversleep_28 : decode cX10_oversleep 28 = .ok (.getfield 26, 3) := by decide +kernel
theorem dX10_oversleep_31 : decode cX10_oversleep 31 = .ok (.invokevirtual 194, 3) := by decide +kernel
theorem dX10_oversleep_34 : decode cX10_oversleep 34 = .ok (.aload_n 0, 1) := by decide +kernel
theorem dX10_oversleep_35 : decode cX10_oversleep 35 = .ok (.getfield 26, 3) := by decide +kernel
theorem dX10_oversleep_38 : decode cX10_oversleep 38 = .ok (.getfield 148, 3) := by decide +kernel
theorem dX10_oversleep_41 : decode cX10_oversleep 41 = .ok (.iload_n 1, 1) := by decide +kernel
theorem dX10_oversleep_42 : decode cX10_oversleep 42 = .ok (.invokestatic 144, 3) := by decide +kernel
theorem dX10_oversleep_45 : decode cX10_oversleep 45 = .ok (.istore_n 3, 1) := by decide +kernel
theorem dX10_oversleep_46 : decode cX10_oversleep 46 = .ok (.aload_n 0, 1) := by decide +kernel
theorem dX10_oversleep_47 : decode cX10_oversleep 47 = .ok (.getfield 26, 3) := by decide +kernel
theorem dX10_oversleep_50 : decode cX10_oversleep 50 = .ok (.aload_n 0, 1) := by decide +kernel
theorem dX10_oversleep_51 : decode cX10_oversleep 51 = .ok (.getfield 26, 3) := by decide +kernel
theorem dX10_oversleep_54 : decode cX10_oversleep 54 = .ok (.getfield 148, 3) := by decide +kernel
theorem dX10_oversleep_57 : decode cX10_oversleep 57 = .ok (.iconst 1, 1) := by decide +kernel
theorem dX10_oversleep_58 : decode cX10_oversleep 58 = .ok (.iload_n 1, 1) := by decide +kernel
theorem dX10_oversleep_59 : decode cX10_oversleep 59 = .ok (.ishl, 1) := by decide +kernel
theorem dX10_oversleep_60 : decode cX10_oversleep 60 = .ok (.iconst (-1), 1) := by decide +kernel
theorem dX10_oversleep_61 : decode cX10_oversleep 61 = .ok (.ixor, 1) := by decide +kernel
theorem dX10_oversleep_62 : decode cX10_oversleep 62 = .ok (.iand, 1) := by decide +kernel
theorem dX10_oversleep_63 : decode cX10_oversleep 63 = .ok (.iload_n 2, 1) := by decide +kernel
theorem dX10_oversleep_64 : decode cX10_oversleep 64 = .ok (.iload_n 1, 1) := by decide +kernel
theorem dX10_oversleep_65 : decode cX10_oversleep 65 = .ok (.ishl, 1) := by decide +kernel
theorem dX10_oversleep_66 : decode cX10_oversleep 66 = .ok (.ior, 1) := by decide +kernel
theorem dX10_oversleep_67 : decode cX10_oversleep 67 = .ok (.putfield 148, 3) := by decide +kernel
theorem dX10_oversleep_70 : decode cX10_oversleep 70 = .ok (.iload_n 3, 1) := by decide +kernel
theorem dX10_oversleep_71 : decode cX10_oversleep 71 = .ok (.ireturn, 1) := by decide +kernel
set_option maxRecDepth 20000 in
theorem ggX10_sleep_X10_isOutside : GoodIn wsX10_sleep wsX10_isOutside := goodIn_r _ [8] (by decide +kernel) (by decide +kernel)
set_option maxRecDepth 20000 in
theorem gX10_sleep_X10_isOutside : GoodIn wsX10_sleep (va_wsS RX10 94 yX10_isOutside wsX10_isOutside) := goodIn_app (goodIn_of _ (by decide +kernel)) ggX10_sleep_X10_isOutside
set_option maxRecDepth 20000 in
theorem ggX10_sleep_X5_remember : GoodIn wsX10_sleep wsX5_remember := goodIn_r _ [13, 14, 15, 16, 17, 18, 19, 20, 21, 22, 23, 24, 25, 26, 27, 28, 29, 30, 31, 32, 33, 34, 35, 36, 37, 38, 39, 86, 87, 88, 76, 77, 78, 79, 80, 81, 82, 83, 84, 85] (by decide +kernel) (by decide +kernel)
set_option maxRecDepth 20000 in
theorem gX10_sleep_X5_remember : GoodIn wsX10_sleep (wsV RX10 194 RX5 yX5_remember wsX5_remember) := goodIn_app (goodIn_of _ (by decide +kernel)) ggX10_sleep_X5_remember
set_option maxRecDepth 20000 in
theorem ggX10_sleep_X3_letCenturyGo : GoodIn wsX10_sleep wsX3_letCenturyGo := goodIn_r _ [43, 26, 44, 45, 27, 46, 31, 30, 33, 47, 48, 49, 50, 51, 52, 53, 54, 55, 24, 56, 39, 57, 58, 19, 59, 60, 61, 62, 63, 76, 77, 78, 79, 80, 81, 82, 83, 84, 85, 89, 90, 91, 92, 93, 94, 95, 96, 97, 98, 99, 100, 101, 102, 103] (by decide +kernel) (by decide +kernel)
set_option maxRecDepth 20000 in
theorem gX10_sleep_X3_letCenturyGo : GoodIn wsX10_sleep (wsV RX10 210 RX3 yX3_letCenturyGo wsX3_letCenturyGo) := goodIn_app (goodIn_of _ (by decide +kernel)) ggX10_sleep_X3_letCenturyGo
theorem dX10_sleep_0 : decode cX10_sleep 0 = .ok (.iload_n 1, 1) := by decide +kernel
theorem dX10_sleep_1 : decode cX10_sleep 1 = .ok (.iconst 0, 1) := by decide +kernel
theorem dX10_sleep_2 : decode cX10_sleep 2 = .ok (.sipush 9999, 3) := by decide +kernel
theorem dX10_sleep_5 : decode cX10_sleep 5 = .ok (.invokestatic 94, 3) := by decide +kernel
theorem dX10_sleep_8 : decode cX10_sleep 8 = .ok (.ifCond .eq 6, 3) := by decide +kernel
theorem dX10_sleep_11 : decode cX10_sleep 11 = .ok (.bipush (-3), 2) := by decide +kernel
theorem dX10_sleep_13 : decode cX10_sleep 13 = .ok (.ireturn, 1) := by decide +kernel
theorem dX10_sleep_14 : decode cX10_sleep 14 = .ok (.aload_n 0, 1) := by decide +kernel
theorem dX10_sleep_15 : decode cX10_sleep 15 = .ok (.getfield 26, 3) := by decide +kernel
theorem dX10_sleep_18 : decode cX10_sleep 18 = .ok (.getfield 172, 3) := by decide +kernel
theorem dX10_sleep_21 : decode cX10_sleep 21 = .ok (.sipush 999, 3) := by decide +kernel
theorem dX10_sleep_24 : decode cX10_sleep 24 = .ok (.if_icmp .lt 6, 3) := by decide +kernel
theorem dX10_sleep_27 : decode cX10_sleep 27 = .ok (.bipush (-5), 2) := by decide +kernel
theorem dX10_sleep_29 : decode cX10_sleep 29 = .ok (.ireturn, 1) := by decide +kernel
theorem dX10_sleep_30 : decode cX10_sleep 30 = .ok (.aload_n 0, 1) := by decide +kernel
theorem dX10_sleep_31 : decode cX10_sleep 31 = .ok (.getfield 33, 3) := by decide +kernel
theorem dX10_sleep_34 : decode cX10_sleep 34 = .ok (.aload_n 0, 1) := by decide +kernel
theorem dX10_sleep_35 : decode cX10_sleep 35 = .ok (.getfield 26, 3) := by decide +kernel
theorem dX10_sleep_38 : decode cX10_sleep 38 = .ok (.invokevirtual 194, 3) := by decide +kernel
theorem dX10_sleep_41 : decode cX10_sleep 41 = .ok (.aload_n 0, 1) := by decide +kernel
theorem dX10_sleep_42 : decode cX10_sleep 42 = .ok (.getfield 26, 3) := by decide +kernel
theorem dX10_sleep_45 : decode cX10_sleep 45 = .ok (.aload_n 0, 1) := by decide +kernel
theorem dX10_sleep_46 : decode cX10_sleep 46 = .ok (.getfield 10, 3) := by decide +kernel
theorem dX10_sleep_49 : decode cX10_sleep 49 = .ok (.iload_n 1, 1) := by decide +kernel
theorem dX10_sleep_50 : decode cX10_sleep 50 = .ok (.invokevirtual 210, 3) := by decide +kernel
theorem dX10_sleep_53 : decode cX10_sleep 53 = .ok (.ireturn, 1) := by decide +kernel
set_option maxRecDepth 20000 in
theorem ggX10_undo_X5_recall : GoodIn wsX10_undo wsX5_recall := goodIn_r _ [8, 9, 10, 11, 12, 13, 14, 15, 16, 17, 18, 19, 20, 21, 22, 23, 24, 25, 26, 27, 28, 29, 30, 31, 32, 33, 34, 47, 48, 49, 50, 51, 52, 53, 54, 55, 56, 57, 58, 59] (by decide +kernel) (by decide +kernel)
set_option maxRecDepth 20000 in
theorem gX10_undo_X5_recall : GoodIn wsX10_undo (wsV RX10 214 RX5 yX5_recall wsX5_recall) := goodIn_app (goodIn_of _ (by decide +kernel)) ggX10_undo_X5_recall
theorem dX10_undo_0 : decode cX10_undo 0 = .ok (.aload_n 0, 1) := by decide +kernel
theorem dX10_undo_1 : decode cX10_undo 1 = .ok (.getfield 33, 3) := by decide +kernel
theorem dX10_undo_4 : decode cX10_undo 4 = .ok (.getfield 116, 3) := by decide +kernel
theorem dX10_undo_7 : decode cX10_undo 7 = .ok (.ifCond .ne 6, 3) := by decide +kernel
theorem dX10_undo_10 : decode cX10_undo 10 = .ok (.bipush (-4), 2) := by decide +kernel
theorem dX10_undo_12 : decode cX10_undo 12 = .ok (.ireturn, 1) := by decide +kernel
theorem dX10_undo_13 : decode cX10_undo 13 = .ok (.aload_n 0, 1) := by decide +kernel
theorem dX10_undo_14 : decode cX10_undo 14 = .ok (.getfield 33, 3) := by decide +kernel
theorem dX10_undo_17 : decode cX10_undo 17 = .ok (.aload_n 0, 1) := by decide +kernel
theorem dX10_undo_18 : decode cX10_undo 18 = .ok (.getfield 26, 3) := by decide +kernel
theorem dX10_undo_21 : decode cX10_undo 21 = .ok (.invokevirtual 214, 3) := by decide +kernel
theorem dX10_undo_24 : decode cX10_undo 24 = .ok (.aload_n 0, 1) := by decide +kernel
theorem dX10_undo_25 : decode cX10_undo 25 = .ok (.getfield 33, 3) := by decide +kernel
theorem dX10_undo_28 : decode cX10_undo 28 = .ok (.getfield 116, 3) := by decide +kernel
theorem dX10_undo_31 : decode cX10_undo 31 = .ok (.ireturn, 1) := by decide +kernel
set_option maxRecDepth 20000 in
theorem ggX10_keep_X10_isOutside : GoodIn wsX10_keep wsX10_isOutside := goodIn_r _ [8] (by decide +kernel) (by decide +kernel)
set_option maxRecDepth 20000 in
theorem gX10_keep_X10_isOutside : GoodIn wsX10_keep (va_wsS RX10 94 yX10_isOutside wsX10_isOutside) := goodIn_app (goodIn_of _ (by decide +kernel)) ggX10_keep_X10_isOutside
set_option maxRecDepth 20000 in
theorem ggX10_keep_X3_copyFrom : GoodIn wsX10_keep wsX3_copyFrom := goodIn_r _ [13, 14, 15, 16, 17, 18, 19, 20, 21, 22, 23, 24, 25, 26, 27, 40, 41, 42, 43, 44, 45, 46, 47, 48, 49] (by decide +kernel) (by decide +kernel)
set_option maxRecDepth 20000 in
theorem gX10_keep_X3_copyFrom : GoodIn wsX10_keep (wsV RX10 217 RX3 yX3_copyFrom wsX3_copyFrom) := goodIn_app (goodIn_of _ (by decide +kernel)) ggX10_keep_X3_copyFrom
theorem dX10_keep_0 : decode cX10_keep 0 = .ok (.iload_n 1, 1) := by decide +kernel
theorem dX10_keep_1 : decode cX10_keep 1 = .ok (.iconst 0, 1) := by decide +kernel
theorem dX10_keep_2 : decode cX10_keep 2 = .ok (.iconst 1, 1) := by decide +kernel
theorem dX10_keep_3 : decode cX10_keep 3 = .ok (.invokestatic 94, 3) := by decide +kernel
theorem dX10_keep_6 : decode cX10_keep 6 = .ok (.ifCond .eq 6, 3) := by decide +kernel
theorem dX10_keep_9 : decode cX10_keep 9 = .ok (.bipush (-2), 2) := by decide +kernel
theorem dX10_keep_11 : decode cX10_keep 11 = .ok (.ireturn, 1) := by decide +kernel
theorem dX10_keep_12 : decode cX10_keep 12 = .ok (.aload_n 0, 1) := by decide +kernel
theorem dX10_keep_13 : decode cX10_keep 13 = .ok (.getfield 37, 3) := by decide +kernel
theorem dX10_keep_16 : decode cX10_keep 16 = .ok (.iload_n 1, 1) := by decide +kernel
theorem dX10_keep_17 : decode cX10_keep 17 = .ok (.aaload, 1) := by decide +kernel
theorem dX10_keep_18 : decode cX10_keep 18 = .ok (.aload_n 0, 1) := by decide +kernel
theorem dX10_keep_19 : decode cX10_keep 19 = .ok (.getfield 26, 3) := by decide +kernel
theorem dX10_keep_22 : decode cX10_keep 22 = .ok (.invokevirtual 217, 3) := by decide +kernel
theorem dX10_keep_25 : decode cX10_keep 25 = .ok (.aload_n 0, 1) := by decide +kernel
theorem dX10_keep_26 : decode cX10_keep 26 = .ok (.dup, 1) := by decide +kernel
theorem dX10_keep_27 : decode cX10_keep 27 = .ok (.getfield 83, 3) := by decide +kernel
theorem dX10_keep_30 : decode cX10_keep 30 = .ok (.iconst 1, 1) := by decide +kernel
theorem dX10_keep_31 : decode cX10_keep 31 = .ok (.iload_n 1, 1) := by decide +kernel
theorem dX10_keep_32 : decode cX10_keep 32 = .ok (.ishl, 1) := by decide +kernel
theorem dX10_keep_33 : decode cX10_keep 33 = .ok (.ior, 1) := by decide +kernel
theorem dX10_keep_34 : decode cX10_keep 34 = .ok (.putfield 83, 3) := by decide +kernel
theorem dX10_keep_37 : decode cX10_keep 37 = .ok (.aload_n 0, 1) := by decide +kernel
theorem dX10_keep_38 : decode cX10_keep 38 = .ok (.getfield 26, 3) := by decide +kernel
theorem dX10_keep_41 : decode cX10_keep 41 = .ok (.getfield 172, 3) := by decide +kernel
theorem dX10_keep_44 : decode cX10_keep 44 = .ok (.ireturn, 1) := by decide +kernel
set_option maxRecDepth 20000 in
theorem ggX10_back_X10_isOutside : GoodIn wsX10_back wsX10_isOutside := goodIn_r _ [10] (by decide +kernel) (by decide +kernel)
set_option maxRecDepth 20000 in
theorem gX10_back_X10_isOutside : GoodIn wsX10_back (va_wsS RX10 94 yX10_isOutside wsX10_isOutside) := goodIn_app (goodIn_of _ (by decide +kernel)) ggX10_back_X10_isOutside
set_option maxRecDepth 20000 in
theorem ggX10_back_X10_bitOf : GoodIn wsX10_back wsX10_bitOf := goodIn_r _ [13] (by decide +kernel) (by decide +kernel)
set_option maxRecDepth 20000 in
theorem gX10_back_X10_bitOf : GoodIn wsX10_back (va_wsS RX10 144 yX10_bitOf wsX10_bitOf) := goodIn_app (goodIn_of _ (by decide +kernel)) ggX10_back_X10_bitOf
set_option maxRecDepth 20000 in
theorem ggX10_back_X3_copyFrom : GoodIn wsX10_back wsX3_copyFrom := goodIn_r _ [18, 19, 20, 21, 22, 23, 24, 25, 26, 27, 28, 29, 30, 31, 32, 48, 49, 50, 51, 52, 53, 54, 55, 56, 57] (by decide +kernel) (by decide +kernel)
set_option maxRecDepth 20000 in
theorem gX10_back_X3_copyFrom : GoodIn wsX10_back (wsV RX10 217 RX3 yX3_copyFrom wsX3_copyFrom) := goodIn_app (goodIn_of _ (by decide +kernel)) ggX10_back_X3_copyFrom
theorem dX10_back_0 : decode cX10_back 0 = .ok (.iload_n 1, 1) := by decide +kernel
theorem dX10_back_1 : decode cX10_back 1 = .ok (.iconst 0, 1) := by decide +kernel
theorem dX10_back_2 : decode cX10_back 2 = .ok (.iconst 1, 1) := by decide +kernel
theorem dX10_back_3 : decode cX10_back 3 = .ok (.invokestatic 94, 3) := by decide +kernel
theorem dX10_back_6 : decode cX10_back 6 = .ok (.ifCond .eq 6, 3) := by decide +kernel
theorem dX10_back_9 : decode cX10_back 9 = .ok (.bipush (-2), 2) := by decide +kernel
theorem dX10_back_11 : decode cX10_back 11 = .ok (.ireturn, 1) := by decide +kernel
theorem dX10_back_12 : decode cX10_back 12 = .ok (.aload_n 0, 1) := by decide +kernel
theorem dX10_back_13 : decode cX10_back 13 = .ok (.getfield 83, 3) := by decide +kernel
theorem dX10_back_16 : decode cX10_back 16 = .ok (.iload_n 1, 1) := by decide +kernel
theorem dX10_back_17 : decode cX10_back 17 = .ok (.invokestatic 144, 3) := by decide +kernel
theorem dX10_back_20 : decode cX10_back 20 = .ok (.ifCond .ne 6, 3) := by decide +kernel
theorem dX10_back_23 : decode cX10_back 23 = .ok (.bipush (-4), 2) := by decide +kernel
theorem dX10_back_25 : decode cX10_back 25 = .ok (.ireturn, 1) := by decide +kernel
theorem dX10_back_26 : decode cX10_back 26 = .ok (.aload_n 0, 1) := by decide +kernel
theorem dX10_back_27 : decode cX10_back 27 = .ok (.getfield 26, 3) := by decide +kernel
theorem dX10_back_30 : decode cX10_back 30 = .ok (.aload_n 0, 1) := by decide +kernel
theorem dX10_back_31 : decode cX10_back 31 = .ok (.getfield 37, 3) := by decide +kernel
theorem dX10_back_34 : decode cX10_back 34 = .ok (.iload_n 1, 1) := by decide +kernel
theorem dX10_back_35 : decode cX10_back 35 = .ok (.aaload, 1) := by decide +kernel
theorem dX10_back_36 : decode cX10_back 36 = .ok (.invokevirtual 217, 3) := by decide +kernel
theorem dX10_back_39 : decode cX10_back 39 = .ok (.aload_n 0, 1) := by decide +kernel
theorem dX10_back_40 : decode cX10_back 40 = .ok (.getfield 33, 3) := by decide +kernel
theorem dX10_back_43 : decode cX10_back 43 = .ok (.iconst 0, 1) := by decide +kernel
theorem dX10_back_44 : decode cX10_back 44 = .ok (.putfield 116, 3) := by decide +kernel
theorem dX10_back_47 : decode cX10_back 47 = .ok (.aload_n 0, 1) := by decide +kernel
theorem dX10_back_48 : decode cX10_back 48 = .ok (.getfield 26, 3) := by decide +kernel
theorem dX10_back_51 : decode cX10_back 51 = .ok (.getfield 172, 3) := by decide +kernel
theorem dX10_back_54 : decode cX10_back 54 = .ok (.ireturn, 1) := by decide +kernel
set_option maxRecDepth 20000 in
theorem ggX10_plan_X6_takeUp : GoodIn wsX10_plan wsX6_takeUp := goodIn_r _ [9, 10, 11, 12, 13, 14, 15, 16, 17, 18, 19, 20, 21, 22, 23, 24, 25, 26, 27, 28, 29, 30, 31, 32, 33, 8, 34, 35, 36, 37, 38, 39, 83, 84, 85, 86, 87, 88, 89, 90, 91, 92, 93, 94, 95, 96, 97, 73, 74, 75, 76, 77, 78, 79, 80, 81, 82, 98, 99, 100, 101, 102, 103, 104, 105, 106, 107] (by decide +kernel) (by decide +kernel)
set_option maxRecDepth 20000 in
theorem gX10_plan_X6_takeUp : GoodIn wsX10_plan (wsV RX10 219 RX6 yX6_takeUp wsX6_takeUp) := goodIn_app (goodIn_of _ (by decide +kernel)) ggX10_plan_X6_takeUp
set_option maxRecDepth 20000 in
theorem ggX10_plan_X6_mostFrom : GoodIn wsX10_plan wsX6_mostFrom := goodIn_r _ [43, 13, 44, 45, 46, 47, 48, 11, 16, 49, 50, 51, 52, 53, 54, 55, 8, 56, 39, 57, 58, 59, 60, 35, 37, 15, 73, 74, 75, 76, 77, 78, 79, 80, 81, 82] (by decide +kernel) (by decide +kernel)
set_option maxRecDepth 20000 in
theorem gX10_plan_X6_mostFrom : GoodIn wsX10_plan (wsV RX10 226 RX6 yX6_mostFrom wsX6_mostFrom) := goodIn_app (goodIn_of _ (by decide +kernel)) ggX10_plan_X6_mostFrom
theorem dX10_plan_0 : decode cX10_plan 0 = .ok (.aload_n 0, 1) := by decide +kernel
theorem dX10_plan_1 : decode cX10_plan 1 = .ok (.getfield 44, 3) := by decide +kernel
theorem dX10_plan_4 : decode cX10_plan 4 = .ok (.aload_n 0, 1) := by decide +kernel
theorem dX10_plan_5 : decode cX10_plan 5 = .ok (.getfield 10, 3) := by decide +kernel
theorem dX10_plan_8 : decode cX10_plan 8 = .ok (.aload_n 0, 1) := by decide +kernel
theorem dX10_plan_9 : decode cX10_plan 9 = .ok (.getfield 26, 3) := by decide +kernel
theorem dX10_plan_12 : decode cX10_plan 12 = .ok (.invokevirtual 219, 3) := by decide +kernel
theorem dX10_plan_15 : decode cX10_plan 15 = .ok (.aload_n 0, 1) := by decide +kernel
theorem dX10_plan_16 : decode cX10_plan 16 = .ok (.getfield 44, 3) := by decide +kernel
theorem dX10_plan_19 : decode cX10_plan 19 = .ok (.getfield 223, 3) := by decide +kernel
theorem dX10_plan_22 : decode cX10_plan 22 = .ok (.aload_n 0, 1) := by decide +kernel
theorem dX10_plan_23 : decode cX10_plan 23 = .ok (.getfield 44, 3) := by decide +kernel
theorem dX10_plan_26 : decode cX10_plan 26 = .ok (.iconst 0, 1) := by decide +kernel
theorem dX10_plan_27 : decode cX10_plan 27 = .ok (.invokevirtual 226, 3) := by decide +kernel
theorem dX10_plan_30 : decode cX10_plan 30 = .ok (.iadd, 1) := by decide +kernel
theorem dX10_plan_31 : decode cX10_plan 31 = .ok (.ireturn, 1) := by decide +kernel
set_option maxRecDepth 20000 in
theorem ggX10_planOf_X10_isNoWork : GoodIn wsX10_planOf wsX10_isNoWork := goodIn_r _ [8, 2, 9, 73, 74, 75, 76, 77, 78, 79, 80, 81, 82, 83, 84, 85, 86, 87, 88, 89, 90, 91, 92, 93, 94, 95, 96, 97, 98, 99] (by decide +kernel) (by decide +kernel)
set_option maxRecDepth 20000 in
theorem gX10_planOf_X10_isNoWork : GoodIn wsX10_planOf (wsV RX10 151 RX10 yX10_isNoWork wsX10_isNoWork) := goodIn_app (goodIn_of _ (by decide +kernel)) ggX10_planOf_X10_isNoWork
set_option maxRecDepth 20000 in
theorem ggX10_planOf_X6_takeUp : GoodIn wsX10_planOf wsX6_takeUp := goodIn_r _ [14, 15, 16, 17, 18, 19, 20, 21, 22, 23, 24, 25, 26, 27, 28, 29, 30, 31, 32, 33, 7, 34, 35, 36, 37, 13, 38, 39, 40, 41, 42, 43, 85, 86, 87, 88, 89, 90, 91, 92, 93, 94, 95, 96, 97, 98, 99, 100, 101, 102, 103, 104, 105, 106, 107, 108, 109, 110, 111, 112, 113, 114, 115, 116, 117, 118, 119] (by decide +kernel) (by decide +kernel)
set_option maxRecDepth 20000 in
theorem gX10_planOf_X6_takeUp : GoodIn wsX10_planOf (wsV RX10 219 RX6 yX6_takeUp wsX6_takeUp) := goodIn_app (goodIn_of _ (by decide +kernel)) ggX10_planOf_X6_takeUp
set_option maxRecDepth 20000 in
theorem ggX10_planOf_X6_doerOf : GoodIn wsX10_planOf wsX6_doerOf := goodIn_r _ [47, 18, 25, 48, 49, 50, 13, 51, 52, 53, 54, 55, 56, 16, 21, 57, 58, 59, 60, 61, 62, 63, 64, 43, 65, 66, 67, 68, 39, 41, 20, 69, 70, 71, 72, 100, 101, 102, 103, 104, 105, 106, 107, 108, 109] (by decide +kernel) (by decide +kernel)
set_option maxRecDepth 20000 in
theorem gX10_planOf_X6_doerOf : GoodIn wsX10_planOf (wsV RX10 230 RX6 yX6_doerOf wsX6_doerOf) := goodIn_app (goodIn_of _ (by decide +kernel)) ggX10_planOf_X6_doerOf
theorem dX10_planOf_0 : decode cX10_planOf 0 = .ok (.aload_n 0, 1) := by decide +kernel
theorem dX10_planOf_1 : decode cX10_planOf 1 = .ok (.iload_n 1, 1) := by decide +kernel
theorem dX10_planOf_2 : decode cX10_planOf 2 = .ok (.invokevirtual 151, 3) := by decide +kernel
theorem dX10_planOf_5 : decode cX10_planOf 5 = .ok (.ifCond .eq 6, 3) := by decide +kernel
theorem dX10_planOf_8 : decode cX10_planOf 8 = .ok (.bipush (-2), 2) := by decide +kernel
theorem dX10_planOf_10 : decode cX10_planOf 10 = .ok (.ireturn, 1) := by decide +kernel
theorem dX10_planOf_11 : decode cX10_planOf 11 = .ok (.aload_n 0, 1) := by decide +kernel
theorem dX10_planOf_12 : decode cX10_planOf 12 = .ok (.getfield 44, 3) := by decide +kernel
theorem dX10_planOf_15 : decode cX10_planOf 15 = .ok (.aload_n 0, 1) := by decide +kernel
theorem dX10_planOf_16 : decode cX10_planOf 16 = .ok (.getfield 10, 3) := by decide +kernel
theorem dX10_planOf_19 : decode cX10_planOf 19 = .ok (.aload_n 0, 1) := by decide +kernel
theorem dX10_planOf_20 : decode cX10_planOf 20 = .ok (.getfield 26, 3) := by decide +kernel
theorem dX10_planOf_23 : decode cX10_planOf 23 = .ok (.invokevirtual 219, 3) := by decide +kernel
theorem dX10_planOf_26 : decode cX10_planOf 26 = .ok (.aload_n 0, 1) := by decide +kernel
theorem dX10_planOf_27 : decode cX10_planOf 27 = .ok (.getfield 44, 3) := by decide +kernel
theorem dX10_planOf_30 : decode cX10_planOf 30 = .ok (.iload_n 1, 1) := by decide +kernel
theorem dX10_planOf_31 : decode cX10_planOf 31 = .ok (.invokevirtual 230, 3) := by decide +kernel
theorem dX10_planOf_34 : decode cX10_planOf 34 = .ok (.ireturn, 1) := by decide +kernel
set_option maxRecDepth 20000 in
theorem ggX10_shortest_X6_takeUp : GoodIn wsX10_shortest wsX6_takeUp := goodIn_r _ [8, 9, 10, 11, 12, 13, 14, 15, 16, 17, 18, 19, 20, 21, 22, 23, 24, 25, 26, 27, 28, 29, 30, 31, 32, 7, 33, 34, 35, 36, 37, 38, 80, 81, 82, 83, 84, 85, 86, 87, 88, 89, 90, 91, 92, 93, 94, 95, 96, 97, 98, 99, 100, 101, 102, 103, 104, 105, 106, 107, 108, 109, 110, 111, 112, 113, 114] (by decide +kernel) (by decide +kernel)
set_option maxRecDepth 20000 in
theorem gX10_shortest_X6_takeUp : GoodIn wsX10_shortest (wsV RX10 219 RX6 yX6_takeUp wsX6_takeUp) := goodIn_app (goodIn_of _ (by decide +kernel)) ggX10_shortest_X6_takeUp
set_option maxRecDepth 20000 in
theorem ggX10_shortest_X6_shortestLength : GoodIn wsX10_shortest wsX6_shortestLength := goodIn_r _ [42, 43, 44, 45, 7, 46, 15, 47, 48, 49, 50, 51, 52, 53, 54, 12, 55, 56, 57, 58, 59, 10, 60, 61, 62, 63, 38, 64, 65, 66, 67, 34, 36, 14, 95, 96, 97, 98, 99, 100, 101, 102, 103, 104] (by decide +kernel) (by decide +kernel)
set_option maxRecDepth 20000 in
theorem gX10_shortest_X6_shortestLength : GoodIn wsX10_shortest (wsV RX10 233 RX6 yX6_shortestLength wsX6_shortestLength) := goodIn_app (goodIn_of _ (by decide +kernel)) ggX10_shortest_X6_shortestLength
theorem dX10_shortest_0 : decode cX10_shortest 0 = .ok (.aload_n 0, 1) := by decide +kernel
theorem dX10_shortest_1 : decode cX10_shortest 1 = .ok (.getfield 44, 3) := by decide +kernel
theorem dX10_shortest_4 : decode cX10_shortest 4 = .ok (.aload_n 0, 1) := by decide +kernel
theorem dX10_shortest_5 : decode cX10_shortest 5 = .ok (.getfield 10, 3) := by decide +kernel
theorem dX10_shortest_8 : decode cX10_shortest 8 = .ok (.aload_n 0, 1) := by decide +kernel
theorem dX10_shortest_9 : decode cX10_shortest 9 = .ok (.getfield 26, 3) := by decide +kernel
theorem dX10_shortest_12 : decode cX10_shortest 12 = .ok (.invokevirtual 219, 3) := by decide +kernel
theorem dX10_shortest_15 : decode cX10_shortest 15 = .ok (.aload_n 0, 1) := by decide +kernel
theorem dX10_shortest_16 : decode cX10_shortest 16 = .ok (.getfield 44, 3) := by decide +kernel
theorem dX10_shortest_19 : decode cX10_shortest 19 = .ok (.invokevirtual 233, 3) := by decide +kernel
theorem dX10_shortest_22 : decode cX10_shortest 22 = .ok (.ireturn, 1) := by decide +kernel
set_option maxRecDepth 20000 in
theorem ggX10_sale_X10_isNoGood : GoodIn wsX10_sale wsX10_isNoGood := goodIn_r _ [9, 2, 10, 63, 64, 65, 66, 67, 68, 69, 70, 71, 72, 73, 74, 80, 81, 82, 83, 84, 85, 86, 87, 88, 89, 90, 91, 92, 93, 94] (by decide +kernel) (by decide +kernel)
set_option maxRecDepth 20000 in
theorem gX10_sale_X10_isNoGood : GoodIn wsX10_sale (wsV RX10 169 RX10 yX10_isNoGood wsX10_isNoGood) := goodIn_app (goodIn_of _ (by decide +kernel)) ggX10_sale_X10_isNoGood
set_option maxRecDepth 20000 in
theorem ggX10_sale_X10_isOutside : GoodIn wsX10_sale wsX10_isOutside := goodIn_r _ [13] (by decide +kernel) (by decide +kernel)
set_option maxRecDepth 20000 in
theorem gX10_sale_X10_isOutside : GoodIn wsX10_sale (va_wsS RX10 94 yX10_isOutside wsX10_isOutside) := goodIn_app (goodIn_of _ (by decide +kernel)) ggX10_sale_X10_isOutside
set_option maxRecDepth 20000 in
theorem ggX10_sale_X4_takeUp : GoodIn wsX10_sale wsX4_takeUp := goodIn_r _ [18, 19, 20, 21, 22, 23, 24, 25, 26, 27, 28, 29, 30, 31, 32, 33, 34, 35, 36, 37, 38, 8, 39, 80, 81, 82, 83, 84, 85, 86, 87, 88, 89, 90, 91, 92, 93, 94, 75, 76, 77, 78, 79, 95, 96, 97, 98, 99, 100, 101, 102, 103, 104] (by decide +kernel) (by decide +kernel)
set_option maxRecDepth 20000 in
theorem gX10_sale_X4_takeUp : GoodIn wsX10_sale (wsV RX10 237 RX4 yX4_takeUp wsX4_takeUp) := goodIn_app (goodIn_of _ (by decide +kernel)) ggX10_sale_X4_takeUp
set_option maxRecDepth 20000 in
theorem ggX10_sale_X4_mostOf : GoodIn wsX10_sale wsX4_mostOf := goodIn_r _ [43, 44, 21, 45, 46, 47, 48, 38, 8, 39, 49, 50, 51, 17, 52, 20, 24, 53, 35, 36, 37, 75, 76, 77, 78, 79] (by decide +kernel) (by decide +kernel)
set_option maxRecDepth 20000 in
theorem gX10_sale_X4_mostOf : GoodIn wsX10_sale (wsV RX10 243 RX4 yX4_mostOf wsX4_mostOf) := goodIn_app (goodIn_of _ (by decide +kernel)) ggX10_sale_X4_mostOf
set_option maxRecDepth 20000 in
theorem ggX10_sale_X4_dayOf : GoodIn wsX10_sale wsX4_dayOf := goodIn_r _ [57, 23, 20, 24, 58, 41, 42, 17, 43, 44, 21, 45, 46, 47, 48, 38, 8, 39, 49, 50, 51, 52, 53, 35, 36, 37, 59, 60, 61, 62, 75, 76, 77, 78, 79] (by decide +kernel) (by decide +kernel)
set_option maxRecDepth 20000 in
theorem gX10_sale_X4_dayOf : GoodIn wsX10_sale (wsV RX10 246 RX4 yX4_dayOf wsX4_dayOf) := goodIn_app (goodIn_of _ (by decide +kernel)) ggX10_sale_X4_dayOf
theorem dX10_sale_0 : decode cX10_sale 0 = .ok (.iload_n 2, 1) := by decide +kernel
theorem dX10_sale_1 : decode cX10_sale 1 = .ok (.iconst (-1), 1) := by decide +kernel
theorem dX10_sale_2 : decode cX10_sale 2 = .ok (.if_icmp .eq 14, 3) := by decide +kernel
theorem dX10_sale_5 : decode cX10_sale 5 = .ok (.aload_n 0, 1) := by decide +kernel
theorem dX10_sale_6 : decode cX10_sale 6 = .ok (.iload_n 2, 1) := by decide +kernel
theorem dX10_sale_7 : decode cX10_sale 7 = .ok (.invokevirtual 169, 3) := by decide +kernel
theorem dX10_sale_10 : decode cX10_sale 10 = .ok (.ifCond .eq 6, 3) := by decide +kernel
theorem dX10_sale_13 : decode cX10_sale 13 = .ok (.bipush (-2), 2) := by decide +kernel
theorem dX10_sale_15 : decode cX10_sale 15 = .ok (.ireturn, 1) := by decide +kernel
theorem dX10_sale_16 : decode cX10_sale 16 = .ok (.iload_n 1, 1) := by decide +kernel
theorem dX10_sale_17 : decode cX10_sale 17 = .ok (.iconst 1, 1) := by decide +kernel
theorem dX10_sale_18 : decode cX10_sale 18 = .ok (.bipush 9, 2) := by decide +kernel
theorem dX10_sale_20 : decode cX10_sale 20 = .ok (.invokestatic 94, 3) := by decide +kernel
theorem dX10_sale_23 : decode cX10_sale 23 = .ok (.ifCond .eq 6, 3) := by decide +kernel
theorem dX10_sale_26 : decode cX10_sale 26 = .ok (.bipush (-3), 2) := by decide +kernel
theorem dX10_sale_28 : decode cX10_sale 28 = .ok (.ireturn, 1) := by decide +kernel
theorem dX10_sale_29 : decode cX10_sale 29 = .ok (.aload_n 0, 1) := by decide +kernel
theorem dX10_sale_30 : decode cX10_sale 30 = .ok (.getfield 51, 3) := by decide +kernel
theorem dX10_sale_33 : decode cX10_sale 33 = .ok (.aload_n 0, 1) := by decide +kernel
theorem dX10_sale_34 : decode cX10_sale 34 = .ok (.getfield 10, 3) := by decide +kernel
theorem dX10_sale_37 : decode cX10_sale 37 = .ok (.aload_n 0, 1) := by decide +kernel
theorem dX10_sale_38 : decode cX10_sale 38 = .ok (.getfield 26, 3) := by decide +kernel
theorem dX10_sale_41 : decode cX10_sale 41 = .ok (.iload_n 1, 1) := by decide +kernel
theorem dX10_sale_42 : decode cX10_sale 42 = .ok (.invokevirtual 237, 3) := by decide +kernel
theorem dX10_sale_45 : decode cX10_sale 45 = .ok (.iload_n 2, 1) := by decide +kernel
theorem dX10_sale_46 : decode cX10_sale 46 = .ok (.iconst (-1), 1) := by decide +kernel
theorem dX10_sale_47 : decode cX10_sale 47 = .ok (.if_icmp .ne 21, 3) := by decide +kernel
theorem dX10_sale_50 : decode cX10_sale 50 = .ok (.aload_n 0, 1) := by decide +kernel
theorem dX10_sale_51 : decode cX10_sale 51 = .ok (.getfield 51, 3) := by decide +kernel
theorem dX10_sale_54 : decode cX10_sale 54 = .ok (.aload_n 0, 1) := by decide +kernel
theorem dX10_sale_55 : decode cX10_sale 55 = .ok (.getfield 51, 3) := by decide +kernel
theorem dX10_sale_58 : decode cX10_sale 58 = .ok (.getfield 240, 3) := by decide +kernel
theorem dX10_sale_61 : decode cX10_sale 61 = .ok (.iconst 0, 1) := by decide +kernel
theorem dX10_sale_62 : decode cX10_sale 62 = .ok (.invokevirtual 243, 3) := by decide +kernel
theorem dX10_sale_65 : decode cX10_sale 65 = .ok (.goto 11, 3) := by decide +kernel
theorem dX10_sale_68 : decode cX10_sale 68 = .ok (.aload_n 0, 1) := by decide +kernel
theorem dX10_sale_69 : decode cX10_sale 69 = .ok (.getfield 51, 3) := by decide +kernel
theorem dX10_sale_72 : decode cX10_sale 72 = .ok (.iload_n 2, 1) := by decide +kernel
theorem dX10_sale_73 : decode cX10_sale 73 = .ok (.invokevirtual 246, 3) := by decide +kernel
theorem dX10_sale_76 : decode cX10_sale 76 = .ok (.ireturn, 1) := by decide +kernel
set_option maxRecDepth 20000 in
theorem ggX10_odds_X10_isNoWorld : GoodIn wsX10_odds wsX10_isNoWorld := goodIn_r _ [10] (by decide +kernel) (by decide +kernel)
set_option maxRecDepth 20000 in
theorem gX10_odds_X10_isNoWorld : GoodIn wsX10_odds (va_wsS RX10 249 yX10_isNoWorld wsX10_isNoWorld) := goodIn_app (goodIn_of _ (by decide +kernel)) ggX10_odds_X10_isNoWorld
set_option maxRecDepth 20000 in
theorem ggX10_odds_X10_isOutside : GoodIn wsX10_odds wsX10_isOutside := goodIn_r _ [13] (by decide +kernel) (by decide +kernel)
set_option maxRecDepth 20000 in
theorem gX10_odds_X10_isOutside : GoodIn wsX10_odds (va_wsS RX10 94 yX10_isOutside wsX10_isOutside) := goodIn_app (goodIn_of _ (by decide +kernel)) ggX10_odds_X10_isOutside
set_option maxRecDepth 20000 in
theorem ggX10_odds_X1_lookAhead : GoodIn wsX10_odds wsX1_lookAhead := goodIn_r _ [18, 19, 20, 21, 22, 23, 24, 25, 26, 17, 27, 28, 29, 30, 31, 32, 33, 34, 68, 69, 70, 71, 72, 73, 74, 75, 76, 77, 78, 79, 80, 81, 82, 83, 84, 85, 86, 87, 88, 89] (by decide +kernel) (by decide +kernel)
set_option maxRecDepth 20000 in
theorem gX10_odds_X1_lookAhead : GoodIn wsX10_odds (wsV RX10 259 RX1 yX1_lookAhead wsX1_lookAhead) := goodIn_app (goodIn_of _ (by decide +kernel)) ggX10_odds_X1_lookAhead
set_option maxRecDepth 20000 in
theorem ggX10_odds_X1_partOf : GoodIn wsX10_odds wsX1_partOf := goodIn_r _ [38, 19, 39, 40, 41, 17, 42, 43, 44, 45, 68, 69, 70, 71, 72, 73, 74] (by decide +kernel) (by decide +kernel)
set_option maxRecDepth 20000 in
theorem gX10_odds_X1_partOf : GoodIn wsX10_odds (wsV RX10 263 RX1 yX1_partOf wsX1_partOf) := goodIn_app (goodIn_of _ (by decide +kernel)) ggX10_odds_X1_partOf
theorem dX10_odds_0 : decode cX10_odds 0 = .ok (.iload_n 1, 1) := by decide +kernel
theorem dX10_odds_1 : decode cX10_odds 1 = .ok (.invokestatic 249, 3) := by decide +kernel
theorem dX10_odds_4 : decode cX10_odds 4 = .ok (.ifCond .eq 7, 3) := by decide +kernel
theorem dX10_odds_7 : decode cX10_odds 7 = .ok (.ldc2_w 252, 3) := by decide +kernel
theorem dX10_odds_10 : decode cX10_odds 10 = .ok (.lreturn, 1) := by decide +kernel
theorem dX10_odds_11 : decode cX10_odds 11 = .ok (.iload_n 2, 1) := by decide +kernel
theorem dX10_odds_12 : decode cX10_odds 12 = .ok (.iconst 0, 1) := by decide +kernel
theorem dX10_odds_13 : decode cX10_odds 13 = .ok (.bipush 9, 2) := by decide +kernel
theorem dX10_odds_15 : decode cX10_odds 15 = .ok (.invokestatic 94, 3) := by decide +kernel
theorem dX10_odds_18 : decode cX10_odds 18 = .ok (.ifCond .ne 12, 3) := by decide +kernel
theorem dX10_odds_21 : decode cX10_odds 21 = .ok (.iload_n 3, 1) := by decide +kernel
theorem dX10_odds_22 : decode cX10_odds 22 = .ok (.iconst 0, 1) := by decide +kernel
theorem dX10_odds_23 : decode cX10_odds 23 = .ok (.iconst 1, 1) := by decide +kernel
theorem dX10_odds_24 : decode cX10_odds 24 = .ok (.invokestatic 94, 3) := by decide +kernel
theorem dX10_odds_27 : decode cX10_odds 27 = .ok (.ifCond .eq 7, 3) := by decide +kernel
theorem dX10_odds_30 : decode cX10_odds 30 = .ok (.ldc2_w 254, 3) := by decide +kernel
theorem dX10_odds_33 : decode cX10_odds 33 = .ok (.lreturn, 1) := by decide +kernel
theorem dX10_odds_34 : decode cX10_odds 34 = .ok (.aload_n 0, 1) := by decide +kernel
theorem dX10_odds_35 : decode cX10_odds 35 = .ok (.getfield 58, 3) := by decide +kernel
theorem dX10_odds_38 : decode cX10_odds 38 = .ok (.aload_n 0, 1) := by decide +kernel
theorem dX10_odds_39 : decode cX10_odds 39 = .ok (.getfield 10, 3) := by decide +kernel
theorem dX10_odds_42 : decode cX10_odds 42 = .ok (.aload_n 0, 1) := by decide +kernel
theorem dX10_odds_43 : decode cX10_odds 43 = .ok (.getfield 26, 3) := by decide +kernel
theorem dX10_odds_46 : decode cX10_odds 46 = .ok (.getfield 256, 3) := by decide +kernel
theorem dX10_odds_49 : decode cX10_odds 49 = .ok (.iload_n 2, 1) := by decide +kernel
theorem dX10_odds_50 : decode cX10_odds 50 = .ok (.invokevirtual 259, 3) := by decide +kernel
theorem dX10_odds_53 : decode cX10_odds 53 = .ok (.aload_n 0, 1) := by decide +kernel
theorem dX10_odds_54 : decode cX10_odds 54 = .ok (.getfield 58, 3) := by decide +kernel
theorem dX10_odds_57 : decode cX10_odds 57 = .ok (.iload_n 1, 1) := by decide +kernel
theorem dX10_odds_58 : decode cX10_odds 58 = .ok (.iload_n 3, 1) := by decide +kernel
theorem dX10_odds_59 : decode cX10_odds 59 = .ok (.invokevirtual 263, 3) := by decide +kernel
theorem dX10_odds_62 : decode cX10_odds 62 = .ok (.lreturn, 1) := by decide +kernel
set_option maxRecDepth 20000 in
theorem ggX10_sign_X10_isNoWorld : GoodIn wsX10_sign wsX10_isNoWorld := goodIn_r _ [6] (by decide +kernel) (by decide +kernel)
set_option maxRecDepth 20000 in
theorem gX10_sign_X10_isNoWorld : GoodIn wsX10_sign (va_wsS RX10 249 yX10_isNoWorld wsX10_isNoWorld) := goodIn_app (goodIn_of _ (by decide +kernel)) ggX10_sign_X10_isNoWorld
set_option maxRecDepth 20000 in
theorem ggX10_sign_X10_isOutside : GoodIn wsX10_sign wsX10_isOutside := goodIn_r _ [9] (by decide +kernel) (by decide +kernel)
set_option maxRecDepth 20000 in
theorem gX10_sign_X10_isOutside : GoodIn wsX10_sign (va_wsS RX10 94 yX10_isOutside wsX10_isOutside) := goodIn_app (goodIn_of _ (by decide +kernel)) ggX10_sign_X10_isOutside
set_option maxRecDepth 20000 in
theorem ggX10_sign_X1_addSign : GoodIn wsX10_sign wsX1_addSign := goodIn_r _ [14, 15, 16, 17, 18, 31, 32, 33, 34, 35, 36, 37] (by decide +kernel) (by decide +kernel)
set_option maxRecDepth 20000 in
theorem gX10_sign_X1_addSign : GoodIn wsX10_sign (wsV RX10 267 RX1 yX1_addSign wsX1_addSign) := goodIn_app (goodIn_of _ (by decide +kernel)) ggX10_sign_X1_addSign
theorem dX10_sign_0 : decode cX10_sign 0 = .ok (.iload_n 1, 1) := by decide +kernel
theorem dX10_sign_1 : decode cX10_sign 1 = .ok (.invokestatic 249, 3) := by decide +kernel
theorem dX10_sign_4 : decode cX10_sign 4 = .ok (.ifCond .eq 6, 3) := by decide +kernel
theorem dX10_sign_7 : decode cX10_sign 7 = .ok (.bipush (-2), 2) := by decide +kernel
theorem dX10_sign_9 : decode cX10_sign 9 = .ok (.ireturn, 1) := by decide +kernel
theorem dX10_sign_10 : decode cX10_sign 10 = .ok (.iload_n 2, 1) := by decide +kernel
theorem dX10_sign_11 : decode cX10_sign 11 = .ok (.iconst 0, 1) := by decide +kernel
theorem dX10_sign_12 : decode cX10_sign 12 = .ok (.bipush 9, 2) := by decide +kernel
theorem dX10_sign_14 : decode cX10_sign 14 = .ok (.invokestatic 94, 3) := by decide +kernel
theorem dX10_sign_17 : decode cX10_sign 17 = .ok (.ifCond .ne 12, 3) := by decide +kernel
theorem dX10_sign_20 : decode cX10_sign 20 = .ok (.iload_n 3, 1) := by decide +kernel
theorem dX10_sign_21 : decode cX10_sign 21 = .ok (.iconst 0, 1) := by decide +kernel
theorem dX10_sign_22 : decode cX10_sign 22 = .ok (.iconst 1, 1) := by decide +kernel
theorem dX10_sign_23 : decode cX10_sign 23 = .ok (.invokestatic 94, 3) := by decide +kernel
theorem dX10_sign_26 : decode cX10_sign 26 = .ok (.ifCond .eq 6, 3) := by decide +kernel
theorem dX10_sign_29 : decode cX10_sign 29 = .ok (.bipush (-3), 2) := by decide +kernel
theorem dX10_sign_31 : decode cX10_sign 31 = .ok (.ireturn, 1) := by decide +kernel
theorem dX10_sign_32 : decode cX10_sign 32 = .ok (.aload_n 0, 1) := by decide +kernel
theorem dX10_sign_33 : decode cX10_sign 33 = .ok (.getfield 58, 3) := by decide +kernel
theorem dX10_sign_36 : decode cX10_sign 36 = .ok (.iload_n 1, 1) := by decide +kernel
theorem dX10_sign_37 : decode cX10_sign 37 = .ok (.iload_n 2, 1) := by decide +kernel
theorem dX10_sign_38 : decode cX10_sign 38 = .ok (.iload_n 3, 1) := by decide +kernel
theorem dX10_sign_39 : decode cX10_sign 39 = .ok (.invokevirtual 267, 3) := by decide +kernel
theorem dX10_sign_42 : decode cX10_sign 42 = .ok (.ifCond .eq 13, 3) := by decide +kernel
theorem dX10_sign_45 : decode cX10_sign 45 = .ok (.aload_n 0, 1) := by decide +kernel
theorem dX10_sign_46 : decode cX10_sign 46 = .ok (.getfield 58, 3) := by decide +kernel
theorem dX10_sign_49 : decode cX10_sign 49 = .ok (.getfield 117, 3) := by decide +kernel
theorem dX10_sign_52 : decode cX10_sign 52 = .ok (.goto 5, 3) := by decide +kernel
theorem dX10_sign_55 : decode cX10_sign 55 = .ok (.bipush (-5), 2) := by decide +kernel
theorem dX10_sign_57 : decode cX10_sign 57 = .ok (.ireturn, 1) := by decide +kernel
theorem dX10_forget_0 : decode cX10_forget 0 = .ok (.aload_n 0, 1) := by decide +kernel
theorem dX10_forget_1 : decode cX10_forget 1 = .ok (.getfield 58, 3) := by decide +kernel
theorem dX10_forget_4 : decode cX10_forget 4 = .ok (.getfield 117, 3) := by decide +kernel
theorem dX10_forget_7 : decode cX10_forget 7 = .ok (.istore_n 1, 1) := by decide +kernel
theorem dX10_forget_8 : decode cX10_forget 8 = .ok (.aload_n 0, 1) := by decide +kernel
theorem dX10_forget_9 : decode cX10_forget 9 = .ok (.getfield 58, 3) := by decide +kernel
theorem dX10_forget_12 : decode cX10_forget 12 = .ok (.iconst 0, 1) := by decide +kernel
theorem dX10_forget_13 : decode cX10_forget 13 = .ok (.putfield 117, 3) := by decide +kernel
theorem dX10_forget_16 : decode cX10_forget 16 = .ok (.iload_n 1, 1) := by decide +kernel
theorem dX10_forget_17 : decode cX10_forget 17 = .ok (.ireturn, 1) := by decide +kernel
set_option maxRecDepth 20000 in
theorem ggX10_likely_X10_isNoWorld : GoodIn wsX10_likely wsX10_isNoWorld := goodIn_r _ [9] (by decide +kernel) (by decide +kernel)
set_option maxRecDepth 20000 in
theorem gX10_likely_X10_isNoWorld : GoodIn wsX10_likely (va_wsS RX10 249 yX10_isNoWorld wsX10_isNoWorld) := goodIn_app (goodIn_of _ (by decide +kernel)) ggX10_likely_X10_isNoWorld
set_option maxRecDepth 20000 in
theorem ggX10_likely_X10_isOutside : GoodIn wsX10_likely wsX10_isOutside := goodIn_r _ [12] (by decide +kernel) (by decide +kernel)
set_option maxRecDepth 20000 in
theorem gX10_likely_X10_isOutside : GoodIn wsX10_likely (va_wsS RX10 94 yX10_isOutside wsX10_isOutside) := goodIn_app (goodIn_of _ (by decide +kernel)) ggX10_likely_X10_isOutside
set_option maxRecDepth 20000 in
theorem ggX10_likely_X1_lookBack : GoodIn wsX10_likely wsX1_lookBack := goodIn_r _ [17, 18, 19, 20, 21, 22, 23, 24, 25, 26, 16, 27, 28, 29, 30, 31, 32, 33, 34, 35, 36, 37, 38, 39, 40, 41, 42, 43, 44, 45, 46, 71, 72, 73, 74, 75, 76, 77, 78, 79, 80, 81, 82, 83, 84, 85, 86, 87, 88, 89, 90, 91, 92] (by decide +kernel) (by decide +kernel)
set_option maxRecDepth 20000 in
theorem gX10_likely_X1_lookBack : GoodIn wsX10_likely (wsV RX10 270 RX1 yX1_lookBack wsX1_lookBack) := goodIn_app (goodIn_of _ (by decide +kernel)) ggX10_likely_X1_lookBack
set_option maxRecDepth 20000 in
theorem ggX10_likely_X1_total : GoodIn wsX10_likely wsX1_total := goodIn_r _ [50, 18, 71, 72, 73, 74, 75, 76, 77] (by decide +kernel) (by decide +kernel)
set_option maxRecDepth 20000 in
theorem gX10_likely_X1_total : GoodIn wsX10_likely (wsV RX10 274 RX1 yX1_total wsX1_total) := goodIn_app (goodIn_of _ (by decide +kernel)) ggX10_likely_X1_total
set_option maxRecDepth 20000 in
theorem ggX10_likely_X1_partOf : GoodIn wsX10_likely wsX1_partOf := goodIn_r _ [54, 18, 55, 48, 49, 16, 50, 56, 57, 58, 71, 72, 73, 74, 75, 76, 77] (by decide +kernel) (by decide +kernel)
set_option maxRecDepth 20000 in
theorem gX10_likely_X1_partOf : GoodIn wsX10_likely (wsV RX10 263 RX1 yX1_partOf wsX1_partOf) := goodIn_app (goodIn_of _ (by decide +kernel)) ggX10_likely_X1_partOf
theorem dX10_likely_0 : decode cX10_likely 0 = .ok (.iload_n 1, 1) := by decide +kernel
theorem dX10_likely_1 : decode cX10_likely 1 = .ok (.invokestatic 249, 3) := by decide +kernel
theorem dX10_likely_4 : decode cX10_likely 4 = .ok (.ifCond .eq 7, 3) := by decide +kernel
theorem dX10_likely_7 : decode cX10_likely 7 = .ok (.ldc2_w 252, 3) := by decide +kernel
theorem dX10_likely_10 : decode cX10_likely 10 = .ok (.lreturn, 1) := by decide +kernel
theorem dX10_likely_11 : decode cX10_likely 11 = .ok (.iload_n 2, 1) := by decide +kernel
theorem dX10_likely_12 : decode cX10_likely 12 = .ok (.iconst 0, 1) := by decide +kernel
theorem dX10_likely_13 : decode cX10_likely 13 = .ok (.bipush 9, 2) := by decide +kernel
theorem dX10_likely_15 : decode cX10_likely 15 = .ok (.invokestatic 94, 3) := by decide +kernel
theorem dX10_likely_18 : decode cX10_likely 18 = .ok (.ifCond .ne 12, 3) := by decide +kernel
theorem dX10_likely_21 : decode cX10_likely 21 = .ok (.iload_n 3, 1) := by decide +kernel
theorem dX10_likely_22 : decode cX10_likely 22 = .ok (.iconst 0, 1) := by decide +kernel
theorem dX10_likely_23 : decode cX10_likely 23 = .ok (.iconst 1, 1) := by decide +kernel
theorem dX10_likely_24 : decode cX10_likely 24 = .ok (.invokestatic 94, 3) := by decide +kernel
theorem dX10_likely_27 : decode cX10_likely 27 = .ok (.ifCond .eq 7, 3) := by decide +kernel
theorem dX10_likely_30 : decode cX10_likely 30 = .ok (.ldc2_w 254, 3) := by decide +kernel
theorem dX10_likely_33 : decode cX10_likely 33 = .ok (.lreturn, 1) := by decide +kernel
theorem dX10_likely_34 : decode cX10_likely 34 = .ok (.aload_n 0, 1) := by decide +kernel
theorem dX10_likely_35 : decode cX10_likely 35 = .ok (.getfield 58, 3) := by decide +kernel
theorem dX10_likely_38 : decode cX10_likely 38 = .ok (.aload_n 0, 1) := by decide +kernel
theorem dX10_likely_39 : decode cX10_likely 39 = .ok (.getfield 10, 3) := by decide +kernel
theorem dX10_likely_42 : decode cX10_likely 42 = .ok (.iload_n 2, 1) := by decide +kernel
theorem dX10_likely_43 : decode cX10_likely 43 = .ok (.invokevirtual 270, 3) := by decide +kernel
theorem dX10_likely_46 : decode cX10_likely 46 = .ok (.aload_n 0, 1) := by decide +kernel
theorem dX10_likely_47 : decode cX10_likely 47 = .ok (.getfield 58, 3) := by decide +kernel
theorem dX10_likely_50 : decode cX10_likely 50 = .ok (.invokevirtual 274, 3) := by decide +kernel
theorem dX10_likely_53 : decode cX10_likely 53 = .ok (.lconst 0, 1) := by decide +kernel
theorem dX10_likely_54 : decode cX10_likely 54 = .ok (.lcmp, 1) := by decide +kernel
theorem dX10_likely_55 : decode cX10_likely 55 = .ok (.ifCond .ne 9, 3) := by decide +kernel
theorem dX10_likely_58 : decode cX10_likely 58 = .ok (.ldc2_w 278, 3) := by decide +kernel
theorem dX10_likely_61 : decode cX10_likely 61 = .ok (.goto 12, 3) := by decide +kernel
theorem dX10_likely_64 : decode cX10_likely 64 = .ok (.aload_n 0, 1) := by decide +kernel
theorem dX10_likely_65 : decode cX10_likely 65 = .ok (.getfield 58, 3) := by decide +kernel
theorem dX10_likely_68 : decode cX10_likely 68 = .ok (.iload_n 1, 1) := by decide +kernel
theorem dX10_likely_69 : decode cX10_likely 69 = .ok (.iload_n 3, 1) := by decide +kernel
theorem dX10_likely_70 : decode cX10_likely 70 = .ok (.invokevirtual 263, 3) := by decide +kernel
theorem dX10_likely_73 : decode cX10_likely 73 = .ok (.lreturn, 1) := by decide +kernel
set_option maxRecDepth 20000 in
theorem ggX10_wording_X10_isOutside : GoodIn wsX10_wording wsX10_isOutside := goodIn_r _ [6] (by decide +kernel) (by decide +kernel)
set_option maxRecDepth 20000 in
theorem gX10_wording_X10_isOutside : GoodIn wsX10_wording (va_wsS RX10 94 yX10_isOutside wsX10_isOutside) := goodIn_app (goodIn_of _ (by decide +kernel)) ggX10_wording_X10_isOutside
set_option maxRecDepth 20000 in
theorem ggX10_wording_X9_within : GoodIn wsX10_wording wsX9_within := goodIn_r _ [11, 12, 13, 14, 15, 16, 17, 18, 19, 20, 37, 38] (by decide +kernel) (by decide +kernel)
set_option maxRecDepth 20000 in
theorem gX10_wording_X9_within : GoodIn wsX10_wording (wsV RX10 280 RX9 yX9_within wsX9_within) := goodIn_app (goodIn_of _ (by decide +kernel)) ggX10_wording_X9_within
set_option maxRecDepth 20000 in
theorem ggX10_wording_X9_add : GoodIn wsX10_wording wsX9_add := goodIn_r _ [24, 12, 13, 37, 38] (by decide +kernel) (by decide +kernel)
set_option maxRecDepth 20000 in
theorem gX10_wording_X9_add : GoodIn wsX10_wording (wsV RX10 283 RX9 yX9_add wsX9_add) := goodIn_app (goodIn_of _ (by decide +kernel)) ggX10_wording_X9_add
theorem dX10_wording_0 : decode cX10_wording 0 = .ok (.iload_n 1, 1) := by decide +kernel
theorem dX10_wording_1 : decode cX10_wording 1 = .ok (.iconst 0, 1) := by decide +kernel
theorem dX10_wording_2 : decode cX10_wording 2 = .ok (.bipush 63, 2) := by decide +kernel
theorem dX10_wording_4 : decode cX10_wording 4 = .ok (.invokestatic 94, 3) := by decide +kernel
theorem dX10_wording_7 : decode cX10_wording 7 = .ok (.ifCond .eq 6, 3) := by decide +kernel
theorem dX10_wording_10 : decode cX10_wording 10 = .ok (.bipush (-3), 2) := by decide +kernel
theorem dX10_wording_12 : decode cX10_wording 12 = .ok (.ireturn, 1) := by decide +kernel
theorem dX10_wording_13 : decode cX10_wording 13 = .ok (.aload_n 0, 1) := by decide +kernel
theorem dX10_wording_14 : decode cX10_wording 14 = .ok (.getfield 72, 3) := by decide +kernel
theorem dX10_wording_17 : decode cX10_wording 17 = .ok (.iload_n 1, 1) := by decide +kernel
theorem dX10_wording_18 : decode cX10_wording 18 = .ok (.iconst 0, 1) := by decide +kernel
theorem dX10_wording_19 : decode cX10_wording 19 = .ok (.invokevirtual 280, 3) := by decide +kernel
theorem dX10_wording_22 : decode cX10_wording 22 = .ok (.ifCond .eq 6, 3) := by decide +kernel
theorem dX10_wording_25 : decode cX10_wording 25 = .ok (.bipush (-4), 2) := by decide +kernel
theorem dX10_wording_27 : decode cX10_wording 27 = .ok (.ireturn, 1) := by decide +kernel
theorem dX10_wording_28 : decode cX10_wording 28 = .ok (.aload_n 0, 1) := by decide +kernel
theorem dX10_wording_29 : decode cX10_wording 29 = .ok (.getfield 72, 3) := by decide +kernel
theorem dX10_wording_32 : decode cX10_wording 32 = .ok (.iload_n 1, 1) := by decide +kernel
theorem dX10_wording_33 : decode cX10_wording 33 = .ok (.invokevirtual 283, 3) := by decide +kernel
theorem dX10_wording_36 : decode cX10_wording 36 = .ok (.ifCond .eq 13, 3) := by decide +kernel
theorem dX10_wording_39 : decode cX10_wording 39 = .ok (.aload_n 0, 1) := by decide +kernel
theorem dX10_wording_40 : decode cX10_wording 40 = .ok (.getfield 72, 3) := by decide +kernel
theorem dX10_wording_43 : decode cX10_wording 43 = .ok (.getfield 120, 3) := by decide +kernel
theorem dX10_wording_46 : decode cX10_wording 46 = .ok (.goto 5, 3) := by decide +kernel
theorem dX10_wording_49 : decode cX10_wording 49 = .ok (.bipush (-5), 2) := by decide +kernel
theorem dX10_wording_51 : decode cX10_wording 51 = .ok (.ireturn, 1) := by decide +kernel
set_option maxRecDepth 20000 in
theorem ggX10_bears_X9_alterings : GoodIn wsX10_bears wsX9_alterings := goodIn_r _ [7, 8, 9, 10, 11, 12, 13, 14, 15, 16, 17, 18, 19, 20, 33, 34] (by decide +kernel) (by decide +kernel)
set_option maxRecDepth 20000 in
theorem gX10_bears_X9_alterings : GoodIn wsX10_bears (wsV RX10 284 RX9 yX9_alterings wsX9_alterings) := goodIn_app (goodIn_of _ (by decide +kernel)) ggX10_bears_X9_alterings
theorem dX10_bears_0 : decode cX10_bears 0 = .ok (.aload_n 0, 1) := by decide +kernel
theorem dX10_bears_1 : decode cX10_bears 1 = .ok (.getfield 72, 3) := by decide +kernel
theorem dX10_bears_4 : decode cX10_bears 4 = .ok (.getfield 120, 3) := by decide +kernel
theorem dX10_bears_7 : decode cX10_bears 7 = .ok (.ifCond .ne 7, 3) := by decide +kernel
theorem dX10_bears_10 : decode cX10_bears 10 = .ok (.iconst (-1), 1) := by decide +kernel
theorem dX10_bears_11 : decode cX10_bears 11 = .ok (.goto 10, 3) := by decide +kernel
theorem dX10_bears_14 : decode cX10_bears 14 = .ok (.aload_n 0, 1) := by decide +kernel
theorem dX10_bears_15 : decode cX10_bears 15 = .ok (.getfield 72, 3) := by decide +kernel
theorem dX10_bears_18 : decode cX10_bears 18 = .ok (.invokevirtual 284, 3) := by decide +kernel
theorem dX10_bears_21 : decode cX10_bears 21 = .ok (.ireturn, 1) := by decide +kernel
set_option maxRecDepth 20000 in
theorem ggX10_meant_X10_isOutside : GoodIn wsX10_meant wsX10_isOutside := goodIn_r _ [5] (by decide +kernel) (by decide +kernel)
set_option maxRecDepth 20000 in
theorem gX10_meant_X10_isOutside : GoodIn wsX10_meant (va_wsS RX10 94 yX10_isOutside wsX10_isOutside) := goodIn_app (goodIn_of _ (by decide +kernel)) ggX10_meant_X10_isOutside
set_option maxRecDepth 20000 in
theorem ggX10_meant_X9_within : GoodIn wsX10_meant wsX9_within := goodIn_r _ [10, 11, 12, 13, 14, 15, 16, 17, 18, 19, 32, 33] (by decide +kernel) (by decide +kernel)
set_option maxRecDepth 20000 in
theorem gX10_meant_X9_within : GoodIn wsX10_meant (wsV RX10 280 RX9 yX9_within wsX9_within) := goodIn_app (goodIn_of _ (by decide +kernel)) ggX10_meant_X9_within
theorem dX10_meant_0 : decode cX10_meant 0 = .ok (.iload_n 1, 1) := by decide +kernel
theorem dX10_meant_1 : decode cX10_meant 1 = .ok (.iconst 0, 1) := by decide +kernel
theorem dX10_meant_2 : decode cX10_meant 2 = .ok (.bipush 63, 2) := by decide +kernel
theorem dX10_meant_4 : decode cX10_meant 4 = .ok (.invokestatic 94, 3) := by decide +kernel
theorem dX10_meant_7 : decode cX10_meant 7 = .ok (.ifCond .ne 13, 3) := by decide +kernel
theorem dX10_meant_10 : decode cX10_meant 10 = .ok (.iload_n 2, 1) := by decide +kernel
theorem dX10_meant_11 : decode cX10_meant 11 = .ok (.iconst 0, 1) := by decide +kernel
theorem dX10_meant_12 : decode cX10_meant 12 = .ok (.bipush 6, 2) := by decide +kernel
theorem dX10_meant_14 : decode cX10_meant 14 = .ok (.invokestatic 94, 3) := by decide +kernel
theorem dX10_meant_17 : decode cX10_meant 17 = .ok (.ifCond .eq 6, 3) := by decide +kernel
theorem dX10_meant_20 : decode cX10_meant 20 = .ok (.bipush (-3), 2) := by decide +kernel
theorem dX10_meant_22 : decode cX10_meant 22 = .ok (.ireturn, 1) := by decide +kernel
theorem dX10_meant_23 : decode cX10_meant 23 = .ok (.aload_n 0, 1) := by decide +kernel
theorem dX10_meant_24 : decode cX10_meant 24 = .ok (.getfield 72, 3) := by decide +kernel
theorem dX10_meant_27 : decode cX10_meant 27 = .ok (.iload_n 1, 1) := by decide +kernel
theorem dX10_meant_28 : decode cX10_meant 28 = .ok (.iload_n 2, 1) := by decide +kernel
theorem dX10_meant_29 : decode cX10_meant 29 = .ok (.invokevirtual 280, 3) := by decide +kernel
theorem dX10_meant_32 : decode cX10_meant 32 = .ok (.ireturn, 1) := by decide +kernel
set_option maxRecDepth 20000 in
theorem ggX10_pairs_X10_isOutside : GoodIn wsX10_pairs wsX10_isOutside := goodIn_r _ [10] (by decide +kernel) (by decide +kernel)
set_option maxRecDepth 20000 in
theorem gX10_pairs_X10_isOutside : GoodIn wsX10_pairs (va_wsS RX10 94 yX10_isOutside wsX10_isOutside) := goodIn_app (goodIn_of _ (by decide +kernel)) ggX10_pairs_X10_isOutside
set_option maxRecDepth 20000 in
theorem ggX10_pairs_X2_takeUp : GoodIn wsX10_pairs wsX2_takeUp := goodIn_r _ [15, 16, 17, 18, 19, 20, 21, 22, 23, 24, 25, 26, 9, 27, 28, 29, 30, 31, 32, 33, 34, 35, 36, 14, 37, 38, 39, 40, 41, 42, 43, 44, 45, 46, 47, 65, 66, 67, 68, 69, 70, 71, 72, 73, 74, 75, 76, 77, 78, 79, 60, 61, 62, 63, 64, 80, 81, 82, 83, 84, 85, 86, 87, 88, 89] (by decide +kernel) (by decide +kernel)
set_option maxRecDepth 20000 in
theorem gX10_pairs_X2_takeUp : GoodIn wsX10_pairs (wsV RX10 287 RX2 yX2_takeUp wsX2_takeUp) := goodIn_app (goodIn_of _ (by decide +kernel)) ggX10_pairs_X2_takeUp
theorem dX10_pairs_0 : decode cX10_pairs 0 = .ok (.iload_n 1, 1) := by decide +kernel
theorem dX10_pairs_1 : decode cX10_pairs 1 = .ok (.iconst 0, 1) := by decide +kernel
theorem dX10_pairs_2 : decode cX10_pairs 2 = .ok (.iconst 2, 1) := by decide +kernel
theorem dX10_pairs_3 : decode cX10_pairs 3 = .ok (.invokestatic 94, 3) := by decide +kernel
theorem dX10_pairs_6 : decode cX10_pairs 6 = .ok (.ifCond .eq 6, 3) := by decide +kernel
theorem dX10_pairs_9 : decode cX10_pairs 9 = .ok (.bipush (-3), 2) := by decide +kernel
theorem dX10_pairs_11 : decode cX10_pairs 11 = .ok (.ireturn, 1) := by decide +kernel
theorem dX10_pairs_12 : decode cX10_pairs 12 = .ok (.aload_n 0, 1) := by decide +kernel
theorem dX10_pairs_13 : decode cX10_pairs 13 = .ok (.getfield 65, 3) := by decide +kernel
theorem dX10_pairs_16 : decode cX10_pairs 16 = .ok (.aload_n 0, 1) := by decide +kernel
theorem dX10_pairs_17 : decode cX10_pairs 17 = .ok (.getfield 10, 3) := by decide +kernel
theorem dX10_pairs_20 : decode cX10_pairs 20 = .ok (.aload_n 0, 1) := by decide +kernel
theorem dX10_pairs_21 : decode cX10_pairs 21 = .ok (.getfield 26, 3) := by decide +kernel
theorem dX10_pairs_24 : decode cX10_pairs 24 = .ok (.invokevirtual 287, 3) := by decide +kernel
theorem dX10_pairs_27 : decode cX10_pairs 27 = .ok (.iload_n 1, 1) := by decide +kernel
theorem dX10_pairs_28 : decode cX10_pairs 28 = .ok (.ifCond .ne 11, 3) := by decide +kernel
theorem dX10_pairs_31 : decode cX10_pairs 31 = .ok (.aload_n 0, 1) := by decide +kernel
theorem dX10_pairs_32 : decode cX10_pairs 32 = .ok (.getfield 65, 3) := by decide +kernel
theorem dX10_pairs_35 : decode cX10_pairs 35 = .ok (.getfield 288, 3) := by decide +kernel
theorem dX10_pairs_38 : decode cX10_pairs 38 = .ok (.ireturn, 1) := by decide +kernel
theorem dX10_pairs_39 : decode cX10_pairs 39 = .ok (.iload_n 1, 1) := by decide +kernel
theorem dX10_pairs_40 : decode cX10_pairs 40 = .ok (.iconst 1, 1) := by decide +kernel
theorem dX10_pairs_41 : decode cX10_pairs 41 = .ok (.if_icmp .ne 13, 3) := by decide +kernel
theorem dX10_pairs_44 : decode cX10_pairs 44 = .ok (.aload_n 0, 1) := by decide +kernel
theorem dX10_pairs_45 : decode cX10_pairs 45 = .ok (.getfield 65, 3) := by decide +kernel
theorem dX10_pairs_48 : decode cX10_pairs 48 = .ok (.getfield 291, 3) := by decide +kernel
theorem dX10_pairs_51 : decode cX10_pairs 51 = .ok (.goto 10, 3) := by decide +kernel
theorem dX10_pairs_54 : decode cX10_pairs 54 = .ok (.aload_n 0, 1) := by decide +kernel
theorem dX10_pairs_55 : decode cX10_pairs 55 = .ok (.getfield 65, 3) := by decide +kernel
theorem dX10_pairs_58 : decode cX10_pairs 58 = .ok (.getfield 294, 3) := by decide +kernel
theorem dX10_pairs_61 : decode cX10_pairs 61 = .ok (.ireturn, 1) := by decide +kernel
set_option maxRecDepth 20000 in
theorem ggX10_ballot_X0_isRowOfAll : GoodIn wsX10_ballot wsX0_isRowOfAll := goodIn_r _ [9, 10, 48, 49, 50, 51] (by decide +kernel) (by decide +kernel)
set_option maxRecDepth 20000 in
theorem gX10_ballot_X0_isRowOfAll : GoodIn wsX10_ballot (wsV RX10 300 RX0 yX0_isRowOfAll wsX0_isRowOfAll) := goodIn_app (goodIn_of _ (by decide +kernel)) ggX10_ballot_X0_isRowOfAll
set_option maxRecDepth 20000 in
theorem ggX10_ballot_X0_add : GoodIn wsX10_ballot wsX0_add := goodIn_r _ [14, 15, 10, 16, 17, 18, 19, 20, 48, 49, 50, 51] (by decide +kernel) (by decide +kernel)
set_option maxRecDepth 20000 in
theorem gX10_ballot_X0_add : GoodIn wsX10_ballot (wsV RX10 303 RX0 yX0_add wsX0_add) := goodIn_app (goodIn_of _ (by decide +kernel)) ggX10_ballot_X0_add
theorem dX10_ballot_0 : decode cX10_ballot 0 = .ok (.aload_n 0, 1) := by decide +kernel
theorem dX10_ballot_1 : decode cX10_ballot 1 = .ok (.getfield 79, 3) := by decide +kernel
theorem dX10_ballot_4 : decode cX10_ballot 4 = .ok (.iload_n 1, 1) := by decide +kernel
theorem dX10_ballot_5 : decode cX10_ballot 5 = .ok (.aload_n 0, 1) := by decide +kernel
theorem dX10_ballot_6 : decode cX10_ballot 6 = .ok (.getfield 10, 3) := by decide +kernel
theorem dX10_ballot_9 : decode cX10_ballot 9 = .ok (.getfield 297, 3) := by decide +kernel
theorem dX10_ballot_12 : decode cX10_ballot 12 = .ok (.invokevirtual 300, 3) := by decide +kernel
theorem dX10_ballot_15 : decode cX10_ballot 15 = .ok (.ifCond .ne 6, 3) := by decide +kernel
theorem dX10_ballot_18 : decode cX10_ballot 18 = .ok (.bipush (-3), 2) := by decide +kernel
theorem dX10_ballot_20 : decode cX10_ballot 20 = .ok (.ireturn, 1) := by decide +kernel
theorem dX10_ballot_21 : decode cX10_ballot 21 = .ok (.aload_n 0, 1) := by decide +kernel
theorem dX10_ballot_22 : decode cX10_ballot 22 = .ok (.getfield 10, 3) := by decide +kernel
theorem dX10_ballot_25 : decode cX10_ballot 25 = .ok (.getfield 297, 3) := by decide +kernel
theorem dX10_ballot_28 : decode cX10_ballot 28 = .ok (.ifCond .ne 6, 3) := by decide +kernel
theorem dX10_ballot_31 : decode cX10_ballot 31 = .ok (.bipush (-4), 2) := by decide +kernel
theorem dX10_ballot_33 : decode cX10_ballot 33 = .ok (.ireturn, 1) := by decide +kernel
theorem dX10_ballot_34 : decode cX10_ballot 34 = .ok (.aload_n 0, 1) := by decide +kernel
theorem dX10_ballot_35 : decode cX10_ballot 35 = .ok (.getfield 79, 3) := by decide +kernel
theorem dX10_ballot_38 : decode cX10_ballot 38 = .ok (.aload_n 0, 1) := by decide +kernel
theorem dX10_ballot_39 : decode cX10_ballot 39 = .ok (.getfield 10, 3) := by decide +kernel
theorem dX10_ballot_42 : decode cX10_ballot 42 = .ok (.getfield 297, 3) := by decide +kernel
theorem dX10_ballot_45 : decode cX10_ballot 45 = .ok (.invokevirtual 303, 3) := by decide +kernel
theorem dX10_ballot_48 : decode cX10_ballot 48 = .ok (.ifCond .eq 13, 3) := by decide +kernel
theorem dX10_ballot_51 : decode cX10_ballot 51 = .ok (.aload_n 0, 1) := by decide +kernel
theorem dX10_ballot_52 : decode cX10_ballot 52 = .ok (.getfield 79, 3) := by decide +kernel
theorem dX10_ballot_55 : decode cX10_ballot 55 = .ok (.getfield 121, 3) := by decide +kernel
theorem dX10_ballot_58 : decode cX10_ballot 58 = .ok (.goto 5, 3) := by decide +kernel
theorem dX10_ballot_61 : decode cX10_ballot 61 = .ok (.bipush (-5), 2) := by decide +kernel
theorem dX10_ballot_63 : decode cX10_ballot 63 = .ok (.ireturn, 1) := by decide +kernel
set_option maxRecDepth 20000 in
theorem ggX10_mayor_X10_isOutside : GoodIn wsX10_mayor wsX10_isOutside := goodIn_r _ [8] (by decide +kernel) (by decide +kernel)
set_option maxRecDepth 20000 in
theorem gX10_mayor_X10_isOutside : GoodIn wsX10_mayor (va_wsS RX10 94 yX10_isOutside wsX10_isOutside) := goodIn_app (goodIn_of _ (by decide +kernel)) ggX10_mayor_X10_isOutside
set_option maxRecDepth 20000 in
theorem ggX10_mayor_X0_mayorByFirsts : GoodIn wsX10_mayor wsX0_mayorByFirsts := goodIn_r _ [13, 14, 15, 16, 12, 17, 18, 19, 20, 21, 22, 23, 24, 25, 26, 27, 28, 29, 30, 31, 32, 53, 54, 55, 56] (by decide +kernel) (by decide +kernel)
set_option maxRecDepth 20000 in
theorem gX10_mayor_X0_mayorByFirsts : GoodIn wsX10_mayor (wsV RX10 304 RX0 yX0_mayorByFirsts wsX0_mayorByFirsts) := goodIn_app (goodIn_of _ (by decide +kernel)) ggX10_mayor_X0_mayorByFirsts
set_option maxRecDepth 20000 in
theorem ggX10_mayor_X0_mayorByPoints : GoodIn wsX10_mayor wsX0_mayorByPoints := goodIn_r _ [36, 18, 37, 38, 39, 12, 40, 19, 24, 25, 26, 27, 28, 29, 30, 31, 32, 53, 54, 55, 56] (by decide +kernel) (by decide +kernel)
set_option maxRecDepth 20000 in
theorem gX10_mayor_X0_mayorByPoints : GoodIn wsX10_mayor (wsV RX10 307 RX0 yX0_mayorByPoints wsX0_mayorByPoints) := goodIn_app (goodIn_of _ (by decide +kernel)) ggX10_mayor_X0_mayorByPoints
theorem dX10_mayor_0 : decode cX10_mayor 0 = .ok (.iload_n 1, 1) := by decide +kernel
theorem dX10_mayor_1 : decode cX10_mayor 1 = .ok (.iconst 0, 1) := by decide +kernel
theorem dX10_mayor_2 : decode cX10_mayor 2 = .ok (.iconst 1, 1) := by decide +kernel
theorem dX10_mayor_3 : decode cX10_mayor 3 = .ok (.invokestatic 94, 3) := by decide +kernel
theorem dX10_mayor_6 : decode cX10_mayor 6 = .ok (.ifCond .eq 6, 3) := by decide +kernel
theorem dX10_mayor_9 : decode cX10_mayor 9 = .ok (.bipush (-3), 2) := by decide +kernel
theorem dX10_mayor_11 : decode cX10_mayor 11 = .ok (.ireturn, 1) := by decide +kernel
theorem dX10_mayor_12 : decode cX10_mayor 12 = .ok (.aload_n 0, 1) := by decide +kernel
theorem dX10_mayor_13 : decode cX10_mayor 13 = .ok (.getfield 79, 3) := by decide +kernel
theorem dX10_mayor_16 : decode cX10_mayor 16 = .ok (.getfield 121, 3) := by decide +kernel
theorem dX10_mayor_19 : decode cX10_mayor 19 = .ok (.ifCond .ne 5, 3) := by decide +kernel
theorem dX10_mayor_22 : decode cX10_mayor 22 = .ok (.iconst (-1), 1) := by decide +kernel
theorem dX10_mayor_23 : decode cX10_mayor 23 = .ok (.ireturn, 1) := by decide +kernel
theorem dX10_mayor_24 : decode cX10_mayor 24 = .ok (.iload_n 1, 1) := by decide +kernel
theorem dX10_mayor_25 : decode cX10_mayor 25 = .ok (.ifCond .ne 20, 3) := by decide +kernel
theorem dX10_mayor_28 : decode cX10_mayor 28 = .ok (.aload_n 0, 1) := by decide +kernel
theorem dX10_mayor_29 : decode cX10_mayor 29 = .ok (.getfield 79, 3) := by decide +kernel
theorem dX10_mayor_32 : decode cX10_mayor 32 = .ok (.aload_n 0, 1) := by decide +kernel
theorem dX10_mayor_33 : decode cX10_mayor 33 = .ok (.getfield 10, 3) := by decide +kernel
theorem dX10_mayor_36 : decode cX10_mayor 36 = .ok (.getfield 297, 3) := by decide +kernel
theorem dX10_mayor_39 : decode cX10_mayor 39 = .ok (.invokevirtual 304, 3) := by decide +kernel
theorem dX10_mayor_42 : decode cX10_mayor 42 = .ok (.goto 17, 3) := by decide +kernel
theorem dX10_mayor_45 : decode cX10_mayor 45 = .ok (.aload_n 0, 1) := by decide +kernel
theorem dX10_mayor_46 : decode cX10_mayor 46 = .ok (.getfield 79, 3) := by decide +kernel
theorem dX10_mayor_49 : decode cX10_mayor 49 = .ok (.aload_n 0, 1) := by decide +kernel
theorem dX10_mayor_50 : decode cX10_mayor 50 = .ok (.getfield 10, 3) := by decide +kernel
theorem dX10_mayor_53 : decode cX10_mayor 53 = .ok (.getfield 297, 3) := by decide +kernel
theorem dX10_mayor_56 : decode cX10_mayor 56 = .ok (.invokevirtual 307, 3) := by decide +kernel
theorem dX10_mayor_59 : decode cX10_mayor 59 = .ok (.ireturn, 1) := by decide +kernel
set_option maxRecDepth 20000 in
theorem ggX10_points_X10_isNoOne : GoodIn wsX10_points wsX10_isNoOne := goodIn_r _ [8, 2, 3, 20, 21, 22, 23, 24, 25, 26, 27, 28, 29, 30, 31, 32, 33, 34, 35, 36, 37, 38, 39, 40, 41, 42, 43, 44, 45, 46] (by decide +kernel) (by decide +kernel)
set_option maxRecDepth 20000 in
theorem gX10_points_X10_isNoOne : GoodIn wsX10_points (wsV RX10 125 RX10 yX10_isNoOne wsX10_isNoOne) := goodIn_app (goodIn_of _ (by decide +kernel)) ggX10_points_X10_isNoOne
set_option maxRecDepth 20000 in
theorem ggX10_points_X0_pointsOf : GoodIn wsX10_points wsX0_pointsOf := goodIn_r _ [13, 14, 15, 16, 17, 12, 18, 19, 47, 48, 49, 50] (by decide +kernel) (by decide +kernel)
set_option maxRecDepth 20000 in
theorem gX10_points_X0_pointsOf : GoodIn wsX10_points (wsV RX10 310 RX0 yX0_pointsOf wsX0_pointsOf) := goodIn_app (goodIn_of _ (by decide +kernel)) ggX10_points_X0_pointsOf
theorem dX10_points_0 : decode cX10_points 0 = .ok (.aload_n 0, 1) := by decide +kernel
theorem dX10_points_1 : decode cX10_points 1 = .ok (.iload_n 1, 1) := by decide +kernel
theorem dX10_points_2 : decode cX10_points 2 = .ok (.invokevirtual 125, 3) := by decide +kernel
theorem dX10_points_5 : decode cX10_points 5 = .ok (.ifCond .eq 8, 3) := by decide +kernel
theorem dX10_points_8 : decode cX10_points 8 = .ok (.bipush (-2), 2) := by decide +kernel
theorem dX10_points_10 : decode cX10_points 10 = .ok (.goto 18, 3) := by decide +kernel
theorem dX10_points_13 : decode cX10_points 13 = .ok (.aload_n 0, 1) := by decide +kernel
theorem dX10_points_14 : decode cX10_points 14 = .ok (.getfield 79, 3) := by decide +kernel
theorem dX10_points_17 : decode cX10_points 17 = .ok (.iload_n 1, 1) := by decide +kernel
theorem dX10_points_18 : decode cX10_points 18 = .ok (.aload_n 0, 1) := by decide +kernel
theorem dX10_points_19 : decode cX10_points 19 = .ok (.getfield 10, 3) := by decide +kernel
theorem dX10_points_22 : decode cX10_points 22 = .ok (.getfield 297, 3) := by decide +kernel
theorem dX10_points_25 : decode cX10_points 25 = .ok (.invokevirtual 310, 3) := by decide +kernel
theorem dX10_points_28 : decode cX10_points 28 = .ok (.ireturn, 1) := by decide +kernel
set_option maxRecDepth 20000 in
theorem ggX10_swing_X0_swingBits : GoodIn wsX10_swing wsX0_swingBits := goodIn_r _ [9, 10, 11, 12, 13, 8, 14, 15, 16, 17, 18, 19, 20, 21, 22, 23, 24, 25, 26, 27, 28, 29, 30, 31, 32, 33, 34, 35, 36, 49, 50, 51, 52] (by decide +kernel) (by decide +kernel)
set_option maxRecDepth 20000 in
theorem gX10_swing_X0_swingBits : GoodIn wsX10_swing (wsV RX10 313 RX0 yX0_swingBits wsX0_swingBits) := goodIn_app (goodIn_of _ (by decide +kernel)) ggX10_swing_X0_swingBits
theorem dX10_swing_0 : decode cX10_swing 0 = .ok (.aload_n 0, 1) := by decide +kernel
theorem dX10_swing_1 : decode cX10_swing 1 = .ok (.getfield 79, 3) := by decide +kernel
theorem dX10_swing_4 : decode cX10_swing 4 = .ok (.getfield 121, 3) := by decide +kernel
theorem dX10_swing_7 : decode cX10_swing 7 = .ok (.ifCond .ne 7, 3) := by decide +kernel
theorem dX10_swing_10 : decode cX10_swing 10 = .ok (.iconst 0, 1) := by decide +kernel
theorem dX10_swing_11 : decode cX10_swing 11 = .ok (.goto 17, 3) := by decide +kernel
theorem dX10_swing_14 : decode cX10_swing 14 = .ok (.aload_n 0, 1) := by decide +kernel
theorem dX10_swing_15 : decode cX10_swing 15 = .ok (.getfield 79, 3) := by decide +kernel
theorem dX10_swing_18 : decode cX10_swing 18 = .ok (.aload_n 0, 1) := by decide +kernel
theorem dX10_swing_19 : decode cX10_swing 19 = .ok (.getfield 10, 3) := by decide +kernel
theorem dX10_swing_22 : decode cX10_swing 22 = .ok (.getfield 297, 3) := by decide +kernel
theorem dX10_swing_25 : decode cX10_swing 25 = .ok (.invokevirtual 313, 3) := by decide +kernel
theorem dX10_swing_28 : decode cX10_swing 28 = .ok (.ireturn, 1) := by decide +kernel
set_option maxRecDepth 20000 in
theorem ggX10_count_X3_holdingBits : GoodIn wsX10_count wsX3_holdingBits := goodIn_r _ [25, 26, 54, 55, 56, 57, 58, 59, 60, 61, 62, 63] (by decide +kernel) (by decide +kernel)
set_option maxRecDepth 20000 in
theorem gX10_count_X3_holdingBits : GoodIn wsX10_count (wsV RX10 319 RX3 yX3_holdingBits wsX3_holdingBits) := goodIn_app (goodIn_of _ (by decide +kernel)) ggX10_count_X3_holdingBits
theorem dX10_count_0 : decode cX10_count 0 = .ok (.iload_n 1, 1) := by decide +kernel
theorem dX10_count_1 : decode cX10_count 1 = .ok (.tableswitch 190 0 13 #[71, 79, 87, 95, 103, 111, 119, 127, 142, 150, 158, 166, 174, 182], 71) := by decide +kernel
theorem dX10_count_72 : decode cX10_count 72 = .ok (.aload_n 0, 1) := by decide +kernel
theorem dX10_count_73 : decode cX10_count 73 = .ok (.getfield 10, 3) := by decide +kernel
theorem dX10_count_76 : decode cX10_count 76 = .ok (.getfield 297, 3) := by decide +kernel
theorem dX10_count_79 : decode cX10_count 79 = .ok (.ireturn, 1) := by decide +kernel
theorem dX10_count_80 : decode cX10_count 80 = .ok (.aload_n 0, 1) := by decide +kernel
theorem dX10_count_81 : decode cX10_count 81 = .ok (.getfield 10, 3) := by decide +kernel
theorem dX10_count_84 : decode cX10_count 84 = .ok (.getfield 184, 3) := by decide +kernel
theorem dX10_count_87 : decode cX10_count 87 = .ok (.ireturn, 1) := by decide +kernel
theorem dX10_count_88 : decode cX10_count 88 = .ok (.aload_n 0, 1) := by decide +kernel
theorem dX10_count_89 : decode cX10_count 89 = .ok (.getfield 10, 3) := by decide +kernel
theorem dX10_count_92 : decode cX10_count 92 = .ok (.getfield 316, 3) := by decide +kernel
theorem dX10_count_95 : decode cX10_count 95 = .ok (.ireturn, 1) := by decide +kernel
theorem dX10_count_96 : decode cX10_count 96 = .ok (.aload_n 0, 1) := by decide +kernel
theorem dX10_count_97 : decode cX10_count 97 = .ok (.getfield 10, 3) := by decide +kernel
theorem dX10_count_100 : decode cX10_count 100 = .ok (.getfield 87, 3) := by decide +kernel
theorem dX10_count_103 : decode cX10_count 103 = .ok (.ireturn, 1) := by decide +kernel
theorem dX10_count_104 : decode cX10_count 104 = .ok (.aload_n 0, 1) := by decide +kernel
theorem dX10_count_105 : decode cX10_count 105 = .ok (.getfield 26, 3) := by decide +kernel
theorem dX10_count_108 : decode cX10_count 108 = .ok (.getfield 172, 3) := by decide +kernel
theorem dX10_count_111 : decode cX10_count 111 = .ok (.ireturn, 1) := by decide +kernel
theorem dX10_count_112 : decode cX10_count 112 = .ok (.aload_n 0, 1) := by decide +kernel
theorem dX10_count_113 : decode cX10_count 113 = .ok (.getfield 26, 3) := by decide +kernel
theorem dX10_count_116 : decode cX10_count 116 = .ok (.getfield 256, 3) := by decide +kernel
theorem dX10_count_119 : decode cX10_count 119 = .ok (.ireturn, 1) := by decide +kernel
theorem dX10_count_120 : decode cX10_count 120 = .ok (.aload_n 0, 1) := by decide +kernel
theorem dX10_count_121 : decode cX10_count 121 = .ok (.getfield 26, 3) := by decide +kernel
theorem dX10_count_124 : decode cX10_count 124 = .ok (.getfield 207, 3) := by decide +kernel
theorem dX10_count_127 : decode cX10_count 127 = .ok (.ireturn, 1) := by decide +kernel
theorem dX10_count_128 : decode cX10_count 128 = .ok (.aload_n 0, 1) := by decide +kernel
theorem dX10_count_129 : decode cX10_count 129 = .ok (.getfield 26, 3) := by decide +kernel
theorem dX10_count_132 : decode cX10_count 132 = .ok (.aload_n 0, 1) := by decide +kernel
theorem dX10_count_133 : decode cX10_count 133 = .ok (.getfield 10, 3) := by decide +kernel
theorem dX10_count_136 : decode cX10_count 136 = .ok (.getfield 184, 3) := by decide +kernel
theorem dX10_count_139 : decode cX10_count 139 = .ok (.invokevirtual 319, 3) := by decide +kernel
theorem dX10_count_142 : decode cX10_count 142 = .ok (.ireturn, 1) := by decide +kernel
theorem dX10_count_143 : decode cX10_count 143 = .ok (.aload_n 0, 1) := by decide +kernel
theorem dX10_count_144 : decode cX10_count 144 = .ok (.getfield 26, 3) := by decide +kernel
theorem dX10_count_147 : decode cX10_count 147 = .ok (.getfield 204, 3) := by decide +kernel
theorem dX10_count_150 : decode cX10_count 150 = .ok (.ireturn, 1) := by decide +kernel
theorem dX10_count_151 : decode cX10_count 151 = .ok (.aload_n 0, 1) := by decide +kernel
theorem dX10_count_152 : decode cX10_count 152 = .ok (.getfield 72, 3) := by decide +kernel
theorem dX10_count_155 : decode cX10_count 155 = .ok (.getfield 120, 3) := by decide +kernel
theorem dX10_count_158 : decode cX10_count 158 = .ok (.ireturn, 1) := by decide +kernel
theorem dX10_count_159 : decode cX10_count 159 = .ok (.aload_n 0, 1) := by decide +kernel
theorem dX10_count_160 : decode cX10_count 160 = .ok (.getfield 79, 3) := by decide +kernel
theorem dX10_count_163 : decode cX10_count 163 = .ok (.getfield 121, 3) := by decide +kernel
theorem dX10_count_166 : decode cX10_count 166 = .ok (.ireturn, 1) := by decide +kernel
theorem dX10_count_167 : decode cX10_count 167 = .ok (.aload_n 0, 1) := by decide +kernel
theorem dX10_count_168 : decode cX10_count 168 = .ok (.getfield 58, 3) := by decide +kernel
theorem dX10_count_171 : decode cX10_count 171 = .ok (.getfield 117, 3) := by decide +kernel
theorem dX10_count_174 : decode cX10_count 174 = .ok (.ireturn, 1) := by decide +kernel
theorem dX10_count_175 : decode cX10_count 175 = .ok (.aload_n 0, 1) := by decide +kernel
theorem dX10_count_176 : decode cX10_count 176 = .ok (.getfield 33, 3) := by decide +kernel
theorem dX10_count_179 : decode cX10_count 179 = .ok (.getfield 116, 3) := by decide +kernel
theorem dX10_count_182 : decode cX10_count 182 = .ok (.ireturn, 1) := by decide +kernel
theorem dX10_count_183 : decode cX10_count 183 = .ok (.aload_n 0, 1) := by decide +kernel
theorem dX10_count_184 : decode cX10_count 184 = .ok (.getfield 19, 3) := by decide +kernel
theorem dX10_count_187 : decode cX10_count 187 = .ok (.getfield 102, 3) := by decide +kernel
theorem dX10_count_190 : decode cX10_count 190 = .ok (.ireturn, 1) := by decide +kernel
theorem dX10_count_191 : decode cX10_count 191 = .ok (.bipush (-3), 2) := by decide +kernel
theorem dX10_count_193 : decode cX10_count 193 = .ok (.ireturn, 1) := by decide +kernel
theorem dX10_isOutside_0 : decode cX10_isOutside 0 = .ok (.iload_n 0, 1) := by decide +kernel
theorem dX10_isOutside_1 : decode cX10_isOutside 1 = .ok (.iload_n 1, 1) := by decide +kernel
theorem dX10_isOutside_2 : decode cX10_isOutside 2 = .ok (.if_icmp .lt 8, 3) := by decide +kernel
theorem dX10_isOutside_5 : decode cX10_isOutside 5 = .ok (.iload_n 0, 1) := by decide +kernel
theorem dX10_isOutside_6 : decode cX10_isOutside 6 = .ok (.iload_n 2, 1) := by decide +kernel
theorem dX10_isOutside_7 : decode cX10_isOutside 7 = .ok (.if_icmp .le 7, 3) := by decide +kernel
theorem dX10_isOutside_10 : decode cX10_isOutside 10 = .ok (.iconst 1, 1) := by decide +kernel
theorem dX10_isOutside_11 : decode cX10_isOutside 11 = .ok (.goto 4, 3) := by decide +kernel
theorem dX10_isOutside_14 : decode cX10_isOutside 14 = .ok (.iconst 0, 1) := by decide +kernel
theorem dX10_isOutside_15 : decode cX10_isOutside 15 = .ok (.ireturn, 1) := by decide +kernel
theorem dX10_bitOf_0 : decode cX10_bitOf 0 = .ok (.iload_n 0, 1) := by decide +kernel
theorem dX10_bitOf_1 : decode cX10_bitOf 1 = .ok (.iload_n 1, 1) := by decide +kernel
theorem dX10_bitOf_2 : decode cX10_bitOf 2 = .ok (.ishr, 1) := by decide +kernel
theorem dX10_bitOf_3 : decode cX10_bitOf 3 = .ok (.iconst 1, 1) := by decide +kernel
theorem dX10_bitOf_4 : decode cX10_bitOf 4 = .ok (.iand, 1) := by decide +kernel
theorem dX10_bitOf_5 : decode cX10_bitOf 5 = .ok (.ireturn, 1) := by decide +kernel
theorem dX10_isNoOne_0 : decode cX10_isNoOne 0 = .ok (.iload_n 1, 1) := by decide +kernel
theorem dX10_isNoOne_1 : decode cX10_isNoOne 1 = .ok (.ifCond .lt 14, 3) := by decide +kernel
theorem dX10_isNoOne_4 : decode cX10_isNoOne 4 = .ok (.iload_n 1, 1) := by decide +kernel
theorem dX10_isNoOne_5 : decode cX10_isNoOne 5 = .ok (.aload_n 0, 1) := by decide +kernel
theorem dX10_isNoOne_6 : decode cX10_isNoOne 6 = .ok (.getfield 10, 3) := by decide +kernel
theorem dX10_isNoOne_9 : decode cX10_isNoOne 9 = .ok (.getfield 297, 3) := by decide +kernel
theorem dX10_isNoOne_12 : decode cX10_isNoOne 12 = .ok (.if_icmp .lt 7, 3) := by decide +kernel
theorem dX10_isNoOne_15 : decode cX10_isNoOne 15 = .ok (.iconst 1, 1) := by decide +kernel
theorem dX10_isNoOne_16 : decode cX10_isNoOne 16 = .ok (.goto 4, 3) := by decide +kernel
theorem dX10_isNoOne_19 : decode cX10_isNoOne 19 = .ok (.iconst 0, 1) := by decide +kernel
theorem dX10_isNoOne_20 : decode cX10_isNoOne 20 = .ok (.ireturn, 1) := by decide +kernel
theorem dX10_isNoWork_0 : decode cX10_isNoWork 0 = .ok (.iload_n 1, 1) := by decide +kernel
theorem dX10_isNoWork_1 : decode cX10_isNoWork 1 = .ok (.ifCond .lt 14, 3) := by decide +kernel
theorem dX10_isNoWork_4 : decode cX10_isNoWork 4 = .ok (.iload_n 1, 1) := by decide +kernel
theorem dX10_isNoWork_5 : decode cX10_isNoWork 5 = .ok (.aload_n 0, 1) := by decide +kernel
theorem dX10_isNoWork_6 : decode cX10_isNoWork 6 = .ok (.getfield 10, 3) := by decide +kernel
theorem dX10_isNoWork_9 : decode cX10_isNoWork 9 = .ok (.getfield 184, 3) := by decide +kernel
theorem dX10_isNoWork_12 : decode cX10_isNoWork 12 = .ok (.if_icmp .lt 7, 3) := by decide +kernel
theorem dX10_isNoWork_15 : decode cX10_isNoWork 15 = .ok (.iconst 1, 1) := by decide +kernel
theorem dX10_isNoWork_16 : decode cX10_isNoWork 16 = .ok (.goto 4, 3) := by decide +kernel
theorem dX10_isNoWork_19 : decode cX10_isNoWork 19 = .ok (.iconst 0, 1) := by decide +kernel
theorem dX10_isNoWork_20 : decode cX10_isNoWork 20 = .ok (.ireturn, 1) := by decide +kernel
theorem dX10_isNoGood_0 : decode cX10_isNoGood 0 = .ok (.iload_n 1, 1) := by decide +kernel
theorem dX10_isNoGood_1 : decode cX10_isNoGood 1 = .ok (.ifCond .lt 14, 3) := by decide +kernel
theorem dX10_isNoGood_4 : decode cX10_isNoGood 4 = .ok (.iload_n 1, 1) := by decide +kernel
theorem dX10_isNoGood_5 : decode cX10_isNoGood 5 = .ok (.aload_n 0, 1) := by decide +kernel
theorem dX10_isNoGood_6 : decode cX10_isNoGood 6 = .ok (.getfield 10, 3) := by decide +kernel
theorem dX10_isNoGood_9 : decode cX10_isNoGood 9 = .ok (.getfield 316, 3) := by decide +kernel
theorem dX10_isNoGood_12 : decode cX10_isNoGood 12 = .ok (.if_icmp .lt 7, 3) := by decide +kernel
theorem dX10_isNoGood_15 : decode cX10_isNoGood 15 = .ok (.iconst 1, 1) := by decide +kernel
theorem dX10_isNoGood_16 : decode cX10_isNoGood 16 = .ok (.goto 4, 3) := by decide +kernel
theorem dX10_isNoGood_19 : decode cX10_isNoGood 19 = .ok (.iconst 0, 1) := by decide +kernel
theorem dX10_isNoGood_20 : decode cX10_isNoGood 20 = .ok (.ireturn, 1) := by decide +kernel
theorem dX10_isNoWorld_0 : decode cX10_isNoWorld 0 = .ok (.iload_n 0, 1) := by decide +kernel
theorem dX10_isNoWorld_1 : decode cX10_isNoWorld 1 = .ok (.ifCond .lt 8, 3) := by decide +kernel
theorem dX10_isNoWorld_4 : decode cX10_isNoWorld 4 = .ok (.iload_n 0, 1) := by decide +kernel
theorem dX10_isNoWorld_5 : decode cX10_isNoWorld 5 = .ok (.iconst 4, 1) := by decide +kernel
theorem dX10_isNoWorld_6 : decode cX10_isNoWorld 6 = .ok (.if_icmp .lt 7, 3) := by decide +kernel
theorem dX10_isNoWorld_9 : decode cX10_isNoWorld 9 = .ok (.iconst 1, 1) := by decide +kernel
theorem dX10_isNoWorld_10 : decode cX10_isNoWorld 10 = .ok (.goto 4, 3) := by decide +kernel
theorem dX10_isNoWorld_13 : decode cX10_isNoWorld 13 = .ok (.iconst 0, 1) := by decide +kernel
theorem dX10_isNoWorld_14 : decode cX10_isNoWorld 14 = .ok (.ireturn, 1) := by decide +kernel
set_option maxRecDepth 20000 in
theorem ggX10_canDo_X10_bitOf : GoodIn wsX10_canDo wsX10_bitOf := goodIn_r _ [10] (by decide +kernel) (by decide +kernel)
set_option maxRecDepth 20000 in
theorem gX10_canDo_X10_bitOf : GoodIn wsX10_canDo (va_wsS RX10 144 yX10_bitOf wsX10_bitOf) := goodIn_app (goodIn_of _ (by decide +kernel)) ggX10_canDo_X10_bitOf
set_option maxRecDepth 20000 in
theorem ggX10_canDo_X8_skillBitsOf : GoodIn wsX10_canDo wsX8_skillBitsOf := goodIn_r _ [15, 16, 39, 40, 41, 42, 43, 44, 45, 46, 47, 48, 49, 50, 51, 52, 53] (by decide +kernel) (by decide +kernel)
set_option maxRecDepth 20000 in
theorem gX10_canDo_X8_skillBitsOf : GoodIn wsX10_canDo (wsV RX10 322 RX8 yX8_skillBitsOf wsX8_skillBitsOf) := goodIn_app (goodIn_of _ (by decide +kernel)) ggX10_canDo_X8_skillBitsOf
theorem dX10_canDo_0 : decode cX10_canDo 0 = .ok (.aload_n 0, 1) := by decide +kernel
theorem dX10_canDo_1 : decode cX10_canDo 1 = .ok (.getfield 26, 3) := by decide +kernel
theorem dX10_canDo_4 : decode cX10_canDo 4 = .ok (.getfield 141, 3) := by decide +kernel
theorem dX10_canDo_7 : decode cX10_canDo 7 = .ok (.iload_n 1, 1) := by decide +kernel
theorem dX10_canDo_8 : decode cX10_canDo 8 = .ok (.invokestatic 144, 3) := by decide +kernel
theorem dX10_canDo_11 : decode cX10_canDo 11 = .ok (.ifCond .ne 52, 3) := by decide +kernel
theorem dX10_canDo_14 : decode cX10_canDo 14 = .ok (.aload_n 0, 1) := by decide +kernel
theorem dX10_canDo_15 : decode cX10_canDo 15 = .ok (.getfield 10, 3) := by decide +kernel
theorem dX10_canDo_18 : decode cX10_canDo 18 = .ok (.iload_n 1, 1) := by decide +kernel
theorem dX10_canDo_19 : decode cX10_canDo 19 = .ok (.invokevirtual 322, 3) := by decide +kernel
theorem dX10_canDo_22 : decode cX10_canDo 22 = .ok (.aload_n 0, 1) := by decide +kernel
theorem dX10_canDo_23 : decode cX10_canDo 23 = .ok (.getfield 10, 3) := by decide +kernel
theorem dX10_canDo_26 : decode cX10_canDo 26 = .ok (.getfield 154, 3) := by decide +kernel
theorem dX10_canDo_29 : decode cX10_canDo 29 = .ok (.iload_n 2, 1) := by decide +kernel
theorem dX10_canDo_30 : decode cX10_canDo 30 = .ok (.iaload, 1) := by decide +kernel
theorem dX10_canDo_31 : decode cX10_canDo 31 = .ok (.invokestatic 144, 3) := by decide +kernel
theorem dX10_canDo_34 : decode cX10_canDo 34 = .ok (.iconst 1, 1) := by decide +kernel
theorem dX10_canDo_35 : decode cX10_canDo 35 = .ok (.if_icmp .ne 28, 3) := by decide +kernel
theorem dX10_canDo_38 : decode cX10_canDo 38 = .ok (.aload_n 0, 1) := by decide +kernel
theorem dX10_canDo_39 : decode cX10_canDo 39 = .ok (.getfield 10, 3) := by decide +kernel
theorem dX10_canDo_42 : decode cX10_canDo 42 = .ok (.getfield 157, 3) := by decide +kernel
theorem dX10_canDo_45 : decode cX10_canDo 45 = .ok (.iload_n 2, 1) := by decide +kernel
theorem dX10_canDo_46 : decode cX10_canDo 46 = .ok (.iaload, 1) := by decide +kernel
theorem dX10_canDo_47 : decode cX10_canDo 47 = .ok (.aload_n 0, 1) := by decide +kernel
theorem dX10_canDo_48 : decode cX10_canDo 48 = .ok (.getfield 26, 3) := by decide +kernel
theorem dX10_canDo_51 : decode cX10_canDo 51 = .ok (.getfield 135, 3) := by decide +kernel
theorem dX10_canDo_54 : decode cX10_canDo 54 = .ok (.iload_n 1, 1) := by decide +kernel
theorem dX10_canDo_55 : decode cX10_canDo 55 = .ok (.iaload, 1) := by decide +kernel
theorem dX10_canDo_56 : decode cX10_canDo 56 = .ok (.if_icmp .gt 7, 3) := by decide +kernel
theorem dX10_canDo_59 : decode cX10_canDo 59 = .ok (.iconst 1, 1) := by decide +kernel
theorem dX10_canDo_60 : decode cX10_canDo 60 = .ok (.goto 4, 3) := by decide +kernel
theorem dX10_canDo_63 : decode cX10_canDo 63 = .ok (.iconst 0, 1) := by decide +kernel
theorem dX10_canDo_64 : decode cX10_canDo 64 = .ok (.ireturn, 1) := by decide +kernel
