theorem dX11_oversleep_60 : decode cX11_oversleep 60 = .ok (.iastore, 1) := by decide +kernel
theorem dX11_oversleep_61 : decode cX11_oversleep 61 = .ok (.iload_n 3, 1) := by decide +kernel
theorem dX11_oversleep_62 : decode cX11_oversleep 62 = .ok (.ireturn, 1) := by decide +kernel
set_option maxRecDepth 20000 in
theorem ggX11_sleep_X11_in : GoodIn wsX11_sleep wsX11_in := goodIn_r _ [12] (by decide +kernel) (by decide +kernel)
set_option maxRecDepth 20000 in
theorem gX11_sleep_X11_in : GoodIn wsX11_sleep (va_wsS RX11 65 yX11_in wsX11_in) := goodIn_app (goodIn_of _ (by decide +kernel)) ggX11_sleep_X11_in
set_option maxRecDepth 20000 in
theorem ggX11_sleep_X11_minds : GoodIn wsX11_sleep wsX11_minds := goodIn_r _ [16, 17, 2, 18, 19, 20, 11, 21, 22, 23, 24, 25, 26, 27, 28, 29, 30, 31, 32, 33, 34, 35, 36, 37, 38, 39, 40, 41, 42, 43, 44, 45, 46, 47, 48, 49, 50] (by decide +kernel) (by decide +kernel)
set_option maxRecDepth 20000 in
theorem gX11_sleep_X11_minds : GoodIn wsX11_sleep (wsV RX11 202 RX11 yX11_minds wsX11_minds) := goodIn_app (goodIn_of _ (by decide +kernel)) ggX11_sleep_X11_minds
theorem dX11_sleep_0 : decode cX11_sleep 0 = .ok (.iload_n 1, 1) := by decide +kernel
theorem dX11_sleep_1 : decode cX11_sleep 1 = .ok (.i2l, 1) := by decide +kernel
theorem dX11_sleep_2 : decode cX11_sleep 2 = .ok (.lconst 0, 1) := by decide +kernel
theorem dX11_sleep_3 : decode cX11_sleep 3 = .ok (.ldc2_w 214, 3) := by decide +kernel
theorem dX11_sleep_6 : decode cX11_sleep 6 = .ok (.invokestatic 65, 3) := by decide +kernel
theorem dX11_sleep_9 : decode cX11_sleep 9 = .ok (.ifCond .ne 6, 3) := by decide +kernel
theorem dX11_sleep_12 : decode cX11_sleep 12 = .ok (.bipush (-3), 2) := by decide +kernel
theorem dX11_sleep_14 : decode cX11_sleep 14 = .ok (.ireturn, 1) := by decide +kernel
theorem dX11_sleep_15 : decode cX11_sleep 15 = .ok (.aload_n 0, 1) := by decide +kernel
theorem dX11_sleep_16 : decode cX11_sleep 16 = .ok (.getfield 13, 3) := by decide +kernel
theorem dX11_sleep_19 : decode cX11_sleep 19 = .ok (.bipush 20, 2) := by decide +kernel
theorem dX11_sleep_21 : decode cX11_sleep 21 = .ok (.iaload, 1) := by decide +kernel
theorem dX11_sleep_22 : decode cX11_sleep 22 = .ok (.sipush 999, 3) := by decide +kernel
theorem dX11_sleep_25 : decode cX11_sleep 25 = .ok (.if_icmp .ne 6, 3) := by decide +kernel
theorem dX11_sleep_28 : decode cX11_sleep 28 = .ok (.bipush (-5), 2) := by decide +kernel
theorem dX11_sleep_30 : decode cX11_sleep 30 = .ok (.ireturn, 1) := by decide +kernel
theorem dX11_sleep_31 : decode cX11_sleep 31 = .ok (.aload_n 0, 1) := by decide +kernel
theorem dX11_sleep_32 : decode cX11_sleep 32 = .ok (.invokevirtual 202, 3) := by decide +kernel
theorem dX11_sleep_35 : decode cX11_sleep 35 = .ok (.iconst 0, 1) := by decide +kernel
theorem dX11_sleep_36 : decode cX11_sleep 36 = .ok (.istore_n 2, 1) := by decide +kernel
theorem dX11_sleep_37 : decode cX11_sleep 37 = .ok (.iconst 0, 1) := by decide +kernel
theorem dX11_sleep_38 : decode cX11_sleep 38 = .ok (.istore_n 3, 1) := by decide +kernel
theorem dX11_sleep_39 : decode cX11_sleep 39 = .ok (.iload_n 3, 1) := by decide +kernel
theorem dX11_sleep_40 : decode cX11_sleep 40 = .ok (.aload_n 0, 1) := by decide +kernel
theorem dX11_sleep_41 : decode cX11_sleep 41 = .ok (.getfield 7, 3) := by decide +kernel
theorem dX11_sleep_44 : decode cX11_sleep 44 = .ok (.bipush 11, 2) := by decide +kernel
theorem dX11_sleep_46 : decode cX11_sleep 46 = .ok (.iaload, 1) := by decide +kernel
theorem dX11_sleep_47 : decode cX11_sleep 47 = .ok (.if_icmp .ge 58, 3) := by decide +kernel
theorem dX11_sleep_50 : decode cX11_sleep 50 = .ok (.iload_n 2, 1) := by decide +kernel
theorem dX11_sleep_51 : decode cX11_sleep 51 = .ok (.aload_n 0, 1) := by decide +kernel
theorem dX11_sleep_52 : decode cX11_sleep 52 = .ok (.getfield 13, 3) := by decide +kernel
theorem dX11_sleep_55 : decode cX11_sleep 55 = .ok (.iconst 5, 1) := by decide +kernel
theorem dX11_sleep_56 : decode cX11_sleep 56 = .ok (.iload_n 3, 1) := by decide +kernel
theorem dX11_sleep_57 : decode cX11_sleep 57 = .ok (.iadd, 1) := by decide +kernel
theorem dX11_sleep_58 : decode cX11_sleep 58 = .ok (.iaload, 1) := by decide +kernel
theorem dX11_sleep_59 : decode cX11_sleep 59 = .ok (.iconst 1, 1) := by decide +kernel
theorem dX11_sleep_60 : decode cX11_sleep 60 = .ok (.if_icmp .ne 9, 3) := by decide +kernel
theorem dX11_sleep_63 : decode cX11_sleep 63 = .ok (.iconst 1, 1) := by decide +kernel
theorem dX11_sleep_64 : decode cX11_sleep 64 = .ok (.iload_n 3, 1) := by decide +kernel
theorem dX11_sleep_65 : decode cX11_sleep 65 = .ok (.ishl, 1) := by decide +kernel
theorem dX11_sleep_66 : decode cX11_sleep 66 = .ok (.goto 4, 3) := by decide +kernel
theorem dX11_sleep_69 : decode cX11_sleep 69 = .ok (.iconst 0, 1) := by decide +kernel
theorem dX11_sleep_70 : decode cX11_sleep 70 = .ok (.ior, 1) := by decide +kernel
theorem dX11_sleep_71 : decode cX11_sleep 71 = .ok (.istore_n 2, 1) := by decide +kernel
theorem dX11_sleep_72 : decode cX11_sleep 72 = .ok (.aload_n 0, 1) := by decide +kernel
theorem dX11_sleep_73 : decode cX11_sleep 73 = .ok (.getfield 13, 3) := by decide +kernel
theorem dX11_sleep_76 : decode cX11_sleep 76 = .ok (.iconst 5, 1) := by decide +kernel
theorem dX11_sleep_77 : decode cX11_sleep 77 = .ok (.iload_n 3, 1) := by decide +kernel
theorem dX11_sleep_78 : decode cX11_sleep 78 = .ok (.iadd, 1) := by decide +kernel
theorem dX11_sleep_79 : decode cX11_sleep 79 = .ok (.dup2, 1) := by decide +kernel
theorem dX11_sleep_80 : decode cX11_sleep 80 = .ok (.iaload, 1) := by decide +kernel
theorem dX11_sleep_81 : decode cX11_sleep 81 = .ok (.aload_n 0, 1) := by decide +kernel
theorem dX11_sleep_82 : decode cX11_sleep 82 = .ok (.getfield 13, 3) := by decide +kernel
theorem dX11_sleep_85 : decode cX11_sleep 85 = .ok (.iconst 5, 1) := by decide +kernel
theorem dX11_sleep_86 : decode cX11_sleep 86 = .ok (.iload_n 3, 1) := by decide +kernel
theorem dX11_sleep_87 : decode cX11_sleep 87 = .ok (.iadd, 1) := by decide +kernel
theorem dX11_sleep_88 : decode cX11_sleep 88 = .ok (.iaload, 1) := by decide +kernel
theorem dX11_sleep_89 : decode cX11_sleep 89 = .ok (.ifCond .le 7, 3) := by decide +kernel
theorem dX11_sleep_92 : decode cX11_sleep 92 = .ok (.iconst 1, 1) := by decide +kernel
theorem dX11_sleep_93 : decode cX11_sleep 93 = .ok (.goto 4, 3) := by decide +kernel
theorem dX11_sleep_96 : decode cX11_sleep 96 = .ok (.iconst 0, 1) := by decide +kernel
theorem dX11_sleep_97 : decode cX11_sleep 97 = .ok (.isub, 1) := by decide +kernel
theorem dX11_sleep_98 : decode cX11_sleep 98 = .ok (.iastore, 1) := by decide +kernel
theorem dX11_sleep_99 : decode cX11_sleep 99 = .ok (.iinc 3 1, 3) := by decide +kernel
theorem dX11_sleep_102 : decode cX11_sleep 102 = .ok (.goto (-63), 3) := by decide +kernel
theorem dX11_sleep_105 : decode cX11_sleep 105 = .ok (.iload_n 1, 1) := by decide +kernel
theorem dX11_sleep_106 : decode cX11_sleep 106 = .ok (.i2l, 1) := by decide +kernel
theorem dX11_sleep_107 : decode cX11_sleep 107 = .ok (.iload_n 1, 1) := by decide +kernel
theorem dX11_sleep_108 : decode cX11_sleep 108 = .ok (.i2l, 1) := by decide +kernel
theorem dX11_sleep_109 : decode cX11_sleep 109 = .ok (.lmul, 1) := by decide +kernel
theorem dX11_sleep_110 : decode cX11_sleep 110 = .ok (.ldc2_w 216, 3) := by decide +kernel
theorem dX11_sleep_113 : decode cX11_sleep 113 = .ok (.iload_n 1, 1) := by decide +kernel
theorem dX11_sleep_114 : decode cX11_sleep 114 = .ok (.i2l, 1) := by decide +kernel
theorem dX11_sleep_115 : decode cX11_sleep 115 = .ok (.lmul, 1) := by decide +kernel
theorem dX11_sleep_116 : decode cX11_sleep 116 = .ok (.ladd, 1) := by decide +kernel
theorem dX11_sleep_117 : decode cX11_sleep 117 = .ok (.ldc2_w 218, 3) := by decide +kernel
theorem dX11_sleep_120 : decode cX11_sleep 120 = .ok (.aload_n 0, 1) := by decide +kernel
theorem dX11_sleep_121 : decode cX11_sleep 121 = .ok (.getfield 13, 3) := by decide +kernel
theorem dX11_sleep_124 : decode cX11_sleep 124 = .ok (.bipush 20, 2) := by decide +kernel
theorem dX11_sleep_126 : decode cX11_sleep 126 = .ok (.iaload, 1) := by decide +kernel
theorem dX11_sleep_127 : decode cX11_sleep 127 = .ok (.i2l, 1) := by decide +kernel
theorem dX11_sleep_128 : decode cX11_sleep 128 = .ok (.lmul, 1) := by decide +kernel
theorem dX11_sleep_129 : decode cX11_sleep 129 = .ok (.ladd, 1) := by decide +kernel
theorem dX11_sleep_130 : decode cX11_sleep 130 = .ok (.ldc2_w 188, 3) := by decide +kernel
theorem dX11_sleep_133 : decode cX11_sleep 133 = .ok (.ladd, 1) := by decide +kernel
theorem dX11_sleep_134 : decode cX11_sleep 134 = .ok (.ldc2_w 220, 3) := by decide +kernel
theorem dX11_sleep_137 : decode cX11_sleep 137 = .ok (.lrem, 1) := by decide +kernel
theorem dX11_sleep_138 : decode cX11_sleep 138 = .ok (.ldc2_w 222, 3) := by decide +kernel
theorem dX11_sleep_141 : decode cX11_sleep 141 = .ok (.lrem, 1) := by decide +kernel
theorem dX11_sleep_142 : decode cX11_sleep 142 = .ok (.lstore_n 3, 1) := by decide +kernel
theorem dX11_sleep_143 : decode cX11_sleep 143 = .ok (.aload_n 0, 1) := by decide +kernel
theorem dX11_sleep_144 : decode cX11_sleep 144 = .ok (.getfield 13, 3) := by decide +kernel
theorem dX11_sleep_147 : decode cX11_sleep 147 = .ok (.bipush 21, 2) := by decide +kernel
theorem dX11_sleep_149 : decode cX11_sleep 149 = .ok (.iaload, 1) := by decide +kernel
theorem dX11_sleep_150 : decode cX11_sleep 150 = .ok (.istore 5, 2) := by decide +kernel
theorem dX11_sleep_152 : decode cX11_sleep 152 = .ok (.aload_n 0, 1) := by decide +kernel
theorem dX11_sleep_153 : decode cX11_sleep 153 = .ok (.getfield 13, 3) := by decide +kernel
theorem dX11_sleep_156 : decode cX11_sleep 156 = .ok (.bipush 21, 2) := by decide +kernel
theorem dX11_sleep_158 : decode cX11_sleep 158 = .ok (.lload_n 3, 1) := by decide +kernel
theorem dX11_sleep_159 : decode cX11_sleep 159 = .ok (.aload_n 0, 1) := by decide +kernel
theorem dX11_sleep_160 : decode cX11_sleep 160 = .ok (.getfield 7, 3) := by decide +kernel
theorem dX11_sleep_163 : decode cX11_sleep 163 = .ok (.bipush 57, 2) := by decide +kernel
theorem dX11_sleep_165 : decode cX11_sleep 165 = .ok (.iload 5, 2) := by decide +kernel
theorem dX11_sleep_167 : decode cX11_sleep 167 = .ok (.iadd, 1) := by decide +kernel
theorem dX11_sleep_168 : decode cX11_sleep 168 = .ok (.iaload, 1) := by decide +kernel
theorem dX11_sleep_169 : decode cX11_sleep 169 = .ok (.i2l, 1) := by decide +kernel
theorem dX11_sleep_170 : decode cX11_sleep 170 = .ok (.lcmp, 1) := by decide +kernel
theorem dX11_sleep_171 : decode cX11_sleep 171 = .ok (.ifCond .ge 16, 3) := by decide +kernel
theorem dX11_sleep_174 : decode cX11_sleep 174 = .ok (.aload_n 0, 1) := by decide +kernel
theorem dX11_sleep_175 : decode cX11_sleep 175 = .ok (.getfield 7, 3) := by decide +kernel
theorem dX11_sleep_178 : decode cX11_sleep 178 = .ok (.bipush 53, 2) := by decide +kernel
theorem dX11_sleep_180 : decode cX11_sleep 180 = .ok (.iload 5, 2) := by decide +kernel
theorem dX11_sleep_182 : decode cX11_sleep 182 = .ok (.iadd, 1) := by decide +kernel
theorem dX11_sleep_183 : decode cX11_sleep 183 = .ok (.iaload, 1) := by decide +kernel
theorem dX11_sleep_184 : decode cX11_sleep 184 = .ok (.goto 5, 3) := by decide +kernel
theorem dX11_sleep_187 : decode cX11_sleep 187 = .ok (.iload 5, 2) := by decide +kernel
theorem dX11_sleep_189 : decode cX11_sleep 189 = .ok (.iastore, 1) := by decide +kernel
theorem dX11_sleep_190 : decode cX11_sleep 190 = .ok (.iconst 0, 1) := by decide +kernel
theorem dX11_sleep_191 : decode cX11_sleep 191 = .ok (.istore 6, 2) := by decide +kernel
theorem dX11_sleep_193 : decode cX11_sleep 193 = .ok (.iload 6, 2) := by decide +kernel
theorem dX11_sleep_195 : decode cX11_sleep 195 = .ok (.iconst 5, 1) := by decide +kernel
theorem dX11_sleep_196 : decode cX11_sleep 196 = .ok (.if_icmp .ge 25, 3) := by decide +kernel
theorem dX11_sleep_199 : decode cX11_sleep 199 = .ok (.aload_n 0, 1) := by decide +kernel
theorem dX11_sleep_200 : decode cX11_sleep 200 = .ok (.getfield 13, 3) := by decide +kernel
theorem dX11_sleep_203 : decode cX11_sleep 203 = .ok (.iconst 0, 1) := by decide +kernel
theorem dX11_sleep_204 : decode cX11_sleep 204 = .ok (.iload 6, 2) := by decide +kernel
theorem dX11_sleep_206 : decode cX11_sleep 206 = .ok (.iadd, 1) := by decide +kernel
theorem dX11_sleep_207 : decode cX11_sleep 207 = .ok (.aload_n 0, 1) := by decide +kernel
theorem dX11_sleep_208 : decode cX11_sleep 208 = .ok (.getfield 7, 3) := by decide +kernel
theorem dX11_sleep_211 : decode cX11_sleep 211 = .ok (.bipush 36, 2) := by decide +kernel
theorem dX11_sleep_213 : decode cX11_sleep 213 = .ok (.iaload, 1) := by decide +kernel
theorem dX11_sleep_214 : decode cX11_sleep 214 = .ok (.iastore, 1) := by decide +kernel
theorem dX11_sleep_215 : decode cX11_sleep 215 = .ok (.iinc 6 1, 3) := by decide +kernel
theorem dX11_sleep_218 : decode cX11_sleep 218 = .ok (.goto (-25), 3) := by decide +kernel
theorem dX11_sleep_221 : decode cX11_sleep 221 = .ok (.aload_n 0, 1) := by decide +kernel
theorem dX11_sleep_222 : decode cX11_sleep 222 = .ok (.getfield 13, 3) := by decide +kernel
theorem dX11_sleep_225 : decode cX11_sleep 225 = .ok (.bipush 16, 2) := by decide +kernel
theorem dX11_sleep_227 : decode cX11_sleep 227 = .ok (.aload_n 0, 1) := by decide +kernel
theorem dX11_sleep_228 : decode cX11_sleep 228 = .ok (.getfield 13, 3) := by decide +kernel
theorem dX11_sleep_231 : decode cX11_sleep 231 = .ok (.bipush 17, 2) := by decide +kernel
theorem dX11_sleep_233 : decode cX11_sleep 233 = .ok (.iaload, 1) := by decide +kernel
theorem dX11_sleep_234 : decode cX11_sleep 234 = .ok (.iastore, 1) := by decide +kernel
theorem dX11_sleep_235 : decode cX11_sleep 235 = .ok (.aload_n 0, 1) := by decide +kernel
theorem dX11_sleep_236 : decode cX11_sleep 236 = .ok (.getfield 13, 3) := by decide +kernel
theorem dX11_sleep_239 : decode cX11_sleep 239 = .ok (.bipush 17, 2) := by decide +kernel
theorem dX11_sleep_241 : decode cX11_sleep 241 = .ok (.iconst 0, 1) := by decide +kernel
theorem dX11_sleep_242 : decode cX11_sleep 242 = .ok (.iastore, 1) := by decide +kernel
theorem dX11_sleep_243 : decode cX11_sleep 243 = .ok (.aload_n 0, 1) := by decide +kernel
theorem dX11_sleep_244 : decode cX11_sleep 244 = .ok (.getfield 13, 3) := by decide +kernel
theorem dX11_sleep_247 : decode cX11_sleep 247 = .ok (.bipush 20, 2) := by decide +kernel
theorem dX11_sleep_249 : decode cX11_sleep 249 = .ok (.dup2, 1) := by decide +kernel
theorem dX11_sleep_250 : decode cX11_sleep 250 = .ok (.iaload, 1) := by decide +kernel
theorem dX11_sleep_251 : decode cX11_sleep 251 = .ok (.iconst 1, 1) := by decide +kernel
theorem dX11_sleep_252 : decode cX11_sleep 252 = .ok (.iadd, 1) := by decide +kernel
theorem dX11_sleep_253 : decode cX11_sleep 253 = .ok (.iastore, 1) := by decide +kernel
theorem dX11_sleep_254 : decode cX11_sleep 254 = .ok (.iload_n 2, 1) := by decide +kernel
theorem dX11_sleep_255 : decode cX11_sleep 255 = .ok (.ireturn, 1) := by decide +kernel
set_option maxRecDepth 20000 in
theorem ggX11_undo_X11_copyDay : GoodIn wsX11_undo wsX11_copyDay := goodIn_r _ [6, 7, 8, 9, 10, 11, 12, 13, 14, 15, 16, 17, 18, 19, 20, 21, 22, 23, 24, 25, 26, 27, 28, 29, 30, 31, 32, 33, 34, 35, 36] (by decide +kernel) (by decide +kernel)
set_option maxRecDepth 20000 in
theorem gX11_undo_X11_copyDay : GoodIn wsX11_undo (wsV RX11 198 RX11 yX11_copyDay wsX11_copyDay) := goodIn_app (goodIn_of _ (by decide +kernel)) ggX11_undo_X11_copyDay
theorem dX11_undo_0 : decode cX11_undo 0 = .ok (.aload_n 0, 1) := by decide +kernel
theorem dX11_undo_1 : decode cX11_undo 1 = .ok (.getfield 74, 3) := by decide +kernel
theorem dX11_undo_4 : decode cX11_undo 4 = .ok (.ifCond .ne 6, 3) := by decide +kernel
theorem dX11_undo_7 : decode cX11_undo 7 = .ok (.bipush (-4), 2) := by decide +kernel
theorem dX11_undo_9 : decode cX11_undo 9 = .ok (.ireturn, 1) := by decide +kernel
theorem dX11_undo_10 : decode cX11_undo 10 = .ok (.aload_n 0, 1) := by decide +kernel
theorem dX11_undo_11 : decode cX11_undo 11 = .ok (.dup, 1) := by decide +kernel
theorem dX11_undo_12 : decode cX11_undo 12 = .ok (.getfield 74, 3) := by decide +kernel
theorem dX11_undo_15 : decode cX11_undo 15 = .ok (.iconst 1, 1) := by decide +kernel
theorem dX11_undo_16 : decode cX11_undo 16 = .ok (.isub, 1) := by decide +kernel
theorem dX11_undo_17 : decode cX11_undo 17 = .ok (.putfield 74, 3) := by decide +kernel
theorem dX11_undo_20 : decode cX11_undo 20 = .ok (.aload_n 0, 1) := by decide +kernel
theorem dX11_undo_21 : decode cX11_undo 21 = .ok (.bipush 66, 2) := by decide +kernel
theorem dX11_undo_23 : decode cX11_undo 23 = .ok (.bipush 22, 2) := by decide +kernel
theorem dX11_undo_25 : decode cX11_undo 25 = .ok (.aload_n 0, 1) := by decide +kernel
theorem dX11_undo_26 : decode cX11_undo 26 = .ok (.getfield 74, 3) := by decide +kernel
theorem dX11_undo_29 : decode cX11_undo 29 = .ok (.imul, 1) := by decide +kernel
theorem dX11_undo_30 : decode cX11_undo 30 = .ok (.iadd, 1) := by decide +kernel
theorem dX11_undo_31 : decode cX11_undo 31 = .ok (.iconst 0, 1) := by decide +kernel
theorem dX11_undo_32 : decode cX11_undo 32 = .ok (.invokevirtual 198, 3) := by decide +kernel
theorem dX11_undo_35 : decode cX11_undo 35 = .ok (.aload_n 0, 1) := by decide +kernel
theorem dX11_undo_36 : decode cX11_undo 36 = .ok (.getfield 74, 3) := by decide +kernel
theorem dX11_undo_39 : decode cX11_undo 39 = .ok (.ireturn, 1) := by decide +kernel
set_option maxRecDepth 20000 in
theorem ggX11_keep_X11_isFlag : GoodIn wsX11_keep wsX11_isFlag := goodIn_r _ [6, 7, 8, 5, 9] (by decide +kernel) (by decide +kernel)
set_option maxRecDepth 20000 in
theorem gX11_keep_X11_isFlag : GoodIn wsX11_keep (va_wsS RX11 181 yX11_isFlag wsX11_isFlag) := goodIn_app (goodIn_of _ (by decide +kernel)) ggX11_keep_X11_isFlag
set_option maxRecDepth 20000 in
theorem ggX11_keep_X11_copyDay : GoodIn wsX11_keep wsX11_copyDay := goodIn_r _ [13, 2, 14, 15, 16, 17, 18, 19, 20, 21, 22, 23, 24, 25, 26, 27, 28, 29, 30, 31, 32, 33, 34, 35, 36, 37, 38, 39, 40, 41, 42] (by decide +kernel) (by decide +kernel)
set_option maxRecDepth 20000 in
theorem gX11_keep_X11_copyDay : GoodIn wsX11_keep (wsV RX11 198 RX11 yX11_copyDay wsX11_copyDay) := goodIn_app (goodIn_of _ (by decide +kernel)) ggX11_keep_X11_copyDay
theorem dX11_keep_0 : decode cX11_keep 0 = .ok (.iload_n 1, 1) := by decide +kernel
theorem dX11_keep_1 : decode cX11_keep 1 = .ok (.invokestatic 181, 3) := by decide +kernel
theorem dX11_keep_4 : decode cX11_keep 4 = .ok (.ifCond .ne 6, 3) := by decide +kernel
theorem dX11_keep_7 : decode cX11_keep 7 = .ok (.bipush (-2), 2) := by decide +kernel
theorem dX11_keep_9 : decode cX11_keep 9 = .ok (.ireturn, 1) := by decide +kernel
theorem dX11_keep_10 : decode cX11_keep 10 = .ok (.aload_n 0, 1) := by decide +kernel
theorem dX11_keep_11 : decode cX11_keep 11 = .ok (.iconst 0, 1) := by decide +kernel
theorem dX11_keep_12 : decode cX11_keep 12 = .ok (.bipush 22, 2) := by decide +kernel
theorem dX11_keep_14 : decode cX11_keep 14 = .ok (.bipush 22, 2) := by decide +kernel
theorem dX11_keep_16 : decode cX11_keep 16 = .ok (.iload_n 1, 1) := by decide +kernel
theorem dX11_keep_17 : decode cX11_keep 17 = .ok (.imul, 1) := by decide +kernel
theorem dX11_keep_18 : decode cX11_keep 18 = .ok (.iadd, 1) := by decide +kernel
theorem dX11_keep_19 : decode cX11_keep 19 = .ok (.invokevirtual 198, 3) := by decide +kernel
theorem dX11_keep_22 : decode cX11_keep 22 = .ok (.aload_n 0, 1) := by decide +kernel
theorem dX11_keep_23 : decode cX11_keep 23 = .ok (.getfield 16, 3) := by decide +kernel
theorem dX11_keep_26 : decode cX11_keep 26 = .ok (.iload_n 1, 1) := by decide +kernel
theorem dX11_keep_27 : decode cX11_keep 27 = .ok (.iconst 1, 1) := by decide +kernel
theorem dX11_keep_28 : decode cX11_keep 28 = .ok (.bastore, 1) := by decide +kernel
theorem dX11_keep_29 : decode cX11_keep 29 = .ok (.aload_n 0, 1) := by decide +kernel
theorem dX11_keep_30 : decode cX11_keep 30 = .ok (.getfield 13, 3) := by decide +kernel
theorem dX11_keep_33 : decode cX11_keep 33 = .ok (.bipush 20, 2) := by decide +kernel
theorem dX11_keep_35 : decode cX11_keep 35 = .ok (.iaload, 1) := by decide +kernel
theorem dX11_keep_36 : decode cX11_keep 36 = .ok (.ireturn, 1) := by decide +kernel
set_option maxRecDepth 20000 in
theorem ggX11_back_X11_isFlag : GoodIn wsX11_back wsX11_isFlag := goodIn_r _ [7, 8, 9, 6, 10] (by decide +kernel) (by decide +kernel)
set_option maxRecDepth 20000 in
theorem gX11_back_X11_isFlag : GoodIn wsX11_back (va_wsS RX11 181 yX11_isFlag wsX11_isFlag) := goodIn_app (goodIn_of _ (by decide +kernel)) ggX11_back_X11_isFlag
set_option maxRecDepth 20000 in
theorem ggX11_back_X11_copyDay : GoodIn wsX11_back wsX11_copyDay := goodIn_r _ [14, 3, 15, 16, 17, 18, 19, 20, 21, 22, 23, 24, 25, 26, 27, 28, 29, 30, 31, 32, 33, 34, 35, 36, 37, 38, 39, 40, 41, 42, 43] (by decide +kernel) (by decide +kernel)
set_option maxRecDepth 20000 in
theorem gX11_back_X11_copyDay : GoodIn wsX11_back (wsV RX11 198 RX11 yX11_copyDay wsX11_copyDay) := goodIn_app (goodIn_of _ (by decide +kernel)) ggX11_back_X11_copyDay
theorem dX11_back_0 : decode cX11_back 0 = .ok (.iload_n 1, 1) := by decide +kernel
theorem dX11_back_1 : decode cX11_back 1 = .ok (.invokestatic 181, 3) := by decide +kernel
theorem dX11_back_4 : decode cX11_back 4 = .ok (.ifCond .ne 6, 3) := by decide +kernel
theorem dX11_back_7 : decode cX11_back 7 = .ok (.bipush (-2), 2) := by decide +kernel
theorem dX11_back_9 : decode cX11_back 9 = .ok (.ireturn, 1) := by decide +kernel
theorem dX11_back_10 : decode cX11_back 10 = .ok (.aload_n 0, 1) := by decide +kernel
theorem dX11_back_11 : decode cX11_back 11 = .ok (.getfield 16, 3) := by decide +kernel
theorem dX11_back_14 : decode cX11_back 14 = .ok (.iload_n 1, 1) := by decide +kernel
theorem dX11_back_15 : decode cX11_back 15 = .ok (.baload, 1) := by decide +kernel
theorem dX11_back_16 : decode cX11_back 16 = .ok (.ifCond .ne 6, 3) := by decide +kernel
theorem dX11_back_19 : decode cX11_back 19 = .ok (.bipush (-4), 2) := by decide +kernel
theorem dX11_back_21 : decode cX11_back 21 = .ok (.ireturn, 1) := by decide +kernel
theorem dX11_back_22 : decode cX11_back 22 = .ok (.aload_n 0, 1) := by decide +kernel
theorem dX11_back_23 : decode cX11_back 23 = .ok (.bipush 22, 2) := by decide +kernel
theorem dX11_back_25 : decode cX11_back 25 = .ok (.bipush 22, 2) := by decide +kernel
theorem dX11_back_27 : decode cX11_back 27 = .ok (.iload_n 1, 1) := by decide +kernel
theorem dX11_back_28 : decode cX11_back 28 = .ok (.imul, 1) := by decide +kernel
theorem dX11_back_29 : decode cX11_back 29 = .ok (.iadd, 1) := by decide +kernel
theorem dX11_back_30 : decode cX11_back 30 = .ok (.iconst 0, 1) := by decide +kernel
theorem dX11_back_31 : decode cX11_back 31 = .ok (.invokevirtual 198, 3) := by decide +kernel
theorem dX11_back_34 : decode cX11_back 34 = .ok (.aload_n 0, 1) := by decide +kernel
theorem dX11_back_35 : decode cX11_back 35 = .ok (.iconst 0, 1) := by decide +kernel
theorem dX11_back_36 : decode cX11_back 36 = .ok (.putfield 74, 3) := by decide +kernel
theorem dX11_back_39 : decode cX11_back 39 = .ok (.aload_n 0, 1) := by decide +kernel
theorem dX11_back_40 : decode cX11_back 40 = .ok (.getfield 13, 3) := by decide +kernel
theorem dX11_back_43 : decode cX11_back 43 = .ok (.bipush 20, 2) := by decide +kernel
theorem dX11_back_45 : decode cX11_back 45 = .ok (.iaload, 1) := by decide +kernel
theorem dX11_back_46 : decode cX11_back 46 = .ok (.ireturn, 1) := by decide +kernel
theorem dX11_power_0 : decode cX11_power 0 = .ok (.iconst 1, 1) := by decide +kernel
theorem dX11_power_1 : decode cX11_power 1 = .ok (.istore_n 2, 1) := by decide +kernel
theorem dX11_power_2 : decode cX11_power 2 = .ok (.iconst 0, 1) := by decide +kernel
theorem dX11_power_3 : decode cX11_power 3 = .ok (.istore_n 3, 1) := by decide +kernel
theorem dX11_power_4 : decode cX11_power 4 = .ok (.iload_n 3, 1) := by decide +kernel
theorem dX11_power_5 : decode cX11_power 5 = .ok (.iload_n 1, 1) := by decide +kernel
theorem dX11_power_6 : decode cX11_power 6 = .ok (.if_icmp .ge 13, 3) := by decide +kernel
theorem dX11_power_9 : decode cX11_power 9 = .ok (.iload_n 2, 1) := by decide +kernel
theorem dX11_power_10 : decode cX11_power 10 = .ok (.iload_n 0, 1) := by decide +kernel
theorem dX11_power_11 : decode cX11_power 11 = .ok (.imul, 1) := by decide +kernel
theorem dX11_power_12 : decode cX11_power 12 = .ok (.istore_n 2, 1) := by decide +kernel
theorem dX11_power_13 : decode cX11_power 13 = .ok (.iinc 3 1, 3) := by decide +kernel
theorem dX11_power_16 : decode cX11_power 16 = .ok (.goto (-12), 3) := by decide +kernel
theorem dX11_power_19 : decode cX11_power 19 = .ok (.iload_n 2, 1) := by decide +kernel
theorem dX11_power_20 : decode cX11_power 20 = .ok (.ireturn, 1) := by decide +kernel
set_option maxRecDepth 20000 in
theorem ggX11_worthBy_X11_has : GoodIn wsX11_worthBy wsX11_has := goodIn_r _ [7] (by decide +kernel) (by decide +kernel)
set_option maxRecDepth 20000 in
theorem gX11_worthBy_X11_has : GoodIn wsX11_worthBy (va_wsS RX11 164 yX11_has wsX11_has) := goodIn_app (goodIn_of _ (by decide +kernel)) ggX11_worthBy_X11_has
set_option maxRecDepth 20000 in
theorem ggX11_worthBy_X11_hasSkill : GoodIn wsX11_worthBy wsX11_hasSkill := goodIn_r _ [11, 1, 12, 13, 14, 15, 16, 17, 18, 19, 20, 21, 22, 23, 24, 25, 26, 27, 28, 29, 30, 31, 32, 33, 34, 35, 36, 37, 38, 39, 40] (by decide +kernel) (by decide +kernel)
set_option maxRecDepth 20000 in
theorem gX11_worthBy_X11_hasSkill : GoodIn wsX11_worthBy (wsV RX11 167 RX11 yX11_hasSkill wsX11_hasSkill) := goodIn_app (goodIn_of _ (by decide +kernel)) ggX11_worthBy_X11_hasSkill
theorem dX11_worthBy_0 : decode cX11_worthBy 0 = .ok (.iconst 0, 1) := by decide +kernel
theorem dX11_worthBy_1 : decode cX11_worthBy 1 = .ok (.istore_n 3, 1) := by decide +kernel
theorem dX11_worthBy_2 : decode cX11_worthBy 2 = .ok (.iload_n 1, 1) := by decide +kernel
theorem dX11_worthBy_3 : decode cX11_worthBy 3 = .ok (.istore 4, 2) := by decide +kernel
theorem dX11_worthBy_5 : decode cX11_worthBy 5 = .ok (.aload_n 0, 1) := by decide +kernel
theorem dX11_worthBy_6 : decode cX11_worthBy 6 = .ok (.getfield 7, 3) := by decide +kernel
theorem dX11_worthBy_9 : decode cX11_worthBy 9 = .ok (.bipush 11, 2) := by decide +kernel
theorem dX11_worthBy_11 : decode cX11_worthBy 11 = .ok (.iaload, 1) := by decide +kernel
theorem dX11_worthBy_12 : decode cX11_worthBy 12 = .ok (.iconst 1, 1) := by decide +kernel
theorem dX11_worthBy_13 : decode cX11_worthBy 13 = .ok (.isub, 1) := by decide +kernel
theorem dX11_worthBy_14 : decode cX11_worthBy 14 = .ok (.istore 5, 2) := by decide +kernel
theorem dX11_worthBy_16 : decode cX11_worthBy 16 = .ok (.iload 5, 2) := by decide +kernel
theorem dX11_worthBy_18 : decode cX11_worthBy 18 = .ok (.ifCond .lt 138, 3) := by decide +kernel
theorem dX11_worthBy_21 : decode cX11_worthBy 21 = .ok (.iload 4, 2) := by decide +kernel
theorem dX11_worthBy_23 : decode cX11_worthBy 23 = .ok (.aload_n 0, 1) := by decide +kernel
theorem dX11_worthBy_24 : decode cX11_worthBy 24 = .ok (.getfield 7, 3) := by decide +kernel
theorem dX11_worthBy_27 : decode cX11_worthBy 27 = .ok (.iconst 0, 1) := by decide +kernel
theorem dX11_worthBy_28 : decode cX11_worthBy 28 = .ok (.iaload, 1) := by decide +kernel
theorem dX11_worthBy_29 : decode cX11_worthBy 29 = .ok (.iconst 1, 1) := by decide +kernel
theorem dX11_worthBy_30 : decode cX11_worthBy 30 = .ok (.iadd, 1) := by decide +kernel
theorem dX11_worthBy_31 : decode cX11_worthBy 31 = .ok (.irem, 1) := by decide +kernel
theorem dX11_worthBy_32 : decode cX11_worthBy 32 = .ok (.iconst 1, 1) := by decide +kernel
theorem dX11_worthBy_33 : decode cX11_worthBy 33 = .ok (.isub, 1) := by decide +kernel
theorem dX11_worthBy_34 : decode cX11_worthBy 34 = .ok (.istore 6, 2) := by decide +kernel
theorem dX11_worthBy_36 : decode cX11_worthBy 36 = .ok (.iload 4, 2) := by decide +kernel
theorem dX11_worthBy_38 : decode cX11_worthBy 38 = .ok (.aload_n 0, 1) := by decide +kernel
theorem dX11_worthBy_39 : decode cX11_worthBy 39 = .ok (.getfield 7, 3) := by decide +kernel
theorem dX11_worthBy_42 : decode cX11_worthBy 42 = .ok (.iconst 0, 1) := by decide +kernel
theorem dX11_worthBy_43 : decode cX11_worthBy 43 = .ok (.iaload, 1) := by decide +kernel
theorem dX11_worthBy_44 : decode cX11_worthBy 44 = .ok (.iconst 1, 1) := by decide +kernel
theorem dX11_worthBy_45 : decode cX11_worthBy 45 = .ok (.iadd, 1) := by decide +kernel
theorem dX11_worthBy_46 : decode cX11_worthBy 46 = .ok (.idiv, 1) := by decide +kernel
theorem dX11_worthBy_47 : decode cX11_worthBy 47 = .ok (.istore 4, 2) := by decide +kernel
theorem dX11_worthBy_49 : decode cX11_worthBy 49 = .ok (.iload 6, 2) := by decide +kernel
theorem dX11_worthBy_51 : decode cX11_worthBy 51 = .ok (.ifCond .lt 65, 3) := by decide +kernel
theorem dX11_worthBy_54 : decode cX11_worthBy 54 = .ok (.iload_n 2, 1) := by decide +kernel
theorem dX11_worthBy_55 : decode cX11_worthBy 55 = .ok (.iload 6, 2) := by decide +kernel
theorem dX11_worthBy_57 : decode cX11_worthBy 57 = .ok (.invokestatic 164, 3) := by decide +kernel
theorem dX11_worthBy_60 : decode cX11_worthBy 60 = .ok (.ifCond .eq 34, 3) := by decide +kernel
theorem dX11_worthBy_63 : decode cX11_worthBy 63 = .ok (.aload_n 0, 1) := by decide +kernel
theorem dX11_worthBy_64 : decode cX11_worthBy 64 = .ok (.iload 6, 2) := by decide +kernel
theorem dX11_worthBy_66 : decode cX11_worthBy 66 = .ok (.iload 5, 2) := by decide +kernel
theorem dX11_worthBy_68 : decode cX11_worthBy 68 = .ok (.invokevirtual 167, 3) := by decide +kernel
theorem dX11_worthBy_71 : decode cX11_worthBy 71 = .ok (.ifCond .eq 23, 3) := by decide +kernel
theorem dX11_worthBy_74 : decode cX11_worthBy 74 = .ok (.aload_n 0, 1) := by decide +kernel
theorem dX11_worthBy_75 : decode cX11_worthBy 75 = .ok (.getfield 23, 3) := by decide +kernel
theorem dX11_worthBy_78 : decode cX11_worthBy 78 = .ok (.iload 6, 2) := by decide +kernel
theorem dX11_worthBy_80 : decode cX11_worthBy 80 = .ok (.iaload, 1) := by decide +kernel
theorem dX11_worthBy_81 : decode cX11_worthBy 81 = .ok (.aload_n 0, 1) := by decide +kernel
theorem dX11_worthBy_82 : decode cX11_worthBy 82 = .ok (.getfield 7, 3) := by decide +kernel
theorem dX11_worthBy_85 : decode cX11_worthBy 85 = .ok (.bipush 18, 2) := by decide +kernel
theorem dX11_worthBy_87 : decode cX11_worthBy 87 = .ok (.iload 5, 2) := by decide +kernel
theorem dX11_worthBy_89 : decode cX11_worthBy 89 = .ok (.iadd, 1) := by decide +kernel
theorem dX11_worthBy_90 : decode cX11_worthBy 90 = .ok (.iaload, 1) := by decide +kernel
theorem dX11_worthBy_91 : decode cX11_worthBy 91 = .ok (.if_icmp .ge 5, 3) := by decide +kernel
theorem dX11_worthBy_94 : decode cX11_worthBy 94 = .ok (.iconst (-1), 1) := by decide +kernel
theorem dX11_worthBy_95 : decode cX11_worthBy 95 = .ok (.ireturn, 1) := by decide +kernel
theorem dX11_worthBy_96 : decode cX11_worthBy 96 = .ok (.aload_n 0, 1) := by decide +kernel
theorem dX11_worthBy_97 : decode cX11_worthBy 97 = .ok (.getfield 23, 3) := by decide +kernel
theorem dX11_worthBy_100 : decode cX11_worthBy 100 = .ok (.iload 6, 2) := by decide +kernel
theorem dX11_worthBy_102 : decode cX11_worthBy 102 = .ok (.dup2, 1) := by decide +kernel
theorem dX11_worthBy_103 : decode cX11_worthBy 103 = .ok (.iaload, 1) := by decide +kernel
theorem dX11_worthBy_104 : decode cX11_worthBy 104 = .ok (.aload_n 0, 1) := by decide +kernel
theorem dX11_worthBy_105 : decode cX11_worthBy 105 = .ok (.getfield 7, 3) := by decide +kernel
theorem dX11_worthBy_108 : decode cX11_worthBy 108 = .ok (.bipush 18, 2) := by decide +kernel
theorem dX11_worthBy_110 : decode cX11_worthBy 110 = .ok (.iload 5, 2) := by decide +kernel
theorem dX11_worthBy_112 : decode cX11_worthBy 112 = .ok (.iadd, 1) := by decide +kernel
theorem dX11_worthBy_113 : decode cX11_worthBy 113 = .ok (.iaload, 1) := by decide +kernel
theorem dX11_worthBy_114 : decode cX11_worthBy 114 = .ok (.isub, 1) := by decide +kernel
theorem dX11_worthBy_115 : decode cX11_worthBy 115 = .ok (.iastore, 1) := by decide +kernel
theorem dX11_worthBy_116 : decode cX11_worthBy 116 = .ok (.iload_n 3, 1) := by decide +kernel
theorem dX11_worthBy_117 : decode cX11_worthBy 117 = .ok (.iload 6, 2) := by decide +kernel
theorem dX11_worthBy_119 : decode cX11_worthBy 119 = .ok (.ifCond .ge 15, 3) := by decide +kernel
theorem dX11_worthBy_122 : decode cX11_worthBy 122 = .ok (.aload_n 0, 1) := by decide +kernel
theorem dX11_worthBy_123 : decode cX11_worthBy 123 = .ok (.getfield 13, 3) := by decide +kernel
theorem dX11_worthBy_126 : decode cX11_worthBy 126 = .ok (.iconst 5, 1) := by decide +kernel
theorem dX11_worthBy_127 : decode cX11_worthBy 127 = .ok (.iload 5, 2) := by decide +kernel
theorem dX11_worthBy_129 : decode cX11_worthBy 129 = .ok (.iadd, 1) := by decide +kernel
theorem dX11_worthBy_130 : decode cX11_worthBy 130 = .ok (.iaload, 1) := by decide +kernel
theorem dX11_worthBy_131 : decode cX11_worthBy 131 = .ok (.ifCond .le 16, 3) := by decide +kernel
theorem dX11_worthBy_134 : decode cX11_worthBy 134 = .ok (.aload_n 0, 1) := by decide +kernel
theorem dX11_worthBy_135 : decode cX11_worthBy 135 = .ok (.getfield 7, 3) := by decide +kernel
theorem dX11_worthBy_138 : decode cX11_worthBy 138 = .ok (.bipush 30, 2) := by decide +kernel
theorem dX11_worthBy_140 : decode cX11_worthBy 140 = .ok (.iload 5, 2) := by decide +kernel
theorem dX11_worthBy_142 : decode cX11_worthBy 142 = .ok (.iadd, 1) := by decide +kernel
theorem dX11_worthBy_143 : decode cX11_worthBy 143 = .ok (.iaload, 1) := by decide +kernel
theorem dX11_worthBy_144 : decode cX11_worthBy 144 = .ok (.goto 4, 3) := by decide +kernel
theorem dX11_worthBy_147 : decode cX11_worthBy 147 = .ok (.iconst 0, 1) := by decide +kernel
theorem dX11_worthBy_148 : decode cX11_worthBy 148 = .ok (.iadd, 1) := by decide +kernel
theorem dX11_worthBy_149 : decode cX11_worthBy 149 = .ok (.istore_n 3, 1) := by decide +kernel
theorem dX11_worthBy_150 : decode cX11_worthBy 150 = .ok (.iinc 5 (-1), 3) := by decide +kernel
theorem dX11_worthBy_153 : decode cX11_worthBy 153 = .ok (.goto (-137), 3) := by decide +kernel
theorem dX11_worthBy_156 : decode cX11_worthBy 156 = .ok (.iload_n 3, 1) := by decide +kernel
theorem dX11_worthBy_157 : decode cX11_worthBy 157 = .ok (.ireturn, 1) := by decide +kernel
set_option maxRecDepth 20000 in
theorem ggX11_planBy_X11_power : GoodIn wsX11_planBy wsX11_power := goodIn_r _ [8] (by decide +kernel) (by decide +kernel)
set_option maxRecDepth 20000 in
theorem gX11_planBy_X11_power : GoodIn wsX11_planBy (va_wsS RX11 227 yX11_power wsX11_power) := goodIn_app (goodIn_of _ (by decide +kernel)) ggX11_planBy_X11_power
set_option maxRecDepth 20000 in
theorem ggX11_planBy_X11_worthBy : GoodIn wsX11_planBy wsX11_worthBy := goodIn_r _ [12, 2, 3, 4, 13, 14, 7, 15, 16, 17, 18, 19, 20, 21, 22, 23, 24, 25, 26, 27, 28, 29, 30, 31, 32, 33, 34, 35, 36, 37, 38, 39, 40, 41, 42, 43, 44, 45, 46, 47, 48] (by decide +kernel) (by decide +kernel)
set_option maxRecDepth 20000 in
theorem gX11_planBy_X11_worthBy : GoodIn wsX11_planBy (wsV RX11 230 RX11 yX11_worthBy wsX11_worthBy) := goodIn_app (goodIn_of _ (by decide +kernel)) ggX11_planBy_X11_worthBy
theorem dX11_planBy_0 : decode cX11_planBy 0 = .ok (.iconst (-1), 1) := by decide +kernel
theorem dX11_planBy_1 : decode cX11_planBy 1 = .ok (.istore_n 3, 1) := by decide +kernel
theorem dX11_planBy_2 : decode cX11_planBy 2 = .ok (.aload_n 0, 1) := by decide +kernel
theorem dX11_planBy_3 : decode cX11_planBy 3 = .ok (.iconst 0, 1) := by decide +kernel
theorem dX11_planBy_4 : decode cX11_planBy 4 = .ok (.putfield 224, 3) := by decide +kernel
theorem dX11_planBy_7 : decode cX11_planBy 7 = .ok (.iconst 0, 1) := by decide +kernel
theorem dX11_planBy_8 : decode cX11_planBy 8 = .ok (.istore 4, 2) := by decide +kernel
theorem dX11_planBy_10 : decode cX11_planBy 10 = .ok (.iload 4, 2) := by decide +kernel
theorem dX11_planBy_12 : decode cX11_planBy 12 = .ok (.aload_n 0, 1) := by decide +kernel
theorem dX11_planBy_13 : decode cX11_planBy 13 = .ok (.getfield 7, 3) := by decide +kernel
theorem dX11_planBy_16 : decode cX11_planBy 16 = .ok (.iconst 0, 1) := by decide +kernel
theorem dX11_planBy_17 : decode cX11_planBy 17 = .ok (.iaload, 1) := by decide +kernel
theorem dX11_planBy_18 : decode cX11_planBy 18 = .ok (.iconst 1, 1) := by decide +kernel
theorem dX11_planBy_19 : decode cX11_planBy 19 = .ok (.iadd, 1) := by decide +kernel
theorem dX11_planBy_20 : decode cX11_planBy 20 = .ok (.aload_n 0, 1) := by decide +kernel
theorem dX11_planBy_21 : decode cX11_planBy 21 = .ok (.getfield 7, 3) := by decide +kernel
theorem dX11_planBy_24 : decode cX11_planBy 24 = .ok (.bipush 11, 2) := by decide +kernel
theorem dX11_planBy_26 : decode cX11_planBy 26 = .ok (.iaload, 1) := by decide +kernel
theorem dX11_planBy_27 : decode cX11_planBy 27 = .ok (.invokestatic 227, 3) := by decide +kernel
theorem dX11_planBy_30 : decode cX11_planBy 30 = .ok (.if_icmp .ge 94, 3) := by decide +kernel
theorem dX11_planBy_33 : decode cX11_planBy 33 = .ok (.iconst 0, 1) := by decide +kernel
theorem dX11_planBy_34 : decode cX11_planBy 34 = .ok (.istore 5, 2) := by decide +kernel
theorem dX11_planBy_36 : decode cX11_planBy 36 = .ok (.iload 5, 2) := by decide +kernel
theorem dX11_planBy_38 : decode cX11_planBy 38 = .ok (.aload_n 0, 1) := by decide +kernel
theorem dX11_planBy_39 : decode cX11_planBy 39 = .ok (.getfield 7, 3) := by decide +kernel
theorem dX11_planBy_42 : decode cX11_planBy 42 = .ok (.iconst 0, 1) := by decide +kernel
theorem dX11_planBy_43 : decode cX11_planBy 43 = .ok (.iaload, 1) := by decide +kernel
theorem dX11_planBy_44 : decode cX11_planBy 44 = .ok (.if_icmp .ge 33, 3) := by decide +kernel
theorem dX11_planBy_47 : decode cX11_planBy 47 = .ok (.aload_n 0, 1) := by decide +kernel
theorem dX11_planBy_48 : decode cX11_planBy 48 = .ok (.getfield 23, 3) := by decide +kernel
theorem dX11_planBy_51 : decode cX11_planBy 51 = .ok (.iload 5, 2) := by decide +kernel
theorem dX11_planBy_53 : decode cX11_planBy 53 = .ok (.iload_n 1, 1) := by decide +kernel
theorem dX11_planBy_54 : decode cX11_planBy 54 = .ok (.ifCond .ge 15, 3) := by decide +kernel
theorem dX11_planBy_57 : decode cX11_planBy 57 = .ok (.aload_n 0, 1) := by decide +kernel
theorem dX11_planBy_58 : decode cX11_planBy 58 = .ok (.getfield 13, 3) := by decide +kernel
theorem dX11_planBy_61 : decode cX11_planBy 61 = .ok (.iconst 0, 1) := by decide +kernel
theorem dX11_planBy_62 : decode cX11_planBy 62 = .ok (.iload 5, 2) := by decide +kernel
theorem dX11_planBy_64 : decode cX11_planBy 64 = .ok (.iadd, 1) := by decide +kernel
theorem dX11_planBy_65 : decode cX11_planBy 65 = .ok (.iaload, 1) := by decide +kernel
theorem dX11_planBy_66 : decode cX11_planBy 66 = .ok (.goto 4, 3) := by decide +kernel
theorem dX11_planBy_69 : decode cX11_planBy 69 = .ok (.iload_n 1, 1) := by decide +kernel
theorem dX11_planBy_70 : decode cX11_planBy 70 = .ok (.iastore, 1) := by decide +kernel
theorem dX11_planBy_71 : decode cX11_planBy 71 = .ok (.iinc 5 1, 3) := by decide +kernel
theorem dX11_planBy_74 : decode cX11_planBy 74 = .ok (.goto (-38), 3) := by decide +kernel
theorem dX11_planBy_77 : decode cX11_planBy 77 = .ok (.aload_n 0, 1) := by decide +kernel
theorem dX11_planBy_78 : decode cX11_planBy 78 = .ok (.iload 4, 2) := by decide +kernel
theorem dX11_planBy_80 : decode cX11_planBy 80 = .ok (.iload_n 2, 1) := by decide +kernel
theorem dX11_planBy_81 : decode cX11_planBy 81 = .ok (.invokevirtual 230, 3) := by decide +kernel
theorem dX11_planBy_84 : decode cX11_planBy 84 = .ok (.istore 5, 2) := by decide +kernel
theorem dX11_planBy_86 : decode cX11_planBy 86 = .ok (.aload_n 0, 1) := by decide +kernel
theorem dX11_planBy_87 : decode cX11_planBy 87 = .ok (.iload 5, 2) := by decide +kernel
theorem dX11_planBy_89 : decode cX11_planBy 89 = .ok (.iload_n 3, 1) := by decide +kernel
theorem dX11_planBy_90 : decode cX11_planBy 90 = .ok (.if_icmp .le 8, 3) := by decide +kernel
theorem dX11_planBy_93 : decode cX11_planBy 93 = .ok (.iload 4, 2) := by decide +kernel
theorem dX11_planBy_95 : decode cX11_planBy 95 = .ok (.goto 7, 3) := by decide +kernel
theorem dX11_planBy_98 : decode cX11_planBy 98 = .ok (.aload_n 0, 1) := by decide +kernel
theorem dX11_planBy_99 : decode cX11_planBy 99 = .ok (.getfield 224, 3) := by decide +kernel
theorem dX11_planBy_102 : decode cX11_planBy 102 = .ok (.putfield 224, 3) := by decide +kernel
theorem dX11_planBy_105 : decode cX11_planBy 105 = .ok (.iload 5, 2) := by decide +kernel
theorem dX11_planBy_107 : decode cX11_planBy 107 = .ok (.iload_n 3, 1) := by decide +kernel
theorem dX11_planBy_108 : decode cX11_planBy 108 = .ok (.if_icmp .le 8, 3) := by decide +kernel
theorem dX11_planBy_111 : decode cX11_planBy 111 = .ok (.iload 5, 2) := by decide +kernel
theorem dX11_planBy_113 : decode cX11_planBy 113 = .ok (.goto 4, 3) := by decide +kernel
theorem dX11_planBy_116 : decode cX11_planBy 116 = .ok (.iload_n 3, 1) := by decide +kernel
theorem dX11_planBy_117 : decode cX11_planBy 117 = .ok (.istore_n 3, 1) := by decide +kernel
theorem dX11_planBy_118 : decode cX11_planBy 118 = .ok (.iinc 4 1, 3) := by decide +kernel
theorem dX11_planBy_121 : decode cX11_planBy 121 = .ok (.goto (-111), 3) := by decide +kernel
theorem dX11_planBy_124 : decode cX11_planBy 124 = .ok (.iload_n 3, 1) := by decide +kernel
theorem dX11_planBy_125 : decode cX11_planBy 125 = .ok (.ireturn, 1) := by decide +kernel
set_option maxRecDepth 20000 in
theorem ggX11_plan_X11_planBy : GoodIn wsX11_plan wsX11_planBy := goodIn_r _ [6, 7, 8, 9, 1, 10, 11, 5, 12, 13, 14, 15, 16, 17, 18, 19, 20, 21, 22, 23, 24, 25, 26, 27, 28, 29, 30, 31, 32, 33, 34, 35, 36, 37, 38, 39, 40, 41, 42, 43, 44, 45, 46, 47, 48, 49, 50, 51, 52] (by decide +kernel) (by decide +kernel)
set_option maxRecDepth 20000 in
theorem gX11_plan_X11_planBy : GoodIn wsX11_plan (wsV RX11 233 RX11 yX11_planBy wsX11_planBy) := goodIn_app (goodIn_of _ (by decide +kernel)) ggX11_plan_X11_planBy
theorem dX11_plan_0 : decode cX11_plan 0 = .ok (.aload_n 0, 1) := by decide +kernel
theorem dX11_plan_1 : decode cX11_plan 1 = .ok (.iconst (-1), 1) := by decide +kernel
theorem dX11_plan_2 : decode cX11_plan 2 = .ok (.aload_n 0, 1) := by decide +kernel
theorem dX11_plan_3 : decode cX11_plan 3 = .ok (.getfield 13, 3) := by decide +kernel
theorem dX11_plan_6 : decode cX11_plan 6 = .ok (.bipush 16, 2) := by decide +kernel
theorem dX11_plan_8 : decode cX11_plan 8 = .ok (.iaload, 1) := by decide +kernel
theorem dX11_plan_9 : decode cX11_plan 9 = .ok (.iconst (-1), 1) := by decide +kernel
theorem dX11_plan_10 : decode cX11_plan 10 = .ok (.ixor, 1) := by decide +kernel
theorem dX11_plan_11 : decode cX11_plan 11 = .ok (.invokevirtual 233, 3) := by decide +kernel
theorem dX11_plan_14 : decode cX11_plan 14 = .ok (.ireturn, 1) := by decide +kernel
set_option maxRecDepth 20000 in
theorem ggX11_planOf_X11_isWork : GoodIn wsX11_planOf wsX11_isWork := goodIn_r _ [8, 3, 9, 10, 7, 11, 31, 32, 33, 34, 35, 36, 37, 38, 39, 40, 41, 42, 43, 44, 45, 46, 47, 48, 49, 50, 51, 52, 53, 54, 55, 56, 57, 58, 59] (by decide +kernel) (by decide +kernel)
set_option maxRecDepth 20000 in
theorem gX11_planOf_X11_isWork : GoodIn wsX11_planOf (wsV RX11 173 RX11 yX11_isWork wsX11_isWork) := goodIn_app (goodIn_of _ (by decide +kernel)) ggX11_planOf_X11_isWork
set_option maxRecDepth 20000 in
theorem ggX11_planOf_X11_planBy : GoodIn wsX11_planOf wsX11_planBy := goodIn_r _ [15, 2, 3, 16, 1, 17, 18, 7, 19, 20, 21, 22, 23, 24, 25, 26, 27, 28, 29, 30, 31, 32, 33, 34, 35, 36, 37, 38, 39, 40, 41, 42, 43, 44, 45, 46, 47, 48, 49, 50, 51, 52, 53, 54, 55, 56, 57, 58, 59] (by decide +kernel) (by decide +kernel)
set_option maxRecDepth 20000 in
theorem gX11_planOf_X11_planBy : GoodIn wsX11_planOf (wsV RX11 233 RX11 yX11_planBy wsX11_planBy) := goodIn_app (goodIn_of _ (by decide +kernel)) ggX11_planOf_X11_planBy
set_option maxRecDepth 20000 in
theorem ggX11_planOf_X11_power : GoodIn wsX11_planOf wsX11_power := goodIn_r _ [19] (by decide +kernel) (by decide +kernel)
set_option maxRecDepth 20000 in
theorem gX11_planOf_X11_power : GoodIn wsX11_planOf (va_wsS RX11 227 yX11_power wsX11_power) := goodIn_app (goodIn_of _ (by decide +kernel)) ggX11_planOf_X11_power
theorem dX11_planOf_0 : decode cX11_planOf 0 = .ok (.aload_n 0, 1) := by decide +kernel
theorem dX11_planOf_1 : decode cX11_planOf 1 = .ok (.iload_n 1, 1) := by decide +kernel
theorem dX11_planOf_2 : decode cX11_planOf 2 = .ok (.invokevirtual 173, 3) := by decide +kernel
theorem dX11_planOf_5 : decode cX11_planOf 5 = .ok (.ifCond .ne 6, 3) := by decide +kernel
theorem dX11_planOf_8 : decode cX11_planOf 8 = .ok (.bipush (-2), 2) := by decide +kernel
theorem dX11_planOf_10 : decode cX11_planOf 10 = .ok (.ireturn, 1) := by decide +kernel
theorem dX11_planOf_11 : decode cX11_planOf 11 = .ok (.aload_n 0, 1) := by decide +kernel
theorem dX11_planOf_12 : decode cX11_planOf 12 = .ok (.iconst (-1), 1) := by decide +kernel
theorem dX11_planOf_13 : decode cX11_planOf 13 = .ok (.aload_n 0, 1) := by decide +kernel
theorem dX11_planOf_14 : decode cX11_planOf 14 = .ok (.getfield 13, 3) := by decide +kernel
theorem dX11_planOf_17 : decode cX11_planOf 17 = .ok (.bipush 16, 2) := by decide +kernel
theorem dX11_planOf_19 : decode cX11_planOf 19 = .ok (.iaload, 1) := by decide +kernel
theorem dX11_planOf_20 : decode cX11_planOf 20 = .ok (.iconst (-1), 1) := by decide +kernel
theorem dX11_planOf_21 : decode cX11_planOf 21 = .ok (.ixor, 1) := by decide +kernel
theorem dX11_planOf_22 : decode cX11_planOf 22 = .ok (.invokevirtual 233, 3) := by decide +kernel
theorem dX11_planOf_25 : decode cX11_planOf 25 = .ok (.istore_n 2, 1) := by decide +kernel
theorem dX11_planOf_26 : decode cX11_planOf 26 = .ok (.aload_n 0, 1) := by decide +kernel
theorem dX11_planOf_27 : decode cX11_planOf 27 = .ok (.getfield 224, 3) := by decide +kernel
theorem dX11_planOf_30 : decode cX11_planOf 30 = .ok (.aload_n 0, 1) := by decide +kernel
theorem dX11_planOf_31 : decode cX11_planOf 31 = .ok (.getfield 7, 3) := by decide +kernel
theorem dX11_planOf_34 : decode cX11_planOf 34 = .ok (.iconst 0, 1) := by decide +kernel
theorem dX11_planOf_35 : decode cX11_planOf 35 = .ok (.iaload, 1) := by decide +kernel
theorem dX11_planOf_36 : decode cX11_planOf 36 = .ok (.iconst 1, 1) := by decide +kernel
theorem dX11_planOf_37 : decode cX11_planOf 37 = .ok (.iadd, 1) := by decide +kernel
theorem dX11_planOf_38 : decode cX11_planOf 38 = .ok (.aload_n 0, 1) := by decide +kernel
theorem dX11_planOf_39 : decode cX11_planOf 39 = .ok (.getfield 7, 3) := by decide +kernel
theorem dX11_planOf_42 : decode cX11_planOf 42 = .ok (.bipush 11, 2) := by decide +kernel
theorem dX11_planOf_44 : decode cX11_planOf 44 = .ok (.iaload, 1) := by decide +kernel
theorem dX11_planOf_45 : decode cX11_planOf 45 = .ok (.iconst 1, 1) := by decide +kernel
theorem dX11_planOf_46 : decode cX11_planOf 46 = .ok (.isub, 1) := by decide +kernel
theorem dX11_planOf_47 : decode cX11_planOf 47 = .ok (.iload_n 1, 1) := by decide +kernel
theorem dX11_planOf_48 : decode cX11_planOf 48 = .ok (.isub, 1) := by decide +kernel
theorem dX11_planOf_49 : decode cX11_planOf 49 = .ok (.invokestatic 227, 3) := by decide +kernel
theorem dX11_planOf_52 : decode cX11_planOf 52 = .ok (.idiv, 1) := by decide +kernel
theorem dX11_planOf_53 : decode cX11_planOf 53 = .ok (.aload_n 0, 1) := by decide +kernel
theorem dX11_planOf_54 : decode cX11_planOf 54 = .ok (.getfield 7, 3) := by decide +kernel
theorem dX11_planOf_57 : decode cX11_planOf 57 = .ok (.iconst 0, 1) := by decide +kernel
theorem dX11_planOf_58 : decode cX11_planOf 58 = .ok (.iaload, 1) := by decide +kernel
theorem dX11_planOf_59 : decode cX11_planOf 59 = .ok (.iconst 1, 1) := by decide +kernel
theorem dX11_planOf_60 : decode cX11_planOf 60 = .ok (.iadd, 1) := by decide +kernel
theorem dX11_planOf_61 : decode cX11_planOf 61 = .ok (.irem, 1) := by decide +kernel
theorem dX11_planOf_62 : decode cX11_planOf 62 = .ok (.iconst 1, 1) := by decide +kernel
theorem dX11_planOf_63 : decode cX11_planOf 63 = .ok (.isub, 1) := by decide +kernel
theorem dX11_planOf_64 : decode cX11_planOf 64 = .ok (.istore_n 3, 1) := by decide +kernel
theorem dX11_planOf_65 : decode cX11_planOf 65 = .ok (.iload_n 2, 1) := by decide +kernel
theorem dX11_planOf_66 : decode cX11_planOf 66 = .ok (.ifCond .ge 7, 3) := by decide +kernel
theorem dX11_planOf_69 : decode cX11_planOf 69 = .ok (.iconst (-1), 1) := by decide +kernel
theorem dX11_planOf_70 : decode cX11_planOf 70 = .ok (.goto 4, 3) := by decide +kernel
theorem dX11_planOf_73 : decode cX11_planOf 73 = .ok (.iload_n 3, 1) := by decide +kernel
theorem dX11_planOf_74 : decode cX11_planOf 74 = .ok (.ireturn, 1) := by decide +kernel
set_option maxRecDepth 20000 in
theorem ggX11_shortest_X11_planBy : GoodIn wsX11_shortest wsX11_planBy := goodIn_r _ [5, 6, 7, 8, 9, 10, 11, 4, 12, 13, 14, 15, 16, 17, 18, 19, 20, 21, 22, 23, 24, 25, 26, 27, 28, 29, 30, 31, 32, 33, 34, 35, 36, 37, 38, 39, 40, 41, 42, 43, 44, 45, 46, 47, 48, 49, 50, 51, 52] (by decide +kernel) (by decide +kernel)
set_option maxRecDepth 20000 in
theorem gX11_shortest_X11_planBy : GoodIn wsX11_shortest (wsV RX11 233 RX11 yX11_planBy wsX11_planBy) := goodIn_app (goodIn_of _ (by decide +kernel)) ggX11_shortest_X11_planBy
theorem dX11_shortest_0 : decode cX11_shortest 0 = .ok (.aload_n 0, 1) := by decide +kernel
theorem dX11_shortest_1 : decode cX11_shortest 1 = .ok (.bipush 99, 2) := by decide +kernel
theorem dX11_shortest_3 : decode cX11_shortest 3 = .ok (.iconst (-1), 1) := by decide +kernel
theorem dX11_shortest_4 : decode cX11_shortest 4 = .ok (.invokevirtual 233, 3) := by decide +kernel
theorem dX11_shortest_7 : decode cX11_shortest 7 = .ok (.istore_n 1, 1) := by decide +kernel
theorem dX11_shortest_8 : decode cX11_shortest 8 = .ok (.iconst 1, 1) := by decide +kernel
theorem dX11_shortest_9 : decode cX11_shortest 9 = .ok (.istore_n 2, 1) := by decide +kernel
theorem dX11_shortest_10 : decode cX11_shortest 10 = .ok (.bipush 99, 2) := by decide +kernel
theorem dX11_shortest_12 : decode cX11_shortest 12 = .ok (.istore_n 3, 1) := by decide +kernel
theorem dX11_shortest_13 : decode cX11_shortest 13 = .ok (.iload_n 2, 1) := by decide +kernel
theorem dX11_shortest_14 : decode cX11_shortest 14 = .ok (.iload_n 3, 1) := by decide +kernel
theorem dX11_shortest_15 : decode cX11_shortest 15 = .ok (.if_icmp .ge 57, 3) := by decide +kernel
theorem dX11_shortest_18 : decode cX11_shortest 18 = .ok (.iload_n 2, 1) := by decide +kernel
theorem dX11_shortest_19 : decode cX11_shortest 19 = .ok (.iload_n 3, 1) := by decide +kernel
theorem dX11_shortest_20 : decode cX11_shortest 20 = .ok (.iadd, 1) := by decide +kernel
theorem dX11_shortest_21 : decode cX11_shortest 21 = .ok (.iconst 2, 1) := by decide +kernel
theorem dX11_shortest_22 : decode cX11_shortest 22 = .ok (.idiv, 1) := by decide +kernel
theorem dX11_shortest_23 : decode cX11_shortest 23 = .ok (.istore 4, 2) := by decide +kernel
theorem dX11_shortest_25 : decode cX11_shortest 25 = .ok (.aload_n 0, 1) := by decide +kernel
theorem dX11_shortest_26 : decode cX11_shortest 26 = .ok (.iload 4, 2) := by decide +kernel
theorem dX11_shortest_28 : decode cX11_shortest 28 = .ok (.iconst (-1), 1) := by decide +kernel
theorem dX11_shortest_29 : decode cX11_shortest 29 = .ok (.invokevirtual 233, 3) := by decide +kernel
theorem dX11_shortest_32 : decode cX11_shortest 32 = .ok (.iload_n 1, 1) := by decide +kernel
theorem dX11_shortest_33 : decode cX11_shortest 33 = .ok (.if_icmp .ne 7, 3) := by decide +kernel
theorem dX11_shortest_36 : decode cX11_shortest 36 = .ok (.iconst 1, 1) := by decide +kernel
theorem dX11_shortest_37 : decode cX11_shortest 37 = .ok (.goto 4, 3) := by decide +kernel
theorem dX11_shortest_40 : decode cX11_shortest 40 = .ok (.iconst 0, 1) := by decide +kernel
theorem dX11_shortest_41 : decode cX11_shortest 41 = .ok (.istore 5, 2) := by decide +kernel
theorem dX11_shortest_43 : decode cX11_shortest 43 = .ok (.iload 5, 2) := by decide +kernel
theorem dX11_shortest_45 : decode cX11_shortest 45 = .ok (.ifCond .eq 8, 3) := by decide +kernel
theorem dX11_shortest_48 : decode cX11_shortest 48 = .ok (.iload 4, 2) := by decide +kernel
theorem dX11_shortest_50 : decode cX11_shortest 50 = .ok (.goto 4, 3) := by decide +kernel
theorem dX11_shortest_53 : decode cX11_shortest 53 = .ok (.iload_n 3, 1) := by decide +kernel
theorem dX11_shortest_54 : decode cX11_shortest 54 = .ok (.istore_n 3, 1) := by decide +kernel
theorem dX11_shortest_55 : decode cX11_shortest 55 = .ok (.iload 5, 2) := by decide +kernel
theorem dX11_shortest_57 : decode cX11_shortest 57 = .ok (.ifCond .eq 7, 3) := by decide +kernel
theorem dX11_shortest_60 : decode cX11_shortest 60 = .ok (.iload_n 2, 1) := by decide +kernel
theorem dX11_shortest_61 : decode cX11_shortest 61 = .ok (.goto 7, 3) := by decide +kernel
theorem dX11_shortest_64 : decode cX11_shortest 64 = .ok (.iload 4, 2) := by decide +kernel
theorem dX11_shortest_66 : decode cX11_shortest 66 = .ok (.iconst 1, 1) := by decide +kernel
theorem dX11_shortest_67 : decode cX11_shortest 67 = .ok (.iadd, 1) := by decide +kernel
theorem dX11_shortest_68 : decode cX11_shortest 68 = .ok (.istore_n 2, 1) := by decide +kernel
theorem dX11_shortest_69 : decode cX11_shortest 69 = .ok (.goto (-56), 3) := by decide +kernel
theorem dX11_shortest_72 : decode cX11_shortest 72 = .ok (.iload_n 2, 1) := by decide +kernel
theorem dX11_shortest_73 : decode cX11_shortest 73 = .ok (.ireturn, 1) := by decide +kernel
set_option maxRecDepth 20000 in
theorem ggX11_sale_X11_isGood : GoodIn wsX11_sale wsX11_isGood := goodIn_r _ [7, 2, 8, 9, 6, 10, 26, 27, 28, 29, 30, 31, 32, 33, 34, 35, 36, 37, 38, 39, 40, 41, 42, 43, 44, 45, 46, 47, 48, 49, 50, 51, 52, 53, 54] (by decide +kernel) (by decide +kernel)
set_option maxRecDepth 20000 in
theorem gX11_sale_X11_isGood : GoodIn wsX11_sale (wsV RX11 178 RX11 yX11_isGood wsX11_isGood) := goodIn_app (goodIn_of _ (by decide +kernel)) ggX11_sale_X11_isGood
set_option maxRecDepth 20000 in
theorem ggX11_sale_X11_in : GoodIn wsX11_sale wsX11_in := goodIn_r _ [10] (by decide +kernel) (by decide +kernel)
set_option maxRecDepth 20000 in
theorem gX11_sale_X11_in : GoodIn wsX11_sale (va_wsS RX11 65 yX11_in wsX11_in) := goodIn_app (goodIn_of _ (by decide +kernel)) ggX11_sale_X11_in
set_option maxRecDepth 20000 in
theorem ggX11_sale_X11_power : GoodIn wsX11_sale wsX11_power := goodIn_r _ [13] (by decide +kernel) (by decide +kernel)
set_option maxRecDepth 20000 in
theorem gX11_sale_X11_power : GoodIn wsX11_sale (va_wsS RX11 227 yX11_power wsX11_power) := goodIn_app (goodIn_of _ (by decide +kernel)) ggX11_sale_X11_power
set_option maxRecDepth 20000 in
theorem ggX11_sale_X11_soldBy : GoodIn wsX11_sale wsX11_soldBy := goodIn_r _ [17, 2, 18, 19, 20, 6, 21, 22, 23, 24, 25, 26, 27, 28, 29, 30, 31, 32, 33, 34, 35, 36, 37, 38, 39, 40, 41, 42, 43, 44, 45, 46, 47, 48, 49, 50, 51, 52, 53, 54] (by decide +kernel) (by decide +kernel)
set_option maxRecDepth 20000 in
theorem gX11_sale_X11_soldBy : GoodIn wsX11_sale (wsV RX11 238 RX11 yX11_soldBy wsX11_soldBy) := goodIn_app (goodIn_of _ (by decide +kernel)) ggX11_sale_X11_soldBy
theorem dX11_sale_0 : decode cX11_sale 0 = .ok (.aload_n 0, 1) := by decide +kernel
theorem dX11_sale_1 : decode cX11_sale 1 = .ok (.iload_n 2, 1) := by decide +kernel
theorem dX11_sale_2 : decode cX11_sale 2 = .ok (.invokevirtual 178, 3) := by decide +kernel
theorem dX11_sale_5 : decode cX11_sale 5 = .ok (.ifCond .ne 11, 3) := by decide +kernel
theorem dX11_sale_8 : decode cX11_sale 8 = .ok (.iload_n 2, 1) := by decide +kernel
theorem dX11_sale_9 : decode cX11_sale 9 = .ok (.iconst (-1), 1) := by decide +kernel
theorem dX11_sale_10 : decode cX11_sale 10 = .ok (.if_icmp .eq 6, 3) := by decide +kernel
theorem dX11_sale_13 : decode cX11_sale 13 = .ok (.bipush (-2), 2) := by decide +kernel
theorem dX11_sale_15 : decode cX11_sale 15 = .ok (.ireturn, 1) := by decide +kernel
theorem dX11_sale_16 : decode cX11_sale 16 = .ok (.iload_n 1, 1) := by decide +kernel
theorem dX11_sale_17 : decode cX11_sale 17 = .ok (.i2l, 1) := by decide +kernel
theorem dX11_sale_18 : decode cX11_sale 18 = .ok (.lconst 1, 1) := by decide +kernel
theorem dX11_sale_19 : decode cX11_sale 19 = .ok (.ldc2_w 236, 3) := by decide +kernel
theorem dX11_sale_22 : decode cX11_sale 22 = .ok (.invokestatic 65, 3) := by decide +kernel
theorem dX11_sale_25 : decode cX11_sale 25 = .ok (.ifCond .ne 6, 3) := by decide +kernel
theorem dX11_sale_28 : decode cX11_sale 28 = .ok (.bipush (-3), 2) := by decide +kernel
theorem dX11_sale_30 : decode cX11_sale 30 = .ok (.ireturn, 1) := by decide +kernel
theorem dX11_sale_31 : decode cX11_sale 31 = .ok (.iconst (-1), 1) := by decide +kernel
theorem dX11_sale_32 : decode cX11_sale 32 = .ok (.istore_n 3, 1) := by decide +kernel
theorem dX11_sale_33 : decode cX11_sale 33 = .ok (.iconst 0, 1) := by decide +kernel
theorem dX11_sale_34 : decode cX11_sale 34 = .ok (.istore 4, 2) := by decide +kernel
theorem dX11_sale_36 : decode cX11_sale 36 = .ok (.iconst 0, 1) := by decide +kernel
theorem dX11_sale_37 : decode cX11_sale 37 = .ok (.istore 5, 2) := by decide +kernel
theorem dX11_sale_39 : decode cX11_sale 39 = .ok (.iload 5, 2) := by decide +kernel
theorem dX11_sale_41 : decode cX11_sale 41 = .ok (.iload_n 1, 1) := by decide +kernel
theorem dX11_sale_42 : decode cX11_sale 42 = .ok (.iconst 1, 1) := by decide +kernel
theorem dX11_sale_43 : decode cX11_sale 43 = .ok (.iadd, 1) := by decide +kernel
theorem dX11_sale_44 : decode cX11_sale 44 = .ok (.aload_n 0, 1) := by decide +kernel
theorem dX11_sale_45 : decode cX11_sale 45 = .ok (.getfield 7, 3) := by decide +kernel
theorem dX11_sale_48 : decode cX11_sale 48 = .ok (.bipush 37, 2) := by decide +kernel
theorem dX11_sale_50 : decode cX11_sale 50 = .ok (.iaload, 1) := by decide +kernel
theorem dX11_sale_51 : decode cX11_sale 51 = .ok (.invokestatic 227, 3) := by decide +kernel
theorem dX11_sale_54 : decode cX11_sale 54 = .ok (.if_icmp .ge 46, 3) := by decide +kernel
theorem dX11_sale_57 : decode cX11_sale 57 = .ok (.aload_n 0, 1) := by decide +kernel
theorem dX11_sale_58 : decode cX11_sale 58 = .ok (.iload 5, 2) := by decide +kernel
theorem dX11_sale_60 : decode cX11_sale 60 = .ok (.iload_n 1, 1) := by decide +kernel
theorem dX11_sale_61 : decode cX11_sale 61 = .ok (.invokevirtual 238, 3) := by decide +kernel
theorem dX11_sale_64 : decode cX11_sale 64 = .ok (.istore 6, 2) := by decide +kernel
theorem dX11_sale_66 : decode cX11_sale 66 = .ok (.iload 6, 2) := by decide +kernel
theorem dX11_sale_68 : decode cX11_sale 68 = .ok (.iload_n 3, 1) := by decide +kernel
theorem dX11_sale_69 : decode cX11_sale 69 = .ok (.if_icmp .le 8, 3) := by decide +kernel
theorem dX11_sale_72 : decode cX11_sale 72 = .ok (.iload 5, 2) := by decide +kernel
theorem dX11_sale_74 : decode cX11_sale 74 = .ok (.goto 5, 3) := by decide +kernel
theorem dX11_sale_77 : decode cX11_sale 77 = .ok (.iload 4, 2) := by decide +kernel
theorem dX11_sale_79 : decode cX11_sale 79 = .ok (.istore 4, 2) := by decide +kernel
theorem dX11_sale_81 : decode cX11_sale 81 = .ok (.iload 6, 2) := by decide +kernel
theorem dX11_sale_83 : decode cX11_sale 83 = .ok (.iload_n 3, 1) := by decide +kernel
theorem dX11_sale_84 : decode cX11_sale 84 = .ok (.if_icmp .le 8, 3) := by decide +kernel
theorem dX11_sale_87 : decode cX11_sale 87 = .ok (.iload 6, 2) := by decide +kernel
theorem dX11_sale_89 : decode cX11_sale 89 = .ok (.goto 4, 3) := by decide +kernel
theorem dX11_sale_92 : decode cX11_sale 92 = .ok (.iload_n 3, 1) := by decide +kernel
theorem dX11_sale_93 : decode cX11_sale 93 = .ok (.istore_n 3, 1) := by decide +kernel
theorem dX11_sale_94 : decode cX11_sale 94 = .ok (.iinc 5 1, 3) := by decide +kernel
theorem dX11_sale_97 : decode cX11_sale 97 = .ok (.goto (-58), 3) := by decide +kernel
theorem dX11_sale_100 : decode cX11_sale 100 = .ok (.iload_n 2, 1) := by decide +kernel
theorem dX11_sale_101 : decode cX11_sale 101 = .ok (.iconst (-1), 1) := by decide +kernel
theorem dX11_sale_102 : decode cX11_sale 102 = .ok (.if_icmp .ne 7, 3) := by decide +kernel
theorem dX11_sale_105 : decode cX11_sale 105 = .ok (.iload_n 3, 1) := by decide +kernel
theorem dX11_sale_106 : decode cX11_sale 106 = .ok (.goto 29, 3) := by decide +kernel
theorem dX11_sale_109 : decode cX11_sale 109 = .ok (.iload 4, 2) := by decide +kernel
theorem dX11_sale_111 : decode cX11_sale 111 = .ok (.iload_n 1, 1) := by decide +kernel
theorem dX11_sale_112 : decode cX11_sale 112 = .ok (.iconst 1, 1) := by decide +kernel
theorem dX11_sale_113 : decode cX11_sale 113 = .ok (.iadd, 1) := by decide +kernel
theorem dX11_sale_114 : decode cX11_sale 114 = .ok (.aload_n 0, 1) := by decide +kernel
theorem dX11_sale_115 : decode cX11_sale 115 = .ok (.getfield 7, 3) := by decide +kernel
theorem dX11_sale_118 : decode cX11_sale 118 = .ok (.bipush 37, 2) := by decide +kernel
theorem dX11_sale_120 : decode cX11_sale 120 = .ok (.iaload, 1) := by decide +kernel
theorem dX11_sale_121 : decode cX11_sale 121 = .ok (.iconst 1, 1) := by decide +kernel
theorem dX11_sale_122 : decode cX11_sale 122 = .ok (.isub, 1) := by decide +kernel
theorem dX11_sale_123 : decode cX11_sale 123 = .ok (.iload_n 2, 1) := by decide +kernel
theorem dX11_sale_124 : decode cX11_sale 124 = .ok (.isub, 1) := by decide +kernel
theorem dX11_sale_125 : decode cX11_sale 125 = .ok (.invokestatic 227, 3) := by decide +kernel
theorem dX11_sale_128 : decode cX11_sale 128 = .ok (.idiv, 1) := by decide +kernel
theorem dX11_sale_129 : decode cX11_sale 129 = .ok (.iload_n 1, 1) := by decide +kernel
theorem dX11_sale_130 : decode cX11_sale 130 = .ok (.iconst 1, 1) := by decide +kernel
theorem dX11_sale_131 : decode cX11_sale 131 = .ok (.iadd, 1) := by decide +kernel
theorem dX11_sale_132 : decode cX11_sale 132 = .ok (.irem, 1) := by decide +kernel
theorem dX11_sale_133 : decode cX11_sale 133 = .ok (.iconst 1, 1) := by decide +kernel
theorem dX11_sale_134 : decode cX11_sale 134 = .ok (.isub, 1) := by decide +kernel
theorem dX11_sale_135 : decode cX11_sale 135 = .ok (.ireturn, 1) := by decide +kernel
set_option maxRecDepth 20000 in
theorem ggX11_soldBy_X11_has : GoodIn wsX11_soldBy wsX11_has := goodIn_r _ [6] (by decide +kernel) (by decide +kernel)
set_option maxRecDepth 20000 in
theorem gX11_soldBy_X11_has : GoodIn wsX11_soldBy (va_wsS RX11 164 yX11_has wsX11_has) := goodIn_app (goodIn_of _ (by decide +kernel)) ggX11_soldBy_X11_has
set_option maxRecDepth 20000 in
theorem ggX11_soldBy_X11_worthIn : GoodIn wsX11_soldBy wsX11_worthIn := goodIn_r _ [10, 1, 11, 12, 13, 14, 15, 16, 17, 18, 19, 20, 21, 22, 23, 24, 25, 26, 27, 28, 29, 30, 31, 32, 33, 34, 35, 36, 37, 38, 39] (by decide +kernel) (by decide +kernel)
set_option maxRecDepth 20000 in
theorem gX11_soldBy_X11_worthIn : GoodIn wsX11_soldBy (wsV RX11 184 RX11 yX11_worthIn wsX11_worthIn) := goodIn_app (goodIn_of _ (by decide +kernel)) ggX11_soldBy_X11_worthIn
theorem dX11_soldBy_0 : decode cX11_soldBy 0 = .ok (.iconst 0, 1) := by decide +kernel
theorem dX11_soldBy_1 : decode cX11_soldBy 1 = .ok (.istore_n 3, 1) := by decide +kernel
theorem dX11_soldBy_2 : decode cX11_soldBy 2 = .ok (.iconst 0, 1) := by decide +kernel
theorem dX11_soldBy_3 : decode cX11_soldBy 3 = .ok (.istore 4, 2) := by decide +kernel
theorem dX11_soldBy_5 : decode cX11_soldBy 5 = .ok (.iload_n 1, 1) := by decide +kernel
theorem dX11_soldBy_6 : decode cX11_soldBy 6 = .ok (.istore 5, 2) := by decide +kernel
theorem dX11_soldBy_8 : decode cX11_soldBy 8 = .ok (.aload_n 0, 1) := by decide +kernel
theorem dX11_soldBy_9 : decode cX11_soldBy 9 = .ok (.getfield 7, 3) := by decide +kernel
theorem dX11_soldBy_12 : decode cX11_soldBy 12 = .ok (.bipush 37, 2) := by decide +kernel
theorem dX11_soldBy_14 : decode cX11_soldBy 14 = .ok (.iaload, 1) := by decide +kernel
theorem dX11_soldBy_15 : decode cX11_soldBy 15 = .ok (.iconst 1, 1) := by decide +kernel
theorem dX11_soldBy_16 : decode cX11_soldBy 16 = .ok (.isub, 1) := by decide +kernel
theorem dX11_soldBy_17 : decode cX11_soldBy 17 = .ok (.istore 6, 2) := by decide +kernel
theorem dX11_soldBy_19 : decode cX11_soldBy 19 = .ok (.iload 6, 2) := by decide +kernel
theorem dX11_soldBy_21 : decode cX11_soldBy 21 = .ok (.ifCond .lt 87, 3) := by decide +kernel
theorem dX11_soldBy_24 : decode cX11_soldBy 24 = .ok (.iload 5, 2) := by decide +kernel
theorem dX11_soldBy_26 : decode cX11_soldBy 26 = .ok (.iload_n 2, 1) := by decide +kernel
theorem dX11_soldBy_27 : decode cX11_soldBy 27 = .ok (.iconst 1, 1) := by decide +kernel
theorem dX11_soldBy_28 : decode cX11_soldBy 28 = .ok (.iadd, 1) := by decide +kernel
theorem dX11_soldBy_29 : decode cX11_soldBy 29 = .ok (.irem, 1) := by decide +kernel
theorem dX11_soldBy_30 : decode cX11_soldBy 30 = .ok (.iconst 1, 1) := by decide +kernel
theorem dX11_soldBy_31 : decode cX11_soldBy 31 = .ok (.isub, 1) := by decide +kernel
theorem dX11_soldBy_32 : decode cX11_soldBy 32 = .ok (.istore 7, 2) := by decide +kernel
theorem dX11_soldBy_34 : decode cX11_soldBy 34 = .ok (.iload 5, 2) := by decide +kernel
theorem dX11_soldBy_36 : decode cX11_soldBy 36 = .ok (.iload_n 2, 1) := by decide +kernel
theorem dX11_soldBy_37 : decode cX11_soldBy 37 = .ok (.iconst 1, 1) := by decide +kernel
theorem dX11_soldBy_38 : decode cX11_soldBy 38 = .ok (.iadd, 1) := by decide +kernel
theorem dX11_soldBy_39 : decode cX11_soldBy 39 = .ok (.idiv, 1) := by decide +kernel
theorem dX11_soldBy_40 : decode cX11_soldBy 40 = .ok (.istore 5, 2) := by decide +kernel
theorem dX11_soldBy_42 : decode cX11_soldBy 42 = .ok (.iload 7, 2) := by decide +kernel
theorem dX11_soldBy_44 : decode cX11_soldBy 44 = .ok (.ifCond .lt 58, 3) := by decide +kernel
theorem dX11_soldBy_47 : decode cX11_soldBy 47 = .ok (.aload_n 0, 1) := by decide +kernel
theorem dX11_soldBy_48 : decode cX11_soldBy 48 = .ok (.getfield 13, 3) := by decide +kernel
theorem dX11_soldBy_51 : decode cX11_soldBy 51 = .ok (.bipush 18, 2) := by decide +kernel
theorem dX11_soldBy_53 : decode cX11_soldBy 53 = .ok (.iaload, 1) := by decide +kernel
theorem dX11_soldBy_54 : decode cX11_soldBy 54 = .ok (.iload 6, 2) := by decide +kernel
theorem dX11_soldBy_56 : decode cX11_soldBy 56 = .ok (.invokestatic 164, 3) := by decide +kernel
theorem dX11_soldBy_59 : decode cX11_soldBy 59 = .ok (.ifCond .ne 13, 3) := by decide +kernel
theorem dX11_soldBy_62 : decode cX11_soldBy 62 = .ok (.iload 4, 2) := by decide +kernel
theorem dX11_soldBy_64 : decode cX11_soldBy 64 = .ok (.iload 7, 2) := by decide +kernel
theorem dX11_soldBy_66 : decode cX11_soldBy 66 = .ok (.invokestatic 164, 3) := by decide +kernel
theorem dX11_soldBy_69 : decode cX11_soldBy 69 = .ok (.ifCond .eq 5, 3) := by decide +kernel
theorem dX11_soldBy_72 : decode cX11_soldBy 72 = .ok (.iconst (-1), 1) := by decide +kernel
theorem dX11_soldBy_73 : decode cX11_soldBy 73 = .ok (.ireturn, 1) := by decide +kernel
theorem dX11_soldBy_74 : decode cX11_soldBy 74 = .ok (.iload 4, 2) := by decide +kernel
theorem dX11_soldBy_76 : decode cX11_soldBy 76 = .ok (.iconst 1, 1) := by decide +kernel
theorem dX11_soldBy_77 : decode cX11_soldBy 77 = .ok (.iload 7, 2) := by decide +kernel
theorem dX11_soldBy_79 : decode cX11_soldBy 79 = .ok (.ishl, 1) := by decide +kernel
theorem dX11_soldBy_80 : decode cX11_soldBy 80 = .ok (.ior, 1) := by decide +kernel
theorem dX11_soldBy_81 : decode cX11_soldBy 81 = .ok (.istore 4, 2) := by decide +kernel
theorem dX11_soldBy_83 : decode cX11_soldBy 83 = .ok (.iload_n 3, 1) := by decide +kernel
theorem dX11_soldBy_84 : decode cX11_soldBy 84 = .ok (.aload_n 0, 1) := by decide +kernel
theorem dX11_soldBy_85 : decode cX11_soldBy 85 = .ok (.iload 6, 2) := by decide +kernel
theorem dX11_soldBy_87 : decode cX11_soldBy 87 = .ok (.aload_n 0, 1) := by decide +kernel
theorem dX11_soldBy_88 : decode cX11_soldBy 88 = .ok (.getfield 13, 3) := by decide +kernel
theorem dX11_soldBy_91 : decode cX11_soldBy 91 = .ok (.bipush 20, 2) := by decide +kernel
theorem dX11_soldBy_93 : decode cX11_soldBy 93 = .ok (.iaload, 1) := by decide +kernel
theorem dX11_soldBy_94 : decode cX11_soldBy 94 = .ok (.iload 7, 2) := by decide +kernel
theorem dX11_soldBy_96 : decode cX11_soldBy 96 = .ok (.iadd, 1) := by decide +kernel
theorem dX11_soldBy_97 : decode cX11_soldBy 97 = .ok (.invokevirtual 184, 3) := by decide +kernel
theorem dX11_soldBy_100 : decode cX11_soldBy 100 = .ok (.iadd, 1) := by decide +kernel
theorem dX11_soldBy_101 : decode cX11_soldBy 101 = .ok (.istore_n 3, 1) := by decide +kernel
theorem dX11_soldBy_102 : decode cX11_soldBy 102 = .ok (.iinc 6 (-1), 3) := by decide +kernel
theorem dX11_soldBy_105 : decode cX11_soldBy 105 = .ok (.goto (-86), 3) := by decide +kernel
theorem dX11_soldBy_108 : decode cX11_soldBy 108 = .ok (.iload_n 3, 1) := by decide +kernel
theorem dX11_soldBy_109 : decode cX11_soldBy 109 = .ok (.ireturn, 1) := by decide +kernel
theorem dX11_tells_0 : decode cX11_tells 0 = .ok (.lload_n 1, 1) := by decide +kernel
theorem dX11_tells_1 : decode cX11_tells 1 = .ok (.lstore 5, 2) := by decide +kernel
theorem dX11_tells_3 : decode cX11_tells 3 = .ok (.lload_n 3, 1) := by decide +kernel
theorem dX11_tells_4 : decode cX11_tells 4 = .ok (.lstore 7, 2) := by decide +kernel
theorem dX11_tells_6 : decode cX11_tells 6 = .ok (.lload 7, 2) := by decide +kernel
theorem dX11_tells_8 : decode cX11_tells 8 = .ok (.lconst 0, 1) := by decide +kernel
theorem dX11_tells_9 : decode cX11_tells 9 = .ok (.lcmp, 1) := by decide +kernel
theorem dX11_tells_10 : decode cX11_tells 10 = .ok (.ifCond .eq 21, 3) := by decide +kernel
theorem dX11_tells_13 : decode cX11_tells 13 = .ok (.lload 5, 2) := by decide +kernel
theorem dX11_tells_15 : decode cX11_tells 15 = .ok (.lload 7, 2) := by decide +kernel
theorem dX11_tells_17 : decode cX11_tells 17 = .ok (.lrem, 1) := by decide +kernel
theorem dX11_tells_18 : decode cX11_tells 18 = .ok (.lstore 9, 2) := by decide +kernel
theorem dX11_tells_20 : decode cX11_tells 20 = .ok (.lload 7, 2) := by decide +kernel
theorem dX11_tells_22 : decode cX11_tells 22 = .ok (.lstore 5, 2) := by decide +kernel
theorem dX11_tells_24 : decode cX11_tells 24 = .ok (.lload 9, 2) := by decide +kernel
theorem dX11_tells_26 : decode cX11_tells 26 = .ok (.lstore 7, 2) := by decide +kernel
theorem dX11_tells_28 : decode cX11_tells 28 = .ok (.goto (-22), 3) := by decide +kernel
theorem dX11_tells_31 : decode cX11_tells 31 = .ok (.aload_n 0, 1) := by decide +kernel
theorem dX11_tells_32 : decode cX11_tells 32 = .ok (.lload_n 1, 1) := by decide +kernel
theorem dX11_tells_33 : decode cX11_tells 33 = .ok (.lload 5, 2) := by decide +kernel
theorem dX11_tells_35 : decode cX11_tells 35 = .ok (.ldiv, 1) := by decide +kernel
theorem dX11_tells_36 : decode cX11_tells 36 = .ok (.putfield 241, 3) := by decide +kernel
theorem dX11_tells_39 : decode cX11_tells 39 = .ok (.aload_n 0, 1) := by decide +kernel
theorem dX11_tells_40 : decode cX11_tells 40 = .ok (.lload_n 3, 1) := by decide +kernel
theorem dX11_tells_41 : decode cX11_tells 41 = .ok (.lload 5, 2) := by decide +kernel
theorem dX11_tells_43 : decode cX11_tells 43 = .ok (.ldiv, 1) := by decide +kernel
theorem dX11_tells_44 : decode cX11_tells 44 = .ok (.putfield 33, 3) := by decide +kernel
theorem dX11_tells_47 : decode cX11_tells 47 = .ok (.return_, 1) := by decide +kernel
theorem dX11_spreads_0 : decode cX11_spreads 0 = .ok (.iconst 0, 1) := by decide +kernel
theorem dX11_spreads_1 : decode cX11_spreads 1 = .ok (.istore_n 1, 1) := by decide +kernel
theorem dX11_spreads_2 : decode cX11_spreads 2 = .ok (.iload_n 1, 1) := by decide +kernel
theorem dX11_spreads_3 : decode cX11_spreads 3 = .ok (.iconst 4, 1) := by decide +kernel
theorem dX11_spreads_4 : decode cX11_spreads 4 = .ok (.if_icmp .ge 16, 3) := by decide +kernel
theorem dX11_spreads_7 : decode cX11_spreads 7 = .ok (.aload_n 0, 1) := by decide +kernel
theorem dX11_spreads_8 : decode cX11_spreads 8 = .ok (.getfield 30, 3) := by decide +kernel
theorem dX11_spreads_11 : decode cX11_spreads 11 = .ok (.iload_n 1, 1) := by decide +kernel
theorem dX11_spreads_12 : decode cX11_spreads 12 = .ok (.lconst 0, 1) := by decide +kernel
theorem dX11_spreads_13 : decode cX11_spreads 13 = .ok (.lastore, 1) := by decide +kernel
theorem dX11_spreads_14 : decode cX11_spreads 14 = .ok (.iinc 1 1, 3) := by decide +kernel
theorem dX11_spreads_17 : decode cX11_spreads 17 = .ok (.goto (-15), 3) := by decide +kernel
theorem dX11_spreads_20 : decode cX11_spreads 20 = .ok (.iconst 0, 1) := by decide +kernel
theorem dX11_spreads_21 : decode cX11_spreads 21 = .ok (.istore_n 1, 1) := by decide +kernel
theorem dX11_spreads_22 : decode cX11_spreads 22 = .ok (.iload_n 1, 1) := by decide +kernel
theorem dX11_spreads_23 : decode cX11_spreads 23 = .ok (.iconst 4, 1) := by decide +kernel
theorem dX11_spreads_24 : decode cX11_spreads 24 = .ok (.if_icmp .ge 72, 3) := by decide +kernel
theorem dX11_spreads_27 : decode cX11_spreads 27 = .ok (.aload_n 0, 1) := by decide +kernel
theorem dX11_spreads_28 : decode cX11_spreads 28 = .ok (.getfield 30, 3) := by decide +kernel
theorem dX11_spreads_31 : decode cX11_spreads 31 = .ok (.aload_n 0, 1) := by decide +kernel
theorem dX11_spreads_32 : decode cX11_spreads 32 = .ok (.getfield 7, 3) := by decide +kernel
theorem dX11_spreads_35 : decode cX11_spreads 35 = .ok (.bipush 53, 2) := by decide +kernel
theorem dX11_spreads_37 : decode cX11_spreads 37 = .ok (.iload_n 1, 1) := by decide +kernel
theorem dX11_spreads_38 : decode cX11_spreads 38 = .ok (.iadd, 1) := by decide +kernel
theorem dX11_spreads_39 : decode cX11_spreads 39 = .ok (.iaload, 1) := by decide +kernel
theorem dX11_spreads_40 : decode cX11_spreads 40 = .ok (.dup2, 1) := by decide +kernel
theorem dX11_spreads_41 : decode cX11_spreads 41 = .ok (.laload, 1) := by decide +kernel
theorem dX11_spreads_42 : decode cX11_spreads 42 = .ok (.aload_n 0, 1) := by decide +kernel
theorem dX11_spreads_43 : decode cX11_spreads 43 = .ok (.getfield 26, 3) := by decide +kernel
theorem dX11_spreads_46 : decode cX11_spreads 46 = .ok (.iload_n 1, 1) := by decide +kernel
theorem dX11_spreads_47 : decode cX11_spreads 47 = .ok (.laload, 1) := by decide +kernel
theorem dX11_spreads_48 : decode cX11_spreads 48 = .ok (.aload_n 0, 1) := by decide +kernel
theorem dX11_spreads_49 : decode cX11_spreads 49 = .ok (.getfield 7, 3) := by decide +kernel
theorem dX11_spreads_52 : decode cX11_spreads 52 = .ok (.bipush 57, 2) := by decide +kernel
theorem dX11_spreads_54 : decode cX11_spreads 54 = .ok (.iload_n 1, 1) := by decide +kernel
theorem dX11_spreads_55 : decode cX11_spreads 55 = .ok (.iadd, 1) := by decide +kernel
theorem dX11_spreads_56 : decode cX11_spreads 56 = .ok (.iaload, 1) := by decide +kernel
theorem dX11_spreads_57 : decode cX11_spreads 57 = .ok (.i2l, 1) := by decide +kernel
theorem dX11_spreads_58 : decode cX11_spreads 58 = .ok (.lmul, 1) := by decide +kernel
theorem dX11_spreads_59 : decode cX11_spreads 59 = .ok (.ladd, 1) := by decide +kernel
theorem dX11_spreads_60 : decode cX11_spreads 60 = .ok (.lastore, 1) := by decide +kernel
theorem dX11_spreads_61 : decode cX11_spreads 61 = .ok (.aload_n 0, 1) := by decide +kernel
theorem dX11_spreads_62 : decode cX11_spreads 62 = .ok (.getfield 30, 3) := by decide +kernel
theorem dX11_spreads_65 : decode cX11_spreads 65 = .ok (.iload_n 1, 1) := by decide +kernel
theorem dX11_spreads_66 : decode cX11_spreads 66 = .ok (.dup2, 1) := by decide +kernel
theorem dX11_spreads_67 : decode cX11_spreads 67 = .ok (.laload, 1) := by decide +kernel
theorem dX11_spreads_68 : decode cX11_spreads 68 = .ok (.aload_n 0, 1) := by decide +kernel
theorem dX11_spreads_69 : decode cX11_spreads 69 = .ok (.getfield 26, 3) := by decide +kernel
theorem dX11_spreads_72 : decode cX11_spreads 72 = .ok (.iload_n 1, 1) := by decide +kernel
theorem dX11_spreads_73 : decode cX11_spreads 73 = .ok (.laload, 1) := by decide +kernel
theorem dX11_spreads_74 : decode cX11_spreads 74 = .ok (.bipush 10, 2) := by decide +kernel
theorem dX11_spreads_76 : decode cX11_spreads 76 = .ok (.aload_n 0, 1) := by decide +kernel
theorem dX11_spreads_77 : decode cX11_spreads 77 = .ok (.getfield 7, 3) := by decide +kernel
theorem dX11_spreads_80 : decode cX11_spreads 80 = .ok (.bipush 57, 2) := by decide +kernel
theorem dX11_spreads_82 : decode cX11_spreads 82 = .ok (.iload_n 1, 1) := by decide +kernel
theorem dX11_spreads_83 : decode cX11_spreads 83 = .ok (.iadd, 1) := by decide +kernel
theorem dX11_spreads_84 : decode cX11_spreads 84 = .ok (.iaload, 1) := by decide +kernel
theorem dX11_spreads_85 : decode cX11_spreads 85 = .ok (.isub, 1) := by decide +kernel
theorem dX11_spreads_86 : decode cX11_spreads 86 = .ok (.i2l, 1) := by decide +kernel
theorem dX11_spreads_87 : decode cX11_spreads 87 = .ok (.lmul, 1) := by decide +kernel
theorem dX11_spreads_88 : decode cX11_spreads 88 = .ok (.ladd, 1) := by decide +kernel
theorem dX11_spreads_89 : decode cX11_spreads 89 = .ok (.lastore, 1) := by decide +kernel
theorem dX11_spreads_90 : decode cX11_spreads 90 = .ok (.iinc 1 1, 3) := by decide +kernel
theorem dX11_spreads_93 : decode cX11_spreads 93 = .ok (.goto (-71), 3) := by decide +kernel
theorem dX11_spreads_96 : decode cX11_spreads 96 = .ok (.iconst 0, 1) := by decide +kernel
theorem dX11_spreads_97 : decode cX11_spreads 97 = .ok (.istore_n 1, 1) := by decide +kernel
theorem dX11_spreads_98 : decode cX11_spreads 98 = .ok (.iload_n 1, 1) := by decide +kernel
theorem dX11_spreads_99 : decode cX11_spreads 99 = .ok (.iconst 4, 1) := by decide +kernel
theorem dX11_spreads_100 : decode cX11_spreads 100 = .ok (.if_icmp .ge 21, 3) := by decide +kernel
theorem dX11_spreads_103 : decode cX11_spreads 103 = .ok (.aload_n 0, 1) := by decide +kernel
theorem dX11_spreads_104 : decode cX11_spreads 104 = .ok (.getfield 26, 3) := by decide +kernel
theorem dX11_spreads_107 : decode cX11_spreads 107 = .ok (.iload_n 1, 1) := by decide +kernel
theorem dX11_spreads_108 : decode cX11_spreads 108 = .ok (.aload_n 0, 1) := by decide +kernel
theorem dX11_spreads_109 : decode cX11_spreads 109 = .ok (.getfield 30, 3) := by decide +kernel
theorem dX11_spreads_112 : decode cX11_spreads 112 = .ok (.iload_n 1, 1) := by decide +kernel
theorem dX11_spreads_113 : decode cX11_spreads 113 = .ok (.laload, 1) := by decide +kernel
theorem dX11_spreads_114 : decode cX11_spreads 114 = .ok (.lastore, 1) := by decide +kernel
theorem dX11_spreads_115 : decode cX11_spreads 115 = .ok (.iinc 1 1, 3) := by decide +kernel
theorem dX11_spreads_118 : decode cX11_spreads 118 = .ok (.goto (-20), 3) := by decide +kernel
theorem dX11_spreads_121 : decode cX11_spreads 121 = .ok (.return_, 1) := by decide +kernel
set_option maxRecDepth 20000 in
theorem ggX11_odds_X11_isWorld : GoodIn wsX11_odds wsX11_isWorld := goodIn_r _ [12, 13, 14, 15, 11, 16] (by decide +kernel) (by decide +kernel)
set_option maxRecDepth 20000 in
theorem gX11_odds_X11_isWorld : GoodIn wsX11_odds (va_wsS RX11 244 yX11_isWorld wsX11_isWorld) := goodIn_app (goodIn_of _ (by decide +kernel)) ggX11_odds_X11_isWorld
set_option maxRecDepth 20000 in
theorem ggX11_odds_X11_in : GoodIn wsX11_odds wsX11_in := goodIn_r _ [16] (by decide +kernel) (by decide +kernel)
set_option maxRecDepth 20000 in
theorem gX11_odds_X11_in : GoodIn wsX11_odds (va_wsS RX11 65 yX11_in wsX11_in) := goodIn_app (goodIn_of _ (by decide +kernel)) ggX11_odds_X11_in
set_option maxRecDepth 20000 in
theorem ggX11_odds_X11_isFlag : GoodIn wsX11_odds wsX11_isFlag := goodIn_r _ [19, 14, 15, 11, 16] (by decide +kernel) (by decide +kernel)
set_option maxRecDepth 20000 in
theorem gX11_odds_X11_isFlag : GoodIn wsX11_odds (va_wsS RX11 181 yX11_isFlag wsX11_isFlag) := goodIn_app (goodIn_of _ (by decide +kernel)) ggX11_odds_X11_isFlag
set_option maxRecDepth 20000 in
theorem ggX11_odds_X11_spreads : GoodIn wsX11_odds wsX11_spreads := goodIn_r _ [23, 24, 25, 4, 30, 31, 32, 33, 34, 35, 36, 37, 38, 39, 40, 41, 42, 43, 44, 45, 46, 47, 48, 49, 50, 51, 52, 53, 54, 55, 56, 57, 58] (by decide +kernel) (by decide +kernel)
set_option maxRecDepth 20000 in
theorem gX11_odds_X11_spreads : GoodIn wsX11_odds (wsV RX11 251 RX11 yX11_spreads wsX11_spreads) := goodIn_app (goodIn_of _ (by decide +kernel)) ggX11_odds_X11_spreads
set_option maxRecDepth 20000 in
theorem ggX11_odds_X11_tells : GoodIn wsX11_odds wsX11_tells := goodIn_r _ [29, 7, 8, 30, 31, 32, 33, 34, 35, 36, 37, 38, 39, 40, 41, 42, 43, 44, 45, 46, 47, 48, 49, 50, 51, 52, 53, 54, 55, 56, 57, 58] (by decide +kernel) (by decide +kernel)
set_option maxRecDepth 20000 in
theorem gX11_odds_X11_tells : GoodIn wsX11_odds (wsV RX11 254 RX11 yX11_tells wsX11_tells) := goodIn_app (goodIn_of _ (by decide +kernel)) ggX11_odds_X11_tells
theorem dX11_odds_0 : decode cX11_odds 0 = .ok (.iload_n 1, 1) := by decide +kernel
theorem dX11_odds_1 : decode cX11_odds 1 = .ok (.invokestatic 244, 3) := by decide +kernel
theorem dX11_odds_4 : decode cX11_odds 4 = .ok (.ifCond .ne 7, 3) := by decide +kernel
theorem dX11_odds_7 : decode cX11_odds 7 = .ok (.ldc2_w 247, 3) := by decide +kernel
theorem dX11_odds_10 : decode cX11_odds 10 = .ok (.lreturn, 1) := by decide +kernel
theorem dX11_odds_11 : decode cX11_odds 11 = .ok (.iload_n 2, 1) := by decide +kernel
theorem dX11_odds_12 : decode cX11_odds 12 = .ok (.i2l, 1) := by decide +kernel
theorem dX11_odds_13 : decode cX11_odds 13 = .ok (.lconst 0, 1) := by decide +kernel
theorem dX11_odds_14 : decode cX11_odds 14 = .ok (.ldc2_w 236, 3) := by decide +kernel
theorem dX11_odds_17 : decode cX11_odds 17 = .ok (.invokestatic 65, 3) := by decide +kernel
theorem dX11_odds_20 : decode cX11_odds 20 = .ok (.ifCond .eq 10, 3) := by decide +kernel
theorem dX11_odds_23 : decode cX11_odds 23 = .ok (.iload_n 3, 1) := by decide +kernel
theorem dX11_odds_24 : decode cX11_odds 24 = .ok (.invokestatic 181, 3) := by decide +kernel
theorem dX11_odds_27 : decode cX11_odds 27 = .ok (.ifCond .ne 7, 3) := by decide +kernel
theorem dX11_odds_30 : decode cX11_odds 30 = .ok (.ldc2_w 249, 3) := by decide +kernel
theorem dX11_odds_33 : decode cX11_odds 33 = .ok (.lreturn, 1) := by decide +kernel
theorem dX11_odds_34 : decode cX11_odds 34 = .ok (.lconst 1, 1) := by decide +kernel
theorem dX11_odds_35 : decode cX11_odds 35 = .ok (.lstore 4, 2) := by decide +kernel
theorem dX11_odds_37 : decode cX11_odds 37 = .ok (.iconst 0, 1) := by decide +kernel
theorem dX11_odds_38 : decode cX11_odds 38 = .ok (.istore 6, 2) := by decide +kernel
theorem dX11_odds_40 : decode cX11_odds 40 = .ok (.iload 6, 2) := by decide +kernel
theorem dX11_odds_42 : decode cX11_odds 42 = .ok (.iconst 4, 1) := by decide +kernel
theorem dX11_odds_43 : decode cX11_odds 43 = .ok (.if_icmp .ge 33, 3) := by decide +kernel
theorem dX11_odds_46 : decode cX11_odds 46 = .ok (.aload_n 0, 1) := by decide +kernel
theorem dX11_odds_47 : decode cX11_odds 47 = .ok (.getfield 26, 3) := by decide +kernel
theorem dX11_odds_50 : decode cX11_odds 50 = .ok (.iload 6, 2) := by decide +kernel
theorem dX11_odds_52 : decode cX11_odds 52 = .ok (.iload 6, 2) := by decide +kernel
theorem dX11_odds_54 : decode cX11_odds 54 = .ok (.aload_n 0, 1) := by decide +kernel
theorem dX11_odds_55 : decode cX11_odds 55 = .ok (.getfield 13, 3) := by decide +kernel
theorem dX11_odds_58 : decode cX11_odds 58 = .ok (.bipush 21, 2) := by decide +kernel
theorem dX11_odds_60 : decode cX11_odds 60 = .ok (.iaload, 1) := by decide +kernel
theorem dX11_odds_61 : decode cX11_odds 61 = .ok (.if_icmp .ne 7, 3) := by decide +kernel
theorem dX11_odds_64 : decode cX11_odds 64 = .ok (.lconst 1, 1) := by decide +kernel
theorem dX11_odds_65 : decode cX11_odds 65 = .ok (.goto 4, 3) := by decide +kernel
theorem dX11_odds_68 : decode cX11_odds 68 = .ok (.lconst 0, 1) := by decide +kernel
theorem dX11_odds_69 : decode cX11_odds 69 = .ok (.lastore, 1) := by decide +kernel
theorem dX11_odds_70 : decode cX11_odds 70 = .ok (.iinc 6 1, 3) := by decide +kernel
theorem dX11_odds_73 : decode cX11_odds 73 = .ok (.goto (-33), 3) := by decide +kernel
theorem dX11_odds_76 : decode cX11_odds 76 = .ok (.iconst 0, 1) := by decide +kernel
theorem dX11_odds_77 : decode cX11_odds 77 = .ok (.istore 6, 2) := by decide +kernel
theorem dX11_odds_79 : decode cX11_odds 79 = .ok (.iload 6, 2) := by decide +kernel
theorem dX11_odds_81 : decode cX11_odds 81 = .ok (.iload_n 2, 1) := by decide +kernel
theorem dX11_odds_82 : decode cX11_odds 82 = .ok (.if_icmp .ge 21, 3) := by decide +kernel
theorem dX11_odds_85 : decode cX11_odds 85 = .ok (.aload_n 0, 1) := by decide +kernel
theorem dX11_odds_86 : decode cX11_odds 86 = .ok (.invokevirtual 251, 3) := by decide +kernel
theorem dX11_odds_89 : decode cX11_odds 89 = .ok (.lload 4, 2) := by decide +kernel
theorem dX11_odds_91 : decode cX11_odds 91 = .ok (.ldc2_w 222, 3) := by decide +kernel
theorem dX11_odds_94 : decode cX11_odds 94 = .ok (.lmul, 1) := by decide +kernel
theorem dX11_odds_95 : decode cX11_odds 95 = .ok (.lstore 4, 2) := by decide +kernel
theorem dX11_odds_97 : decode cX11_odds 97 = .ok (.iinc 6 1, 3) := by decide +kernel
theorem dX11_odds_100 : decode cX11_odds 100 = .ok (.goto (-21), 3) := by decide +kernel
theorem dX11_odds_103 : decode cX11_odds 103 = .ok (.aload_n 0, 1) := by decide +kernel
theorem dX11_odds_104 : decode cX11_odds 104 = .ok (.aload_n 0, 1) := by decide +kernel
theorem dX11_odds_105 : decode cX11_odds 105 = .ok (.getfield 26, 3) := by decide +kernel
theorem dX11_odds_108 : decode cX11_odds 108 = .ok (.iload_n 1, 1) := by decide +kernel
theorem dX11_odds_109 : decode cX11_odds 109 = .ok (.laload, 1) := by decide +kernel
theorem dX11_odds_110 : decode cX11_odds 110 = .ok (.lload 4, 2) := by decide +kernel
theorem dX11_odds_112 : decode cX11_odds 112 = .ok (.invokevirtual 254, 3) := by decide +kernel
theorem dX11_odds_115 : decode cX11_odds 115 = .ok (.iload_n 3, 1) := by decide +kernel
theorem dX11_odds_116 : decode cX11_odds 116 = .ok (.ifCond .ne 10, 3) := by decide +kernel
theorem dX11_odds_119 : decode cX11_odds 119 = .ok (.aload_n 0, 1) := by decide +kernel
theorem dX11_odds_120 : decode cX11_odds 120 = .ok (.getfield 241, 3) := by decide +kernel
theorem dX11_odds_123 : decode cX11_odds 123 = .ok (.goto 7, 3) := by decide +kernel
theorem dX11_odds_126 : decode cX11_odds 126 = .ok (.aload_n 0, 1) := by decide +kernel
theorem dX11_odds_127 : decode cX11_odds 127 = .ok (.getfield 33, 3) := by decide +kernel
theorem dX11_odds_130 : decode cX11_odds 130 = .ok (.lreturn, 1) := by decide +kernel
set_option maxRecDepth 20000 in
theorem ggX11_sign_X11_isWorld : GoodIn wsX11_sign wsX11_isWorld := goodIn_r _ [9, 10, 11, 12, 8, 13] (by decide +kernel) (by decide +kernel)
set_option maxRecDepth 20000 in
theorem gX11_sign_X11_isWorld : GoodIn wsX11_sign (va_wsS RX11 244 yX11_isWorld wsX11_isWorld) := goodIn_app (goodIn_of _ (by decide +kernel)) ggX11_sign_X11_isWorld
set_option maxRecDepth 20000 in
theorem ggX11_sign_X11_in : GoodIn wsX11_sign wsX11_in := goodIn_r _ [13] (by decide +kernel) (by decide +kernel)
set_option maxRecDepth 20000 in
theorem gX11_sign_X11_in : GoodIn wsX11_sign (va_wsS RX11 65 yX11_in wsX11_in) := goodIn_app (goodIn_of _ (by decide +kernel)) ggX11_sign_X11_in
set_option maxRecDepth 20000 in
theorem ggX11_sign_X11_isFlag : GoodIn wsX11_sign wsX11_isFlag := goodIn_r _ [16, 11, 12, 8, 13] (by decide +kernel) (by decide +kernel)
set_option maxRecDepth 20000 in
theorem gX11_sign_X11_isFlag : GoodIn wsX11_sign (va_wsS RX11 181 yX11_isFlag wsX11_isFlag) := goodIn_app (goodIn_of _ (by decide +kernel)) ggX11_sign_X11_isFlag
theorem dX11_sign_0 : decode cX11_sign 0 = .ok (.iload_n 1, 1) := by decide +kernel
theorem dX11_sign_1 : decode cX11_sign 1 = .ok (.invokestatic 244, 3) := by decide +kernel
theorem dX11_sign_4 : decode cX11_sign 4 = .ok (.ifCond .ne 6, 3) := by decide +kernel
theorem dX11_sign_7 : decode cX11_sign 7 = .ok (.bipush (-2), 2) := by decide +kernel
theorem dX11_sign_9 : decode cX11_sign 9 = .ok (.ireturn, 1) := by decide +kernel
theorem dX11_sign_10 : decode cX11_sign 10 = .ok (.iload_n 2, 1) := by decide +kernel
theorem dX11_sign_11 : decode cX11_sign 11 = .ok (.i2l, 1) := by decide +kernel
theorem dX11_sign_12 : decode cX11_sign 12 = .ok (.lconst 0, 1) := by decide +kernel
theorem dX11_sign_13 : decode cX11_sign 13 = .ok (.ldc2_w 236, 3) := by decide +kernel
theorem dX11_sign_16 : decode cX11_sign 16 = .ok (.invokestatic 65, 3) := by decide +kernel
theorem dX11_sign_19 : decode cX11_sign 19 = .ok (.ifCond .eq 10, 3) := by decide +kernel
theorem dX11_sign_22 : decode cX11_sign 22 = .ok (.iload_n 3, 1) := by decide +kernel
theorem dX11_sign_23 : decode cX11_sign 23 = .ok (.invokestatic 181, 3) := by decide +kernel
theorem dX11_sign_26 : decode cX11_sign 26 = .ok (.ifCond .ne 6, 3) := by decide +kernel
theorem dX11_sign_29 : decode cX11_sign 29 = .ok (.bipush (-3), 2) := by decide +kernel
theorem dX11_sign_31 : decode cX11_sign 31 = .ok (.ireturn, 1) := by decide +kernel
theorem dX11_sign_32 : decode cX11_sign 32 = .ok (.aload_n 0, 1) := by decide +kernel
theorem dX11_sign_33 : decode cX11_sign 33 = .ok (.getfield 78, 3) := by decide +kernel
theorem dX11_sign_36 : decode cX11_sign 36 = .ok (.bipush 6, 2) := by decide +kernel
theorem dX11_sign_38 : decode cX11_sign 38 = .ok (.if_icmp .ne 6, 3) := by decide +kernel
theorem dX11_sign_41 : decode cX11_sign 41 = .ok (.bipush (-5), 2) := by decide +kernel
theorem dX11_sign_43 : decode cX11_sign 43 = .ok (.ireturn, 1) := by decide +kernel
theorem dX11_sign_44 : decode cX11_sign 44 = .ok (.aload_n 0, 1) := by decide +kernel
theorem dX11_sign_45 : decode cX11_sign 45 = .ok (.getfield 37, 3) := by decide +kernel
theorem dX11_sign_48 : decode cX11_sign 48 = .ok (.aload_n 0, 1) := by decide +kernel
theorem dX11_sign_49 : decode cX11_sign 49 = .ok (.getfield 78, 3) := by decide +kernel
theorem dX11_sign_52 : decode cX11_sign 52 = .ok (.iload_n 1, 1) := by decide +kernel
theorem dX11_sign_53 : decode cX11_sign 53 = .ok (.iastore, 1) := by decide +kernel
theorem dX11_sign_54 : decode cX11_sign 54 = .ok (.aload_n 0, 1) := by decide +kernel
theorem dX11_sign_55 : decode cX11_sign 55 = .ok (.getfield 40, 3) := by decide +kernel
theorem dX11_sign_58 : decode cX11_sign 58 = .ok (.aload_n 0, 1) := by decide +kernel
theorem dX11_sign_59 : decode cX11_sign 59 = .ok (.getfield 78, 3) := by decide +kernel
theorem dX11_sign_62 : decode cX11_sign 62 = .ok (.iload_n 2, 1) := by decide +kernel
theorem dX11_sign_63 : decode cX11_sign 63 = .ok (.iastore, 1) := by decide +kernel
theorem dX11_sign_64 : decode cX11_sign 64 = .ok (.aload_n 0, 1) := by decide +kernel
theorem dX11_sign_65 : decode cX11_sign 65 = .ok (.getfield 43, 3) := by decide +kernel
theorem dX11_sign_68 : decode cX11_sign 68 = .ok (.aload_n 0, 1) := by decide +kernel
theorem dX11_sign_69 : decode cX11_sign 69 = .ok (.getfield 78, 3) := by decide +kernel
theorem dX11_sign_72 : decode cX11_sign 72 = .ok (.iload_n 3, 1) := by decide +kernel
theorem dX11_sign_73 : decode cX11_sign 73 = .ok (.iastore, 1) := by decide +kernel
theorem dX11_sign_74 : decode cX11_sign 74 = .ok (.aload_n 0, 1) := by decide +kernel
theorem dX11_sign_75 : decode cX11_sign 75 = .ok (.dup, 1) := by decide +kernel
theorem dX11_sign_76 : decode cX11_sign 76 = .ok (.getfield 78, 3) := by decide +kernel
theorem dX11_sign_79 : decode cX11_sign 79 = .ok (.iconst 1, 1) := by decide +kernel
theorem dX11_sign_80 : decode cX11_sign 80 = .ok (.iadd, 1) := by decide +kernel
theorem dX11_sign_81 : decode cX11_sign 81 = .ok (.putfield 78, 3) := by decide +kernel
theorem dX11_sign_84 : decode cX11_sign 84 = .ok (.aload_n 0, 1) := by decide +kernel
theorem dX11_sign_85 : decode cX11_sign 85 = .ok (.getfield 78, 3) := by decide +kernel
theorem dX11_sign_88 : decode cX11_sign 88 = .ok (.ireturn, 1) := by decide +kernel
theorem dX11_forget_0 : decode cX11_forget 0 = .ok (.aload_n 0, 1) := by decide +kernel
theorem dX11_forget_1 : decode cX11_forget 1 = .ok (.getfield 78, 3) := by decide +kernel
theorem dX11_forget_4 : decode cX11_forget 4 = .ok (.istore_n 1, 1) := by decide +kernel
theorem dX11_forget_5 : decode cX11_forget 5 = .ok (.aload_n 0, 1) := by decide +kernel
theorem dX11_forget_6 : decode cX11_forget 6 = .ok (.iconst 0, 1) := by decide +kernel
theorem dX11_forget_7 : decode cX11_forget 7 = .ok (.putfield 78, 3) := by decide +kernel
theorem dX11_forget_10 : decode cX11_forget 10 = .ok (.iload_n 1, 1) := by decide +kernel
theorem dX11_forget_11 : decode cX11_forget 11 = .ok (.ireturn, 1) := by decide +kernel
theorem dX11_isSo_0 : decode cX11_isSo 0 = .ok (.iconst 1, 1) := by decide +kernel
theorem dX11_isSo_1 : decode cX11_isSo 1 = .ok (.istore_n 3, 1) := by decide +kernel
theorem dX11_isSo_2 : decode cX11_isSo 2 = .ok (.iconst 0, 1) := by decide +kernel
theorem dX11_isSo_3 : decode cX11_isSo 3 = .ok (.istore 4, 2) := by decide +kernel
theorem dX11_isSo_5 : decode cX11_isSo 5 = .ok (.iload 4, 2) := by decide +kernel
theorem dX11_isSo_7 : decode cX11_isSo 7 = .ok (.aload_n 0, 1) := by decide +kernel
theorem dX11_isSo_8 : decode cX11_isSo 8 = .ok (.getfield 78, 3) := by decide +kernel
theorem dX11_isSo_11 : decode cX11_isSo 11 = .ok (.if_icmp .ge 65, 3) := by decide +kernel
theorem dX11_isSo_14 : decode cX11_isSo 14 = .ok (.iload_n 3, 1) := by decide +kernel
theorem dX11_isSo_15 : decode cX11_isSo 15 = .ok (.ifCond .eq 53, 3) := by decide +kernel
theorem dX11_isSo_18 : decode cX11_isSo 18 = .ok (.aload_n 0, 1) := by decide +kernel
theorem dX11_isSo_19 : decode cX11_isSo 19 = .ok (.getfield 40, 3) := by decide +kernel
theorem dX11_isSo_22 : decode cX11_isSo 22 = .ok (.iload 4, 2) := by decide +kernel
theorem dX11_isSo_24 : decode cX11_isSo 24 = .ok (.iaload, 1) := by decide +kernel
theorem dX11_isSo_25 : decode cX11_isSo 25 = .ok (.iload_n 2, 1) := by decide +kernel
theorem dX11_isSo_26 : decode cX11_isSo 26 = .ok (.if_icmp .ne 38, 3) := by decide +kernel
theorem dX11_isSo_29 : decode cX11_isSo 29 = .ok (.aload_n 0, 1) := by decide +kernel
theorem dX11_isSo_30 : decode cX11_isSo 30 = .ok (.getfield 37, 3) := by decide +kernel
theorem dX11_isSo_33 : decode cX11_isSo 33 = .ok (.iload 4, 2) := by decide +kernel
theorem dX11_isSo_35 : decode cX11_isSo 35 = .ok (.iaload, 1) := by decide +kernel
theorem dX11_isSo_36 : decode cX11_isSo 36 = .ok (.iload_n 1, 1) := by decide +kernel
theorem dX11_isSo_37 : decode cX11_isSo 37 = .ok (.if_icmp .ne 7, 3) := by decide +kernel
theorem dX11_isSo_40 : decode cX11_isSo 40 = .ok (.iconst 1, 1) := by decide +kernel
theorem dX11_isSo_41 : decode cX11_isSo 41 = .ok (.goto 4, 3) := by decide +kernel
theorem dX11_isSo_44 : decode cX11_isSo 44 = .ok (.iconst 0, 1) := by decide +kernel
theorem dX11_isSo_45 : decode cX11_isSo 45 = .ok (.aload_n 0, 1) := by decide +kernel
theorem dX11_isSo_46 : decode cX11_isSo 46 = .ok (.getfield 43, 3) := by decide +kernel
theorem dX11_isSo_49 : decode cX11_isSo 49 = .ok (.iload 4, 2) := by decide +kernel
theorem dX11_isSo_51 : decode cX11_isSo 51 = .ok (.iaload, 1) := by decide +kernel
theorem dX11_isSo_52 : decode cX11_isSo 52 = .ok (.iconst 1, 1) := by decide +kernel
theorem dX11_isSo_53 : decode cX11_isSo 53 = .ok (.if_icmp .ne 7, 3) := by decide +kernel
theorem dX11_isSo_56 : decode cX11_isSo 56 = .ok (.iconst 1, 1) := by decide +kernel
theorem dX11_isSo_57 : decode cX11_isSo 57 = .ok (.goto 4, 3) := by decide +kernel
theorem dX11_isSo_60 : decode cX11_isSo 60 = .ok (.iconst 0, 1) := by decide +kernel
theorem dX11_isSo_61 : decode cX11_isSo 61 = .ok (.if_icmp .ne 7, 3) := by decide +kernel
theorem dX11_isSo_64 : decode cX11_isSo 64 = .ok (.iconst 1, 1) := by decide +kernel
theorem dX11_isSo_65 : decode cX11_isSo 65 = .ok (.goto 4, 3) := by decide +kernel
theorem dX11_isSo_68 : decode cX11_isSo 68 = .ok (.iconst 0, 1) := by decide +kernel
theorem dX11_isSo_69 : decode cX11_isSo 69 = .ok (.istore_n 3, 1) := by decide +kernel
theorem dX11_isSo_70 : decode cX11_isSo 70 = .ok (.iinc 4 1, 3) := by decide +kernel
theorem dX11_isSo_73 : decode cX11_isSo 73 = .ok (.goto (-68), 3) := by decide +kernel
theorem dX11_isSo_76 : decode cX11_isSo 76 = .ok (.iload_n 3, 1) := by decide +kernel
theorem dX11_isSo_77 : decode cX11_isSo 77 = .ok (.ireturn, 1) := by decide +kernel
set_option maxRecDepth 20000 in
theorem ggX11_ways_X11_isSo : GoodIn wsX11_ways wsX11_isSo := goodIn_r _ [6, 7, 8, 9, 10, 17, 18, 19, 20, 21, 22, 23, 24, 25, 26, 27, 28, 29, 30, 31, 32, 33, 34, 35, 36, 37, 38, 39, 40, 41, 42, 43, 44, 45] (by decide +kernel) (by decide +kernel)
set_option maxRecDepth 20000 in
theorem gX11_ways_X11_isSo : GoodIn wsX11_ways (wsV RX11 258 RX11 yX11_isSo wsX11_isSo) := goodIn_app (goodIn_of _ (by decide +kernel)) ggX11_ways_X11_isSo
set_option maxRecDepth 20000 in
theorem ggX11_ways_X11_spreads : GoodIn wsX11_ways wsX11_spreads := goodIn_r _ [14, 15, 16, 1, 17, 18, 19, 20, 21, 22, 23, 24, 25, 26, 27, 28, 29, 30, 31, 32, 33, 34, 35, 36, 37, 38, 39, 40, 41, 42, 43, 44, 45] (by decide +kernel) (by decide +kernel)
set_option maxRecDepth 20000 in
theorem gX11_ways_X11_spreads : GoodIn wsX11_ways (wsV RX11 251 RX11 yX11_spreads wsX11_spreads) := goodIn_app (goodIn_of _ (by decide +kernel)) ggX11_ways_X11_spreads
theorem dX11_ways_0 : decode cX11_ways 0 = .ok (.iconst 0, 1) := by decide +kernel
theorem dX11_ways_1 : decode cX11_ways 1 = .ok (.istore_n 3, 1) := by decide +kernel
theorem dX11_ways_2 : decode cX11_ways 2 = .ok (.iload_n 3, 1) := by decide +kernel
theorem dX11_ways_3 : decode cX11_ways 3 = .ok (.iconst 4, 1) := by decide +kernel
theorem dX11_ways_4 : decode cX11_ways 4 = .ok (.if_icmp .ge 16, 3) := by decide +kernel
theorem dX11_ways_7 : decode cX11_ways 7 = .ok (.aload_n 0, 1) := by decide +kernel
theorem dX11_ways_8 : decode cX11_ways 8 = .ok (.getfield 26, 3) := by decide +kernel
theorem dX11_ways_11 : decode cX11_ways 11 = .ok (.iload_n 3, 1) := by decide +kernel
theorem dX11_ways_12 : decode cX11_ways 12 = .ok (.lconst 1, 1) := by decide +kernel
theorem dX11_ways_13 : decode cX11_ways 13 = .ok (.lastore, 1) := by decide +kernel
theorem dX11_ways_14 : decode cX11_ways 14 = .ok (.iinc 3 1, 3) := by decide +kernel
theorem dX11_ways_17 : decode cX11_ways 17 = .ok (.goto (-15), 3) := by decide +kernel
theorem dX11_ways_20 : decode cX11_ways 20 = .ok (.lconst 0, 1) := by decide +kernel
theorem dX11_ways_21 : decode cX11_ways 21 = .ok (.lstore_n 3, 1) := by decide +kernel
theorem dX11_ways_22 : decode cX11_ways 22 = .ok (.bipush 9, 2) := by decide +kernel
theorem dX11_ways_24 : decode cX11_ways 24 = .ok (.istore 5, 2) := by decide +kernel
theorem dX11_ways_26 : decode cX11_ways 26 = .ok (.iload 5, 2) := by decide +kernel
theorem dX11_ways_28 : decode cX11_ways 28 = .ok (.ifCond .lt 102, 3) := by decide +kernel
theorem dX11_ways_31 : decode cX11_ways 31 = .ok (.lconst 0, 1) := by decide +kernel
theorem dX11_ways_32 : decode cX11_ways 32 = .ok (.lstore_n 3, 1) := by decide +kernel
theorem dX11_ways_33 : decode cX11_ways 33 = .ok (.iconst 0, 1) := by decide +kernel
theorem dX11_ways_34 : decode cX11_ways 34 = .ok (.istore 6, 2) := by decide +kernel
theorem dX11_ways_36 : decode cX11_ways 36 = .ok (.iload 6, 2) := by decide +kernel
theorem dX11_ways_38 : decode cX11_ways 38 = .ok (.iconst 4, 1) := by decide +kernel
theorem dX11_ways_39 : decode cX11_ways 39 = .ok (.if_icmp .ge 76, 3) := by decide +kernel
theorem dX11_ways_42 : decode cX11_ways 42 = .ok (.aload_n 0, 1) := by decide +kernel
theorem dX11_ways_43 : decode cX11_ways 43 = .ok (.iload 6, 2) := by decide +kernel
theorem dX11_ways_45 : decode cX11_ways 45 = .ok (.iload 5, 2) := by decide +kernel
theorem dX11_ways_47 : decode cX11_ways 47 = .ok (.invokevirtual 258, 3) := by decide +kernel
theorem dX11_ways_50 : decode cX11_ways 50 = .ok (.ifCond .eq 23, 3) := by decide +kernel
theorem dX11_ways_53 : decode cX11_ways 53 = .ok (.iload_n 1, 1) := by decide +kernel
theorem dX11_ways_54 : decode cX11_ways 54 = .ok (.ifCond .lt 15, 3) := by decide +kernel
theorem dX11_ways_57 : decode cX11_ways 57 = .ok (.iload 5, 2) := by decide +kernel
theorem dX11_ways_59 : decode cX11_ways 59 = .ok (.iload_n 2, 1) := by decide +kernel
theorem dX11_ways_60 : decode cX11_ways 60 = .ok (.if_icmp .ne 9, 3) := by decide +kernel
theorem dX11_ways_63 : decode cX11_ways 63 = .ok (.iload 6, 2) := by decide +kernel
theorem dX11_ways_65 : decode cX11_ways 65 = .ok (.iload_n 1, 1) := by decide +kernel
theorem dX11_ways_66 : decode cX11_ways 66 = .ok (.if_icmp .ne 7, 3) := by decide +kernel
theorem dX11_ways_69 : decode cX11_ways 69 = .ok (.iconst 1, 1) := by decide +kernel
theorem dX11_ways_70 : decode cX11_ways 70 = .ok (.goto 4, 3) := by decide +kernel
theorem dX11_ways_73 : decode cX11_ways 73 = .ok (.iconst 0, 1) := by decide +kernel
theorem dX11_ways_74 : decode cX11_ways 74 = .ok (.istore 7, 2) := by decide +kernel
theorem dX11_ways_76 : decode cX11_ways 76 = .ok (.aload_n 0, 1) := by decide +kernel
theorem dX11_ways_77 : decode cX11_ways 77 = .ok (.getfield 26, 3) := by decide +kernel
theorem dX11_ways_80 : decode cX11_ways 80 = .ok (.iload 6, 2) := by decide +kernel
theorem dX11_ways_82 : decode cX11_ways 82 = .ok (.iload 7, 2) := by decide +kernel
theorem dX11_ways_84 : decode cX11_ways 84 = .ok (.ifCond .eq 13, 3) := by decide +kernel
theorem dX11_ways_87 : decode cX11_ways 87 = .ok (.aload_n 0, 1) := by decide +kernel
theorem dX11_ways_88 : decode cX11_ways 88 = .ok (.getfield 26, 3) := by decide +kernel
theorem dX11_ways_91 : decode cX11_ways 91 = .ok (.iload 6, 2) := by decide +kernel
theorem dX11_ways_93 : decode cX11_ways 93 = .ok (.laload, 1) := by decide +kernel
theorem dX11_ways_94 : decode cX11_ways 94 = .ok (.goto 4, 3) := by decide +kernel
theorem dX11_ways_97 : decode cX11_ways 97 = .ok (.lconst 0, 1) := by decide +kernel
theorem dX11_ways_98 : decode cX11_ways 98 = .ok (.lastore, 1) := by decide +kernel
theorem dX11_ways_99 : decode cX11_ways 99 = .ok (.lload_n 3, 1) := by decide +kernel
theorem dX11_ways_100 : decode cX11_ways 100 = .ok (.aload_n 0, 1) := by decide +kernel
theorem dX11_ways_101 : decode cX11_ways 101 = .ok (.getfield 26, 3) := by decide +kernel
theorem dX11_ways_104 : decode cX11_ways 104 = .ok (.iload 6, 2) := by decide +kernel
theorem dX11_ways_106 : decode cX11_ways 106 = .ok (.laload, 1) := by decide +kernel
theorem dX11_ways_107 : decode cX11_ways 107 = .ok (.ladd, 1) := by decide +kernel
theorem dX11_ways_108 : decode cX11_ways 108 = .ok (.lstore_n 3, 1) := by decide +kernel
theorem dX11_ways_109 : decode cX11_ways 109 = .ok (.iinc 6 1, 3) := by decide +kernel
theorem dX11_ways_112 : decode cX11_ways 112 = .ok (.goto (-76), 3) := by decide +kernel
theorem dX11_ways_115 : decode cX11_ways 115 = .ok (.iload 5, 2) := by decide +kernel
theorem dX11_ways_117 : decode cX11_ways 117 = .ok (.ifCond .le 7, 3) := by decide +kernel
theorem dX11_ways_120 : decode cX11_ways 120 = .ok (.aload_n 0, 1) := by decide +kernel
theorem dX11_ways_121 : decode cX11_ways 121 = .ok (.invokevirtual 251, 3) := by decide +kernel
theorem dX11_ways_124 : decode cX11_ways 124 = .ok (.iinc 5 (-1), 3) := by decide +kernel
theorem dX11_ways_127 : decode cX11_ways 127 = .ok (.goto (-101), 3) := by decide +kernel
theorem dX11_ways_130 : decode cX11_ways 130 = .ok (.lload_n 3, 1) := by decide +kernel
theorem dX11_ways_131 : decode cX11_ways 131 = .ok (.lreturn, 1) := by decide +kernel
set_option maxRecDepth 20000 in
theorem ggX11_likely_X11_isWorld : GoodIn wsX11_likely wsX11_isWorld := goodIn_r _ [10, 11, 12, 13, 9, 14] (by decide +kernel) (by decide +kernel)
set_option maxRecDepth 20000 in
theorem gX11_likely_X11_isWorld : GoodIn wsX11_likely (va_wsS RX11 244 yX11_isWorld wsX11_isWorld) := goodIn_app (goodIn_of _ (by decide +kernel)) ggX11_likely_X11_isWorld
set_option maxRecDepth 20000 in
theorem ggX11_likely_X11_in : GoodIn wsX11_likely wsX11_in := goodIn_r _ [14] (by decide +kernel) (by decide +kernel)
set_option maxRecDepth 20000 in
theorem gX11_likely_X11_in : GoodIn wsX11_likely (va_wsS RX11 65 yX11_in wsX11_in) := goodIn_app (goodIn_of _ (by decide +kernel)) ggX11_likely_X11_in
set_option maxRecDepth 20000 in
theorem ggX11_likely_X11_isFlag : GoodIn wsX11_likely wsX11_isFlag := goodIn_r _ [17, 12, 13, 9, 14] (by decide +kernel) (by decide +kernel)
set_option maxRecDepth 20000 in
theorem gX11_likely_X11_isFlag : GoodIn wsX11_likely (va_wsS RX11 181 yX11_isFlag wsX11_isFlag) := goodIn_app (goodIn_of _ (by decide +kernel)) ggX11_likely_X11_isFlag
set_option maxRecDepth 20000 in
theorem ggX11_likely_X11_ways : GoodIn wsX11_likely wsX11_ways := goodIn_r _ [21, 22, 23, 24, 25, 9, 26, 27, 28, 29, 30, 31, 32, 33, 34, 35, 36, 41, 42, 43, 44, 45, 46, 47, 48, 49, 50, 51, 52, 53, 54, 55, 56, 57, 58, 59, 60, 61, 62, 63, 64, 65, 66, 67, 68, 69] (by decide +kernel) (by decide +kernel)
set_option maxRecDepth 20000 in
theorem gX11_likely_X11_ways : GoodIn wsX11_likely (wsV RX11 261 RX11 yX11_ways wsX11_ways) := goodIn_app (goodIn_of _ (by decide +kernel)) ggX11_likely_X11_ways
set_option maxRecDepth 20000 in
theorem ggX11_likely_X11_tells : GoodIn wsX11_likely wsX11_tells := goodIn_r _ [40, 5, 6, 41, 42, 43, 44, 45, 46, 47, 48, 49, 50, 51, 52, 53, 54, 55, 56, 57, 58, 59, 60, 61, 62, 63, 64, 65, 66, 67, 68, 69] (by decide +kernel) (by decide +kernel)
set_option maxRecDepth 20000 in
theorem gX11_likely_X11_tells : GoodIn wsX11_likely (wsV RX11 254 RX11 yX11_tells wsX11_tells) := goodIn_app (goodIn_of _ (by decide +kernel)) ggX11_likely_X11_tells
theorem dX11_likely_0 : decode cX11_likely 0 = .ok (.iload_n 1, 1) := by decide +kernel
theorem dX11_likely_1 : decode cX11_likely 1 = .ok (.invokestatic 244, 3) := by decide +kernel
theorem dX11_likely_4 : decode cX11_likely 4 = .ok (.ifCond .ne 7, 3) := by decide +kernel
theorem dX11_likely_7 : decode cX11_likely 7 = .ok (.ldc2_w 247, 3) := by decide +kernel
theorem dX11_likely_10 : decode cX11_likely 10 = .ok (.lreturn, 1) := by decide +kernel
theorem dX11_likely_11 : decode cX11_likely 11 = .ok (.iload_n 2, 1) := by decide +kernel
theorem dX11_likely_12 : decode cX11_likely 12 = .ok (.i2l, 1) := by decide +kernel
theorem dX11_likely_13 : decode cX11_likely 13 = .ok (.lconst 0, 1) := by decide +kernel
theorem dX11_likely_14 : decode cX11_likely 14 = .ok (.ldc2_w 236, 3) := by decide +kernel
theorem dX11_likely_17 : decode cX11_likely 17 = .ok (.invokestatic 65, 3) := by decide +kernel
theorem dX11_likely_20 : decode cX11_likely 20 = .ok (.ifCond .eq 10, 3) := by decide +kernel
theorem dX11_likely_23 : decode cX11_likely 23 = .ok (.iload_n 3, 1) := by decide +kernel
theorem dX11_likely_24 : decode cX11_likely 24 = .ok (.invokestatic 181, 3) := by decide +kernel
theorem dX11_likely_27 : decode cX11_likely 27 = .ok (.ifCond .ne 7, 3) := by decide +kernel
theorem dX11_likely_30 : decode cX11_likely 30 = .ok (.ldc2_w 249, 3) := by decide +kernel
theorem dX11_likely_33 : decode cX11_likely 33 = .ok (.lreturn, 1) := by decide +kernel
theorem dX11_likely_34 : decode cX11_likely 34 = .ok (.aload_n 0, 1) := by decide +kernel
theorem dX11_likely_35 : decode cX11_likely 35 = .ok (.iconst (-1), 1) := by decide +kernel
theorem dX11_likely_36 : decode cX11_likely 36 = .ok (.iload_n 2, 1) := by decide +kernel
theorem dX11_likely_37 : decode cX11_likely 37 = .ok (.invokevirtual 261, 3) := by decide +kernel
theorem dX11_likely_40 : decode cX11_likely 40 = .ok (.lstore 4, 2) := by decide +kernel
theorem dX11_likely_42 : decode cX11_likely 42 = .ok (.lload 4, 2) := by decide +kernel
theorem dX11_likely_44 : decode cX11_likely 44 = .ok (.lconst 0, 1) := by decide +kernel
theorem dX11_likely_45 : decode cX11_likely 45 = .ok (.lcmp, 1) := by decide +kernel
theorem dX11_likely_46 : decode cX11_likely 46 = .ok (.ifCond .ne 7, 3) := by decide +kernel
theorem dX11_likely_49 : decode cX11_likely 49 = .ok (.ldc2_w 265, 3) := by decide +kernel
theorem dX11_likely_52 : decode cX11_likely 52 = .ok (.lreturn, 1) := by decide +kernel
theorem dX11_likely_53 : decode cX11_likely 53 = .ok (.aload_n 0, 1) := by decide +kernel
theorem dX11_likely_54 : decode cX11_likely 54 = .ok (.aload_n 0, 1) := by decide +kernel
theorem dX11_likely_55 : decode cX11_likely 55 = .ok (.iload_n 1, 1) := by decide +kernel
theorem dX11_likely_56 : decode cX11_likely 56 = .ok (.iload_n 2, 1) := by decide +kernel
theorem dX11_likely_57 : decode cX11_likely 57 = .ok (.invokevirtual 261, 3) := by decide +kernel
theorem dX11_likely_60 : decode cX11_likely 60 = .ok (.lload 4, 2) := by decide +kernel
theorem dX11_likely_62 : decode cX11_likely 62 = .ok (.invokevirtual 254, 3) := by decide +kernel
theorem dX11_likely_65 : decode cX11_likely 65 = .ok (.iload_n 3, 1) := by decide +kernel
theorem dX11_likely_66 : decode cX11_likely 66 = .ok (.ifCond .ne 10, 3) := by decide +kernel
theorem dX11_likely_69 : decode cX11_likely 69 = .ok (.aload_n 0, 1) := by decide +kernel
theorem dX11_likely_70 : decode cX11_likely 70 = .ok (.getfield 241, 3) := by decide +kernel
theorem dX11_likely_73 : decode cX11_likely 73 = .ok (.goto 7, 3) := by decide +kernel
theorem dX11_likely_76 : decode cX11_likely 76 = .ok (.aload_n 0, 1) := by decide +kernel
theorem dX11_likely_77 : decode cX11_likely 77 = .ok (.getfield 33, 3) := by decide +kernel
theorem dX11_likely_80 : decode cX11_likely 80 = .ok (.lreturn, 1) := by decide +kernel
set_option maxRecDepth 20000 in
theorem ggX11_wording_X11_in : GoodIn wsX11_wording wsX11_in := goodIn_r _ [7] (by decide +kernel) (by decide +kernel)
set_option maxRecDepth 20000 in
theorem gX11_wording_X11_in : GoodIn wsX11_wording (va_wsS RX11 65 yX11_in wsX11_in) := goodIn_app (goodIn_of _ (by decide +kernel)) ggX11_wording_X11_in
theorem dX11_wording_0 : decode cX11_wording 0 = .ok (.iload_n 1, 1) := by decide +kernel
theorem dX11_wording_1 : decode cX11_wording 1 = .ok (.i2l, 1) := by decide +kernel
theorem dX11_wording_2 : decode cX11_wording 2 = .ok (.lconst 0, 1) := by decide +kernel
theorem dX11_wording_3 : decode cX11_wording 3 = .ok (.ldc2_w 267, 3) := by decide +kernel
theorem dX11_wording_6 : decode cX11_wording 6 = .ok (.invokestatic 65, 3) := by decide +kernel
theorem dX11_wording_9 : decode cX11_wording 9 = .ok (.ifCond .ne 6, 3) := by decide +kernel
theorem dX11_wording_12 : decode cX11_wording 12 = .ok (.bipush (-3), 2) := by decide +kernel
theorem dX11_wording_14 : decode cX11_wording 14 = .ok (.ireturn, 1) := by decide +kernel
theorem dX11_wording_15 : decode cX11_wording 15 = .ok (.iconst 0, 1) := by decide +kernel
theorem dX11_wording_16 : decode cX11_wording 16 = .ok (.istore_n 2, 1) := by decide +kernel
theorem dX11_wording_17 : decode cX11_wording 17 = .ok (.iload_n 2, 1) := by decide +kernel
theorem dX11_wording_18 : decode cX11_wording 18 = .ok (.aload_n 0, 1) := by decide +kernel
theorem dX11_wording_19 : decode cX11_wording 19 = .ok (.getfield 81, 3) := by decide +kernel
theorem dX11_wording_22 : decode cX11_wording 22 = .ok (.if_icmp .ge 22, 3) := by decide +kernel
theorem dX11_wording_25 : decode cX11_wording 25 = .ok (.aload_n 0, 1) := by decide +kernel
theorem dX11_wording_26 : decode cX11_wording 26 = .ok (.getfield 46, 3) := by decide +kernel
theorem dX11_wording_29 : decode cX11_wording 29 = .ok (.iload_n 2, 1) := by decide +kernel
theorem dX11_wording_30 : decode cX11_wording 30 = .ok (.iaload, 1) := by decide +kernel
theorem dX11_wording_31 : decode cX11_wording 31 = .ok (.iload_n 1, 1) := by decide +kernel
theorem dX11_wording_32 : decode cX11_wording 32 = .ok (.if_icmp .ne 6, 3) := by decide +kernel
theorem dX11_wording_35 : decode cX11_wording 35 = .ok (.bipush (-4), 2) := by decide +kernel
theorem dX11_wording_37 : decode cX11_wording 37 = .ok (.ireturn, 1) := by decide +kernel
theorem dX11_wording_38 : decode cX11_wording 38 = .ok (.iinc 2 1, 3) := by decide +kernel
theorem dX11_wording_41 : decode cX11_wording 41 = .ok (.goto (-24), 3) := by decide +kernel
theorem dX11_wording_44 : decode cX11_wording 44 = .ok (.aload_n 0, 1) := by decide +kernel
theorem dX11_wording_45 : decode cX11_wording 45 = .ok (.getfield 81, 3) := by decide +kernel
theorem dX11_wording_48 : decode cX11_wording 48 = .ok (.bipush 6, 2) := by decide +kernel
theorem dX11_wording_50 : decode cX11_wording 50 = .ok (.if_icmp .ne 6, 3) := by decide +kernel
theorem dX11_wording_53 : decode cX11_wording 53 = .ok (.bipush (-5), 2) := by decide +kernel
theorem dX11_wording_55 : decode cX11_wording 55 = .ok (.ireturn, 1) := by decide +kernel
theorem dX11_wording_56 : decode cX11_wording 56 = .ok (.aload_n 0, 1) := by decide +kernel
theorem dX11_wording_57 : decode cX11_wording 57 = .ok (.getfield 46, 3) := by decide +kernel
theorem dX11_wording_60 : decode cX11_wording 60 = .ok (.aload_n 0, 1) := by decide +kernel
theorem dX11_wording_61 : decode cX11_wording 61 = .ok (.getfield 81, 3) := by decide +kernel
theorem dX11_wording_64 : decode cX11_wording 64 = .ok (.iload_n 1, 1) := by decide +kernel
theorem dX11_wording_65 : decode cX11_wording 65 = .ok (.iastore, 1) := by decide +kernel
theorem dX11_wording_66 : decode cX11_wording 66 = .ok (.aload_n 0, 1) := by decide +kernel
theorem dX11_wording_67 : decode cX11_wording 67 = .ok (.dup, 1) := by decide +kernel
theorem dX11_wording_68 : decode cX11_wording 68 = .ok (.getfield 81, 3) := by decide +kernel
theorem dX11_wording_71 : decode cX11_wording 71 = .ok (.iconst 1, 1) := by decide +kernel
theorem dX11_wording_72 : decode cX11_wording 72 = .ok (.iadd, 1) := by decide +kernel
theorem dX11_wording_73 : decode cX11_wording 73 = .ok (.putfield 81, 3) := by decide +kernel
theorem dX11_wording_76 : decode cX11_wording 76 = .ok (.aload_n 0, 1) := by decide +kernel
theorem dX11_wording_77 : decode cX11_wording 77 = .ok (.getfield 81, 3) := by decide +kernel
theorem dX11_wording_80 : decode cX11_wording 80 = .ok (.ireturn, 1) := by decide +kernel
set_option maxRecDepth 20000 in
theorem ggX11_bears_X11_ones : GoodIn wsX11_bears wsX11_ones := goodIn_r _ [6] (by decide +kernel) (by decide +kernel)
set_option maxRecDepth 20000 in
theorem gX11_bears_X11_ones : GoodIn wsX11_bears (va_wsS RX11 269 yX11_ones wsX11_ones) := goodIn_app (goodIn_of _ (by decide +kernel)) ggX11_bears_X11_ones
theorem dX11_bears_0 : decode cX11_bears 0 = .ok (.aload_n 0, 1) := by decide +kernel
theorem dX11_bears_1 : decode cX11_bears 1 = .ok (.getfield 81, 3) := by decide +kernel
theorem dX11_bears_4 : decode cX11_bears 4 = .ok (.iconst 2, 1) := by decide +kernel
theorem dX11_bears_5 : decode cX11_bears 5 = .ok (.if_icmp .ge 17, 3) := by decide +kernel
theorem dX11_bears_8 : decode cX11_bears 8 = .ok (.aload_n 0, 1) := by decide +kernel
theorem dX11_bears_9 : decode cX11_bears 9 = .ok (.getfield 81, 3) := by decide +kernel
theorem dX11_bears_12 : decode cX11_bears 12 = .ok (.ifCond .ne 7, 3) := by decide +kernel
theorem dX11_bears_15 : decode cX11_bears 15 = .ok (.iconst (-1), 1) := by decide +kernel
theorem dX11_bears_16 : decode cX11_bears 16 = .ok (.goto 5, 3) := by decide +kernel
theorem dX11_bears_19 : decode cX11_bears 19 = .ok (.bipush 6, 2) := by decide +kernel
theorem dX11_bears_21 : decode cX11_bears 21 = .ok (.ireturn, 1) := by decide +kernel
theorem dX11_bears_22 : decode cX11_bears 22 = .ok (.bipush 6, 2) := by decide +kernel
theorem dX11_bears_24 : decode cX11_bears 24 = .ok (.istore_n 1, 1) := by decide +kernel
theorem dX11_bears_25 : decode cX11_bears 25 = .ok (.iconst 0, 1) := by decide +kernel
theorem dX11_bears_26 : decode cX11_bears 26 = .ok (.istore_n 2, 1) := by decide +kernel
theorem dX11_bears_27 : decode cX11_bears 27 = .ok (.iload_n 2, 1) := by decide +kernel
theorem dX11_bears_28 : decode cX11_bears 28 = .ok (.aload_n 0, 1) := by decide +kernel
theorem dX11_bears_29 : decode cX11_bears 29 = .ok (.getfield 81, 3) := by decide +kernel
theorem dX11_bears_32 : decode cX11_bears 32 = .ok (.if_icmp .ge 53, 3) := by decide +kernel
theorem dX11_bears_35 : decode cX11_bears 35 = .ok (.iconst 0, 1) := by decide +kernel
theorem dX11_bears_36 : decode cX11_bears 36 = .ok (.istore_n 3, 1) := by decide +kernel
theorem dX11_bears_37 : decode cX11_bears 37 = .ok (.iload_n 3, 1) := by decide +kernel
theorem dX11_bears_38 : decode cX11_bears 38 = .ok (.iload_n 2, 1) := by decide +kernel
theorem dX11_bears_39 : decode cX11_bears 39 = .ok (.if_icmp .ge 40, 3) := by decide +kernel
theorem dX11_bears_42 : decode cX11_bears 42 = .ok (.aload_n 0, 1) := by decide +kernel
theorem dX11_bears_43 : decode cX11_bears 43 = .ok (.getfield 46, 3) := by decide +kernel
theorem dX11_bears_46 : decode cX11_bears 46 = .ok (.iload_n 2, 1) := by decide +kernel
theorem dX11_bears_47 : decode cX11_bears 47 = .ok (.iaload, 1) := by decide +kernel
theorem dX11_bears_48 : decode cX11_bears 48 = .ok (.aload_n 0, 1) := by decide +kernel
theorem dX11_bears_49 : decode cX11_bears 49 = .ok (.getfield 46, 3) := by decide +kernel
theorem dX11_bears_52 : decode cX11_bears 52 = .ok (.iload_n 3, 1) := by decide +kernel
theorem dX11_bears_53 : decode cX11_bears 53 = .ok (.iaload, 1) := by decide +kernel
theorem dX11_bears_54 : decode cX11_bears 54 = .ok (.ixor, 1) := by decide +kernel
theorem dX11_bears_55 : decode cX11_bears 55 = .ok (.invokestatic 269, 3) := by decide +kernel
theorem dX11_bears_58 : decode cX11_bears 58 = .ok (.istore 4, 2) := by decide +kernel
theorem dX11_bears_60 : decode cX11_bears 60 = .ok (.iload 4, 2) := by decide +kernel
theorem dX11_bears_62 : decode cX11_bears 62 = .ok (.iload_n 1, 1) := by decide +kernel
theorem dX11_bears_63 : decode cX11_bears 63 = .ok (.if_icmp .ge 8, 3) := by decide +kernel
theorem dX11_bears_66 : decode cX11_bears 66 = .ok (.iload 4, 2) := by decide +kernel
theorem dX11_bears_68 : decode cX11_bears 68 = .ok (.goto 4, 3) := by decide +kernel
theorem dX11_bears_71 : decode cX11_bears 71 = .ok (.iload_n 1, 1) := by decide +kernel
theorem dX11_bears_72 : decode cX11_bears 72 = .ok (.istore_n 1, 1) := by decide +kernel
theorem dX11_bears_73 : decode cX11_bears 73 = .ok (.iinc 3 1, 3) := by decide +kernel
theorem dX11_bears_76 : decode cX11_bears 76 = .ok (.goto (-39), 3) := by decide +kernel
theorem dX11_bears_79 : decode cX11_bears 79 = .ok (.iinc 2 1, 3) := by decide +kernel
theorem dX11_bears_82 : decode cX11_bears 82 = .ok (.goto (-55), 3) := by decide +kernel
theorem dX11_bears_85 : decode cX11_bears 85 = .ok (.iload_n 1, 1) := by decide +kernel
theorem dX11_bears_86 : decode cX11_bears 86 = .ok (.iconst 1, 1) := by decide +kernel
theorem dX11_bears_87 : decode cX11_bears 87 = .ok (.isub, 1) := by decide +kernel
theorem dX11_bears_88 : decode cX11_bears 88 = .ok (.iconst 2, 1) := by decide +kernel
theorem dX11_bears_89 : decode cX11_bears 89 = .ok (.idiv, 1) := by decide +kernel
theorem dX11_bears_90 : decode cX11_bears 90 = .ok (.ireturn, 1) := by decide +kernel
set_option maxRecDepth 20000 in
theorem ggX11_meant_X11_in : GoodIn wsX11_meant wsX11_in := goodIn_r _ [8] (by decide +kernel) (by decide +kernel)
set_option maxRecDepth 20000 in
theorem gX11_meant_X11_in : GoodIn wsX11_meant (va_wsS RX11 65 yX11_in wsX11_in) := goodIn_app (goodIn_of _ (by decide +kernel)) ggX11_meant_X11_in
set_option maxRecDepth 20000 in
theorem ggX11_meant_X11_ones : GoodIn wsX11_meant wsX11_ones := goodIn_r _ [11] (by decide +kernel) (by decide +kernel)
set_option maxRecDepth 20000 in
theorem gX11_meant_X11_ones : GoodIn wsX11_meant (va_wsS RX11 269 yX11_ones wsX11_ones) := goodIn_app (goodIn_of _ (by decide +kernel)) ggX11_meant_X11_ones
theorem dX11_meant_0 : decode cX11_meant 0 = .ok (.iload_n 1, 1) := by decide +kernel
theorem dX11_meant_1 : decode cX11_meant 1 = .ok (.i2l, 1) := by decide +kernel
theorem dX11_meant_2 : decode cX11_meant 2 = .ok (.lconst 0, 1) := by decide +kernel
theorem dX11_meant_3 : decode cX11_meant 3 = .ok (.ldc2_w 267, 3) := by decide +kernel
theorem dX11_meant_6 : decode cX11_meant 6 = .ok (.invokestatic 65, 3) := by decide +kernel
theorem dX11_meant_9 : decode cX11_meant 9 = .ok (.ifCond .eq 15, 3) := by decide +kernel
theorem dX11_meant_12 : decode cX11_meant 12 = .ok (.iload_n 2, 1) := by decide +kernel
theorem dX11_meant_13 : decode cX11_meant 13 = .ok (.i2l, 1) := by decide +kernel
theorem dX11_meant_14 : decode cX11_meant 14 = .ok (.lconst 0, 1) := by decide +kernel
theorem dX11_meant_15 : decode cX11_meant 15 = .ok (.ldc2_w 272, 3) := by decide +kernel
theorem dX11_meant_18 : decode cX11_meant 18 = .ok (.invokestatic 65, 3) := by decide +kernel
theorem dX11_meant_21 : decode cX11_meant 21 = .ok (.ifCond .ne 6, 3) := by decide +kernel
theorem dX11_meant_24 : decode cX11_meant 24 = .ok (.bipush (-3), 2) := by decide +kernel
theorem dX11_meant_26 : decode cX11_meant 26 = .ok (.ireturn, 1) := by decide +kernel
theorem dX11_meant_27 : decode cX11_meant 27 = .ok (.iconst 0, 1) := by decide +kernel
theorem dX11_meant_28 : decode cX11_meant 28 = .ok (.istore_n 3, 1) := by decide +kernel
theorem dX11_meant_29 : decode cX11_meant 29 = .ok (.iconst 0, 1) := by decide +kernel
theorem dX11_meant_30 : decode cX11_meant 30 = .ok (.istore 4, 2) := by decide +kernel
theorem dX11_meant_32 : decode cX11_meant 32 = .ok (.iload 4, 2) := by decide +kernel
theorem dX11_meant_34 : decode cX11_meant 34 = .ok (.aload_n 0, 1) := by decide +kernel
theorem dX11_meant_35 : decode cX11_meant 35 = .ok (.getfield 81, 3) := by decide +kernel
theorem dX11_meant_38 : decode cX11_meant 38 = .ok (.if_icmp .ge 36, 3) := by decide +kernel
theorem dX11_meant_41 : decode cX11_meant 41 = .ok (.iload_n 3, 1) := by decide +kernel
theorem dX11_meant_42 : decode cX11_meant 42 = .ok (.aload_n 0, 1) := by decide +kernel
theorem dX11_meant_43 : decode cX11_meant 43 = .ok (.getfield 46, 3) := by decide +kernel
theorem dX11_meant_46 : decode cX11_meant 46 = .ok (.iload 4, 2) := by decide +kernel
theorem dX11_meant_48 : decode cX11_meant 48 = .ok (.iaload, 1) := by decide +kernel
theorem dX11_meant_49 : decode cX11_meant 49 = .ok (.iload_n 1, 1) := by decide +kernel
theorem dX11_meant_50 : decode cX11_meant 50 = .ok (.ixor, 1) := by decide +kernel
theorem dX11_meant_51 : decode cX11_meant 51 = .ok (.invokestatic 269, 3) := by decide +kernel
theorem dX11_meant_54 : decode cX11_meant 54 = .ok (.iload_n 2, 1) := by decide +kernel
theorem dX11_meant_55 : decode cX11_meant 55 = .ok (.if_icmp .gt 10, 3) := by decide +kernel
theorem dX11_meant_58 : decode cX11_meant 58 = .ok (.iconst 1, 1) := by decide +kernel
theorem dX11_meant_59 : decode cX11_meant 59 = .ok (.iload 4, 2) := by decide +kernel
theorem dX11_meant_61 : decode cX11_meant 61 = .ok (.ishl, 1) := by decide +kernel
theorem dX11_meant_62 : decode cX11_meant 62 = .ok (.goto 4, 3) := by decide +kernel
theorem dX11_meant_65 : decode cX11_meant 65 = .ok (.iconst 0, 1) := by decide +kernel
theorem dX11_meant_66 : decode cX11_meant 66 = .ok (.ior, 1) := by decide +kernel
theorem dX11_meant_67 : decode cX11_meant 67 = .ok (.istore_n 3, 1) := by decide +kernel
theorem dX11_meant_68 : decode cX11_meant 68 = .ok (.iinc 4 1, 3) := by decide +kernel
theorem dX11_meant_71 : decode cX11_meant 71 = .ok (.goto (-39), 3) := by decide +kernel
theorem dX11_meant_74 : decode cX11_meant 74 = .ok (.iload_n 3, 1) := by decide +kernel
theorem dX11_meant_75 : decode cX11_meant 75 = .ok (.ireturn, 1) := by decide +kernel
set_option maxRecDepth 20000 in
theorem ggX11_layPairs_X11_mayMarry : GoodIn wsX11_layPairs wsX11_mayMarry := goodIn_r _ [9, 10, 11, 12, 13, 8, 14, 2, 15, 16, 17, 18, 19, 20, 21, 22, 23, 24, 25, 26, 27, 28, 29, 30, 31, 32, 33, 34, 35, 36, 37, 38, 39, 40, 41, 42, 43, 44, 45, 46] (by decide +kernel) (by decide +kernel)
set_option maxRecDepth 20000 in
theorem gX11_layPairs_X11_mayMarry : GoodIn wsX11_layPairs (wsV RX11 208 RX11 yX11_mayMarry wsX11_mayMarry) := goodIn_app (goodIn_of _ (by decide +kernel)) ggX11_layPairs_X11_mayMarry
theorem dX11_layPairs_0 : decode cX11_layPairs 0 = .ok (.aload_n 0, 1) := by decide +kernel
theorem dX11_layPairs_1 : decode cX11_layPairs 1 = .ok (.iconst 0, 1) := by decide +kernel
theorem dX11_layPairs_2 : decode cX11_layPairs 2 = .ok (.putfield 274, 3) := by decide +kernel
theorem dX11_layPairs_5 : decode cX11_layPairs 5 = .ok (.iload_n 1, 1) := by decide +kernel
theorem dX11_layPairs_6 : decode cX11_layPairs 6 = .ok (.istore_n 2, 1) := by decide +kernel
theorem dX11_layPairs_7 : decode cX11_layPairs 7 = .ok (.iload_n 2, 1) := by decide +kernel
theorem dX11_layPairs_8 : decode cX11_layPairs 8 = .ok (.aload_n 0, 1) := by decide +kernel
theorem dX11_layPairs_9 : decode cX11_layPairs 9 = .ok (.getfield 7, 3) := by decide +kernel
theorem dX11_layPairs_12 : decode cX11_layPairs 12 = .ok (.iconst 0, 1) := by decide +kernel
theorem dX11_layPairs_13 : decode cX11_layPairs 13 = .ok (.iaload, 1) := by decide +kernel
theorem dX11_layPairs_14 : decode cX11_layPairs 14 = .ok (.if_icmp .ge 68, 3) := by decide +kernel
theorem dX11_layPairs_17 : decode cX11_layPairs 17 = .ok (.iload_n 2, 1) := by decide +kernel
theorem dX11_layPairs_18 : decode cX11_layPairs 18 = .ok (.iconst 1, 1) := by decide +kernel
theorem dX11_layPairs_19 : decode cX11_layPairs 19 = .ok (.iadd, 1) := by decide +kernel
theorem dX11_layPairs_20 : decode cX11_layPairs 20 = .ok (.istore_n 3, 1) := by decide +kernel
theorem dX11_layPairs_21 : decode cX11_layPairs 21 = .ok (.iload_n 3, 1) := by decide +kernel
theorem dX11_layPairs_22 : decode cX11_layPairs 22 = .ok (.aload_n 0, 1) := by decide +kernel
theorem dX11_layPairs_23 : decode cX11_layPairs 23 = .ok (.getfield 7, 3) := by decide +kernel
theorem dX11_layPairs_26 : decode cX11_layPairs 26 = .ok (.iconst 0, 1) := by decide +kernel
theorem dX11_layPairs_27 : decode cX11_layPairs 27 = .ok (.iaload, 1) := by decide +kernel
theorem dX11_layPairs_28 : decode cX11_layPairs 28 = .ok (.if_icmp .ge 48, 3) := by decide +kernel
theorem dX11_layPairs_31 : decode cX11_layPairs 31 = .ok (.aload_n 0, 1) := by decide +kernel
theorem dX11_layPairs_32 : decode cX11_layPairs 32 = .ok (.iload_n 2, 1) := by decide +kernel
theorem dX11_layPairs_33 : decode cX11_layPairs 33 = .ok (.iload_n 3, 1) := by decide +kernel
theorem dX11_layPairs_34 : decode cX11_layPairs 34 = .ok (.invokevirtual 208, 3) := by decide +kernel
theorem dX11_layPairs_37 : decode cX11_layPairs 37 = .ok (.ifCond .eq 33, 3) := by decide +kernel
theorem dX11_layPairs_40 : decode cX11_layPairs 40 = .ok (.aload_n 0, 1) := by decide +kernel
theorem dX11_layPairs_41 : decode cX11_layPairs 41 = .ok (.getfield 49, 3) := by decide +kernel
theorem dX11_layPairs_44 : decode cX11_layPairs 44 = .ok (.aload_n 0, 1) := by decide +kernel
theorem dX11_layPairs_45 : decode cX11_layPairs 45 = .ok (.getfield 274, 3) := by decide +kernel
theorem dX11_layPairs_48 : decode cX11_layPairs 48 = .ok (.iload_n 2, 1) := by decide +kernel
theorem dX11_layPairs_49 : decode cX11_layPairs 49 = .ok (.iastore, 1) := by decide +kernel
theorem dX11_layPairs_50 : decode cX11_layPairs 50 = .ok (.aload_n 0, 1) := by decide +kernel
theorem dX11_layPairs_51 : decode cX11_layPairs 51 = .ok (.getfield 52, 3) := by decide +kernel
theorem dX11_layPairs_54 : decode cX11_layPairs 54 = .ok (.aload_n 0, 1) := by decide +kernel
theorem dX11_layPairs_55 : decode cX11_layPairs 55 = .ok (.getfield 274, 3) := by decide +kernel
theorem dX11_layPairs_58 : decode cX11_layPairs 58 = .ok (.iload_n 3, 1) := by decide +kernel
theorem dX11_layPairs_59 : decode cX11_layPairs 59 = .ok (.iastore, 1) := by decide +kernel
theorem dX11_layPairs_60 : decode cX11_layPairs 60 = .ok (.aload_n 0, 1) := by decide +kernel
theorem dX11_layPairs_61 : decode cX11_layPairs 61 = .ok (.dup, 1) := by decide +kernel
theorem dX11_layPairs_62 : decode cX11_layPairs 62 = .ok (.getfield 274, 3) := by decide +kernel
theorem dX11_layPairs_65 : decode cX11_layPairs 65 = .ok (.iconst 1, 1) := by decide +kernel
theorem dX11_layPairs_66 : decode cX11_layPairs 66 = .ok (.iadd, 1) := by decide +kernel
theorem dX11_layPairs_67 : decode cX11_layPairs 67 = .ok (.putfield 274, 3) := by decide +kernel
theorem dX11_layPairs_70 : decode cX11_layPairs 70 = .ok (.iinc 3 1, 3) := by decide +kernel
theorem dX11_layPairs_73 : decode cX11_layPairs 73 = .ok (.goto (-52), 3) := by decide +kernel
theorem dX11_layPairs_76 : decode cX11_layPairs 76 = .ok (.iinc 2 1, 3) := by decide +kernel
theorem dX11_layPairs_79 : decode cX11_layPairs 79 = .ok (.goto (-72), 3) := by decide +kernel
theorem dX11_layPairs_82 : decode cX11_layPairs 82 = .ok (.return_, 1) := by decide +kernel
set_option maxRecDepth 20000 in
theorem ggX11_mostWith_X11_has : GoodIn wsX11_mostWith wsX11_has := goodIn_r _ [7] (by decide +kernel) (by decide +kernel)
set_option maxRecDepth 20000 in
theorem gX11_mostWith_X11_has : GoodIn wsX11_mostWith (va_wsS RX11 164 yX11_has wsX11_has) := goodIn_app (goodIn_of _ (by decide +kernel)) ggX11_mostWith_X11_has
theorem dX11_mostWith_0 : decode cX11_mostWith 0 = .ok (.iconst 0, 1) := by decide +kernel
theorem dX11_mostWith_1 : decode cX11_mostWith 1 = .ok (.istore_n 2, 1) := by decide +kernel
theorem dX11_mostWith_2 : decode cX11_mostWith 2 = .ok (.iconst 0, 1) := by decide +kernel
theorem dX11_mostWith_3 : decode cX11_mostWith 3 = .ok (.istore_n 3, 1) := by decide +kernel
theorem dX11_mostWith_4 : decode cX11_mostWith 4 = .ok (.iload_n 3, 1) := by decide +kernel
theorem dX11_mostWith_5 : decode cX11_mostWith 5 = .ok (.iconst 1, 1) := by decide +kernel
theorem dX11_mostWith_6 : decode cX11_mostWith 6 = .ok (.aload_n 0, 1) := by decide +kernel
theorem dX11_mostWith_7 : decode cX11_mostWith 7 = .ok (.getfield 274, 3) := by decide +kernel
theorem dX11_mostWith_10 : decode cX11_mostWith 10 = .ok (.ishl, 1) := by decide +kernel
theorem dX11_mostWith_11 : decode cX11_mostWith 11 = .ok (.if_icmp .ge 130, 3) := by decide +kernel
theorem dX11_mostWith_14 : decode cX11_mostWith 14 = .ok (.iconst 0, 1) := by decide +kernel
theorem dX11_mostWith_15 : decode cX11_mostWith 15 = .ok (.istore 4, 2) := by decide +kernel
theorem dX11_mostWith_17 : decode cX11_mostWith 17 = .ok (.iconst 0, 1) := by decide +kernel
theorem dX11_mostWith_18 : decode cX11_mostWith 18 = .ok (.istore 5, 2) := by decide +kernel
theorem dX11_mostWith_20 : decode cX11_mostWith 20 = .ok (.iload_n 1, 1) := by decide +kernel
theorem dX11_mostWith_21 : decode cX11_mostWith 21 = .ok (.ifCond .lt 11, 3) := by decide +kernel
theorem dX11_mostWith_24 : decode cX11_mostWith 24 = .ok (.iload_n 3, 1) := by decide +kernel
theorem dX11_mostWith_25 : decode cX11_mostWith 25 = .ok (.iload_n 1, 1) := by decide +kernel
theorem dX11_mostWith_26 : decode cX11_mostWith 26 = .ok (.invokestatic 164, 3) := by decide +kernel
theorem dX11_mostWith_29 : decode cX11_mostWith 29 = .ok (.ifCond .eq 7, 3) := by decide +kernel
theorem dX11_mostWith_32 : decode cX11_mostWith 32 = .ok (.iconst 1, 1) := by decide +kernel
theorem dX11_mostWith_33 : decode cX11_mostWith 33 = .ok (.goto 4, 3) := by decide +kernel
theorem dX11_mostWith_36 : decode cX11_mostWith 36 = .ok (.iconst 0, 1) := by decide +kernel
theorem dX11_mostWith_37 : decode cX11_mostWith 37 = .ok (.istore 6, 2) := by decide +kernel
theorem dX11_mostWith_39 : decode cX11_mostWith 39 = .ok (.iconst 0, 1) := by decide +kernel
theorem dX11_mostWith_40 : decode cX11_mostWith 40 = .ok (.istore 7, 2) := by decide +kernel
theorem dX11_mostWith_42 : decode cX11_mostWith 42 = .ok (.iload 7, 2) := by decide +kernel
theorem dX11_mostWith_44 : decode cX11_mostWith 44 = .ok (.aload_n 0, 1) := by decide +kernel
theorem dX11_mostWith_45 : decode cX11_mostWith 45 = .ok (.getfield 274, 3) := by decide +kernel
theorem dX11_mostWith_48 : decode cX11_mostWith 48 = .ok (.if_icmp .ge 69, 3) := by decide +kernel
theorem dX11_mostWith_51 : decode cX11_mostWith 51 = .ok (.iload 6, 2) := by decide +kernel
theorem dX11_mostWith_53 : decode cX11_mostWith 53 = .ok (.ifCond .eq 64, 3) := by decide +kernel
theorem dX11_mostWith_56 : decode cX11_mostWith 56 = .ok (.iload_n 3, 1) := by decide +kernel
theorem dX11_mostWith_57 : decode cX11_mostWith 57 = .ok (.iload 7, 2) := by decide +kernel
theorem dX11_mostWith_59 : decode cX11_mostWith 59 = .ok (.invokestatic 164, 3) := by decide +kernel
theorem dX11_mostWith_62 : decode cX11_mostWith 62 = .ok (.ifCond .eq 49, 3) := by decide +kernel
theorem dX11_mostWith_65 : decode cX11_mostWith 65 = .ok (.iconst 1, 1) := by decide +kernel
theorem dX11_mostWith_66 : decode cX11_mostWith 66 = .ok (.aload_n 0, 1) := by decide +kernel
theorem dX11_mostWith_67 : decode cX11_mostWith 67 = .ok (.getfield 49, 3) := by decide +kernel
theorem dX11_mostWith_70 : decode cX11_mostWith 70 = .ok (.iload 7, 2) := by decide +kernel
theorem dX11_mostWith_72 : decode cX11_mostWith 72 = .ok (.iaload, 1) := by decide +kernel
theorem dX11_mostWith_73 : decode cX11_mostWith 73 = .ok (.ishl, 1) := by decide +kernel
theorem dX11_mostWith_74 : decode cX11_mostWith 74 = .ok (.iconst 1, 1) := by decide +kernel
theorem dX11_mostWith_75 : decode cX11_mostWith 75 = .ok (.aload_n 0, 1) := by decide +kernel
theorem dX11_mostWith_76 : decode cX11_mostWith 76 = .ok (.getfield 52, 3) := by decide +kernel
theorem dX11_mostWith_79 : decode cX11_mostWith 79 = .ok (.iload 7, 2) := by decide +kernel
theorem dX11_mostWith_81 : decode cX11_mostWith 81 = .ok (.iaload, 1) := by decide +kernel
theorem dX11_mostWith_82 : decode cX11_mostWith 82 = .ok (.ishl, 1) := by decide +kernel
theorem dX11_mostWith_83 : decode cX11_mostWith 83 = .ok (.ior, 1) := by decide +kernel
theorem dX11_mostWith_84 : decode cX11_mostWith 84 = .ok (.istore 8, 2) := by decide +kernel
theorem dX11_mostWith_86 : decode cX11_mostWith 86 = .ok (.iload 4, 2) := by decide +kernel
theorem dX11_mostWith_88 : decode cX11_mostWith 88 = .ok (.iload 8, 2) := by decide +kernel
theorem dX11_mostWith_90 : decode cX11_mostWith 90 = .ok (.iand, 1) := by decide +kernel
theorem dX11_mostWith_91 : decode cX11_mostWith 91 = .ok (.ifCond .ne 7, 3) := by decide +kernel
theorem dX11_mostWith_94 : decode cX11_mostWith 94 = .ok (.iconst 1, 1) := by decide +kernel
theorem dX11_mostWith_95 : decode cX11_mostWith 95 = .ok (.goto 4, 3) := by decide +kernel
theorem dX11_mostWith_98 : decode cX11_mostWith 98 = .ok (.iconst 0, 1) := by decide +kernel
theorem dX11_mostWith_99 : decode cX11_mostWith 99 = .ok (.istore 6, 2) := by decide +kernel
theorem dX11_mostWith_101 : decode cX11_mostWith 101 = .ok (.iload 4, 2) := by decide +kernel
theorem dX11_mostWith_103 : decode cX11_mostWith 103 = .ok (.iload 8, 2) := by decide +kernel
theorem dX11_mostWith_105 : decode cX11_mostWith 105 = .ok (.ior, 1) := by decide +kernel
theorem dX11_mostWith_106 : decode cX11_mostWith 106 = .ok (.istore 4, 2) := by decide +kernel
theorem dX11_mostWith_108 : decode cX11_mostWith 108 = .ok (.iinc 5 1, 3) := by decide +kernel
theorem dX11_mostWith_111 : decode cX11_mostWith 111 = .ok (.iinc 7 1, 3) := by decide +kernel
theorem dX11_mostWith_114 : decode cX11_mostWith 114 = .ok (.goto (-72), 3) := by decide +kernel
theorem dX11_mostWith_117 : decode cX11_mostWith 117 = .ok (.iload 6, 2) := by decide +kernel
theorem dX11_mostWith_119 : decode cX11_mostWith 119 = .ok (.ifCond .eq 14, 3) := by decide +kernel
theorem dX11_mostWith_122 : decode cX11_mostWith 122 = .ok (.iload 5, 2) := by decide +kernel
theorem dX11_mostWith_124 : decode cX11_mostWith 124 = .ok (.iload_n 2, 1) := by decide +kernel
theorem dX11_mostWith_125 : decode cX11_mostWith 125 = .ok (.if_icmp .le 8, 3) := by decide +kernel
theorem dX11_mostWith_128 : decode cX11_mostWith 128 = .ok (.iload 5, 2) := by decide +kernel
theorem dX11_mostWith_130 : decode cX11_mostWith 130 = .ok (.goto 4, 3) := by decide +kernel
theorem dX11_mostWith_133 : decode cX11_mostWith 133 = .ok (.iload_n 2, 1) := by decide +kernel
theorem dX11_mostWith_134 : decode cX11_mostWith 134 = .ok (.istore_n 2, 1) := by decide +kernel
theorem dX11_mostWith_135 : decode cX11_mostWith 135 = .ok (.iinc 3 1, 3) := by decide +kernel
theorem dX11_mostWith_138 : decode cX11_mostWith 138 = .ok (.goto (-134), 3) := by decide +kernel
theorem dX11_mostWith_141 : decode cX11_mostWith 141 = .ok (.iload_n 2, 1) := by decide +kernel
theorem dX11_mostWith_142 : decode cX11_mostWith 142 = .ok (.ireturn, 1) := by decide +kernel
set_option maxRecDepth 20000 in
theorem ggX11_pairs_X11_in : GoodIn wsX11_pairs wsX11_in := goodIn_r _ [9] (by decide +kernel) (by decide +kernel)
set_option maxRecDepth 20000 in
theorem gX11_pairs_X11_in : GoodIn wsX11_pairs (va_wsS RX11 65 yX11_in wsX11_in) := goodIn_app (goodIn_of _ (by decide +kernel)) ggX11_pairs_X11_in
set_option maxRecDepth 20000 in
theorem ggX11_pairs_X11_layPairs : GoodIn wsX11_pairs wsX11_layPairs := goodIn_r _ [13, 3, 2, 4, 5, 14, 15, 16, 8, 17, 18, 19, 20, 21, 22, 23, 24, 25, 30, 31, 32, 33, 34, 35, 36, 37, 38, 39, 40, 41, 42, 43, 44, 45, 46, 47, 48, 49, 50, 51, 52, 53, 54, 55, 56, 57, 58] (by decide +kernel) (by decide +kernel)
set_option maxRecDepth 20000 in
theorem gX11_pairs_X11_layPairs : GoodIn wsX11_pairs (wsV RX11 277 RX11 yX11_layPairs wsX11_layPairs) := goodIn_app (goodIn_of _ (by decide +kernel)) ggX11_pairs_X11_layPairs
set_option maxRecDepth 20000 in
theorem ggX11_pairs_X11_mostWith : GoodIn wsX11_pairs wsX11_mostWith := goodIn_r _ [29, 3, 4, 5, 23, 24, 8, 25, 30, 31, 32, 33, 34, 35, 36, 37, 38, 39, 40, 41, 42, 43, 44, 45, 46, 47, 48, 49, 50, 51, 52, 53, 54, 55, 56, 57, 58] (by decide +kernel) (by decide +kernel)
set_option maxRecDepth 20000 in
theorem gX11_pairs_X11_mostWith : GoodIn wsX11_pairs (wsV RX11 280 RX11 yX11_mostWith wsX11_mostWith) := goodIn_app (goodIn_of _ (by decide +kernel)) ggX11_pairs_X11_mostWith
theorem dX11_pairs_0 : decode cX11_pairs 0 = .ok (.iload_n 1, 1) := by decide +kernel
theorem dX11_pairs_1 : decode cX11_pairs 1 = .ok (.i2l, 1) := by decide +kernel
theorem dX11_pairs_2 : decode cX11_pairs 2 = .ok (.lconst 0, 1) := by decide +kernel
theorem dX11_pairs_3 : decode cX11_pairs 3 = .ok (.ldc2_w 196, 3) := by decide +kernel
theorem dX11_pairs_6 : decode cX11_pairs 6 = .ok (.invokestatic 65, 3) := by decide +kernel
theorem dX11_pairs_9 : decode cX11_pairs 9 = .ok (.ifCond .ne 6, 3) := by decide +kernel
theorem dX11_pairs_12 : decode cX11_pairs 12 = .ok (.bipush (-3), 2) := by decide +kernel
theorem dX11_pairs_14 : decode cX11_pairs 14 = .ok (.ireturn, 1) := by decide +kernel
theorem dX11_pairs_15 : decode cX11_pairs 15 = .ok (.aload_n 0, 1) := by decide +kernel
theorem dX11_pairs_16 : decode cX11_pairs 16 = .ok (.iconst 0, 1) := by decide +kernel
theorem dX11_pairs_17 : decode cX11_pairs 17 = .ok (.invokevirtual 277, 3) := by decide +kernel
theorem dX11_pairs_20 : decode cX11_pairs 20 = .ok (.aload_n 0, 1) := by decide +kernel
theorem dX11_pairs_21 : decode cX11_pairs 21 = .ok (.iconst (-1), 1) := by decide +kernel
theorem dX11_pairs_22 : decode cX11_pairs 22 = .ok (.invokevirtual 280, 3) := by decide +kernel
theorem dX11_pairs_25 : decode cX11_pairs 25 = .ok (.istore_n 2, 1) := by decide +kernel
theorem dX11_pairs_26 : decode cX11_pairs 26 = .ok (.iload_n 1, 1) := by decide +kernel
theorem dX11_pairs_27 : decode cX11_pairs 27 = .ok (.ifCond .eq 7, 3) := by decide +kernel
theorem dX11_pairs_30 : decode cX11_pairs 30 = .ok (.iload_n 2, 1) := by decide +kernel
theorem dX11_pairs_31 : decode cX11_pairs 31 = .ok (.ifCond .ne 13, 3) := by decide +kernel
theorem dX11_pairs_34 : decode cX11_pairs 34 = .ok (.iload_n 1, 1) := by decide +kernel
theorem dX11_pairs_35 : decode cX11_pairs 35 = .ok (.ifCond .ne 7, 3) := by decide +kernel
theorem dX11_pairs_38 : decode cX11_pairs 38 = .ok (.iload_n 2, 1) := by decide +kernel
theorem dX11_pairs_39 : decode cX11_pairs 39 = .ok (.goto 4, 3) := by decide +kernel
theorem dX11_pairs_42 : decode cX11_pairs 42 = .ok (.iconst (-1), 1) := by decide +kernel
theorem dX11_pairs_43 : decode cX11_pairs 43 = .ok (.ireturn, 1) := by decide +kernel
theorem dX11_pairs_44 : decode cX11_pairs 44 = .ok (.iconst 0, 1) := by decide +kernel
theorem dX11_pairs_45 : decode cX11_pairs 45 = .ok (.istore_n 3, 1) := by decide +kernel
theorem dX11_pairs_46 : decode cX11_pairs 46 = .ok (.iload_n 3, 1) := by decide +kernel
theorem dX11_pairs_47 : decode cX11_pairs 47 = .ok (.aload_n 0, 1) := by decide +kernel
theorem dX11_pairs_48 : decode cX11_pairs 48 = .ok (.getfield 7, 3) := by decide +kernel
theorem dX11_pairs_51 : decode cX11_pairs 51 = .ok (.iconst 0, 1) := by decide +kernel
theorem dX11_pairs_52 : decode cX11_pairs 52 = .ok (.iaload, 1) := by decide +kernel
theorem dX11_pairs_53 : decode cX11_pairs 53 = .ok (.if_icmp .ge 70, 3) := by decide +kernel
theorem dX11_pairs_56 : decode cX11_pairs 56 = .ok (.aload_n 0, 1) := by decide +kernel
theorem dX11_pairs_57 : decode cX11_pairs 57 = .ok (.iload_n 3, 1) := by decide +kernel
theorem dX11_pairs_58 : decode cX11_pairs 58 = .ok (.invokevirtual 277, 3) := by decide +kernel
theorem dX11_pairs_61 : decode cX11_pairs 61 = .ok (.iconst 0, 1) := by decide +kernel
theorem dX11_pairs_62 : decode cX11_pairs 62 = .ok (.istore 4, 2) := by decide +kernel
theorem dX11_pairs_64 : decode cX11_pairs 64 = .ok (.iload 4, 2) := by decide +kernel
theorem dX11_pairs_66 : decode cX11_pairs 66 = .ok (.aload_n 0, 1) := by decide +kernel
theorem dX11_pairs_67 : decode cX11_pairs 67 = .ok (.getfield 274, 3) := by decide +kernel
theorem dX11_pairs_70 : decode cX11_pairs 70 = .ok (.if_icmp .ge 47, 3) := by decide +kernel
theorem dX11_pairs_73 : decode cX11_pairs 73 = .ok (.aload_n 0, 1) := by decide +kernel
theorem dX11_pairs_74 : decode cX11_pairs 74 = .ok (.getfield 49, 3) := by decide +kernel
theorem dX11_pairs_77 : decode cX11_pairs 77 = .ok (.iload 4, 2) := by decide +kernel
theorem dX11_pairs_79 : decode cX11_pairs 79 = .ok (.iaload, 1) := by decide +kernel
theorem dX11_pairs_80 : decode cX11_pairs 80 = .ok (.iload_n 3, 1) := by decide +kernel
theorem dX11_pairs_81 : decode cX11_pairs 81 = .ok (.if_icmp .ne 36, 3) := by decide +kernel
theorem dX11_pairs_84 : decode cX11_pairs 84 = .ok (.aload_n 0, 1) := by decide +kernel
theorem dX11_pairs_85 : decode cX11_pairs 85 = .ok (.iload 4, 2) := by decide +kernel
theorem dX11_pairs_87 : decode cX11_pairs 87 = .ok (.invokevirtual 280, 3) := by decide +kernel
theorem dX11_pairs_90 : decode cX11_pairs 90 = .ok (.iload_n 2, 1) := by decide +kernel
theorem dX11_pairs_91 : decode cX11_pairs 91 = .ok (.if_icmp .ne 20, 3) := by decide +kernel
theorem dX11_pairs_94 : decode cX11_pairs 94 = .ok (.iload_n 1, 1) := by decide +kernel
theorem dX11_pairs_95 : decode cX11_pairs 95 = .ok (.iconst 1, 1) := by decide +kernel
theorem dX11_pairs_96 : decode cX11_pairs 96 = .ok (.if_icmp .ne 7, 3) := by decide +kernel
theorem dX11_pairs_99 : decode cX11_pairs 99 = .ok (.iload_n 3, 1) := by decide +kernel
theorem dX11_pairs_100 : decode cX11_pairs 100 = .ok (.goto 10, 3) := by decide +kernel
theorem dX11_pairs_103 : decode cX11_pairs 103 = .ok (.aload_n 0, 1) := by decide +kernel
theorem dX11_pairs_104 : decode cX11_pairs 104 = .ok (.getfield 52, 3) := by decide +kernel
theorem dX11_pairs_107 : decode cX11_pairs 107 = .ok (.iload 4, 2) := by decide +kernel
theorem dX11_pairs_109 : decode cX11_pairs 109 = .ok (.iaload, 1) := by decide +kernel
theorem dX11_pairs_110 : decode cX11_pairs 110 = .ok (.ireturn, 1) := by decide +kernel
theorem dX11_pairs_111 : decode cX11_pairs 111 = .ok (.iinc 4 1, 3) := by decide +kernel
theorem dX11_pairs_114 : decode cX11_pairs 114 = .ok (.goto (-50), 3) := by decide +kernel
theorem dX11_pairs_117 : decode cX11_pairs 117 = .ok (.iinc 3 1, 3) := by decide +kernel
theorem dX11_pairs_120 : decode cX11_pairs 120 = .ok (.goto (-74), 3) := by decide +kernel
theorem dX11_pairs_123 : decode cX11_pairs 123 = .ok (.iconst (-1), 1) := by decide +kernel
theorem dX11_pairs_124 : decode cX11_pairs 124 = .ok (.ireturn, 1) := by decide +kernel
theorem dX11_ballot_0 : decode cX11_ballot 0 = .ok (.iconst 0, 1) := by decide +kernel
theorem dX11_ballot_1 : decode cX11_ballot 1 = .ok (.istore_n 2, 1) := by decide +kernel
theorem dX11_ballot_2 : decode cX11_ballot 2 = .ok (.iload_n 1, 1) := by decide +kernel
theorem dX11_ballot_3 : decode cX11_ballot 3 = .ok (.istore_n 3, 1) := by decide +kernel
theorem dX11_ballot_4 : decode cX11_ballot 4 = .ok (.iconst 0, 1) := by decide +kernel
theorem dX11_ballot_5 : decode cX11_ballot 5 = .ok (.istore 4, 2) := by decide +kernel
theorem dX11_ballot_7 : decode cX11_ballot 7 = .ok (.iload 4, 2) := by decide +kernel
theorem dX11_ballot_9 : decode cX11_ballot 9 = .ok (.aload_n 0, 1) := by decide +kernel
theorem dX11_ballot_10 : decode cX11_ballot 10 = .ok (.getfield 7, 3) := by decide +kernel
theorem dX11_ballot_13 : decode cX11_ballot 13 = .ok (.iconst 0, 1) := by decide +kernel
theorem dX11_ballot_14 : decode cX11_ballot 14 = .ok (.iaload, 1) := by decide +kernel
theorem dX11_ballot_15 : decode cX11_ballot 15 = .ok (.if_icmp .ge 44, 3) := by decide +kernel
theorem dX11_ballot_18 : decode cX11_ballot 18 = .ok (.iload_n 1, 1) := by decide +kernel
theorem dX11_ballot_19 : decode cX11_ballot 19 = .ok (.ifCond .lt 40, 3) := by decide +kernel
theorem dX11_ballot_22 : decode cX11_ballot 22 = .ok (.iload_n 2, 1) := by decide +kernel
theorem dX11_ballot_23 : decode cX11_ballot 23 = .ok (.iload_n 3, 1) := by decide +kernel
theorem dX11_ballot_24 : decode cX11_ballot 24 = .ok (.bipush 10, 2) := by decide +kernel
theorem dX11_ballot_26 : decode cX11_ballot 26 = .ok (.irem, 1) := by decide +kernel
theorem dX11_ballot_27 : decode cX11_ballot 27 = .ok (.aload_n 0, 1) := by decide +kernel
theorem dX11_ballot_28 : decode cX11_ballot 28 = .ok (.getfield 7, 3) := by decide +kernel
theorem dX11_ballot_31 : decode cX11_ballot 31 = .ok (.iconst 0, 1) := by decide +kernel
theorem dX11_ballot_32 : decode cX11_ballot 32 = .ok (.iaload, 1) := by decide +kernel
theorem dX11_ballot_33 : decode cX11_ballot 33 = .ok (.if_icmp .ge 12, 3) := by decide +kernel
theorem dX11_ballot_36 : decode cX11_ballot 36 = .ok (.iconst 1, 1) := by decide +kernel
theorem dX11_ballot_37 : decode cX11_ballot 37 = .ok (.iload_n 3, 1) := by decide +kernel
theorem dX11_ballot_38 : decode cX11_ballot 38 = .ok (.bipush 10, 2) := by decide +kernel
theorem dX11_ballot_40 : decode cX11_ballot 40 = .ok (.irem, 1) := by decide +kernel
theorem dX11_ballot_41 : decode cX11_ballot 41 = .ok (.ishl, 1) := by decide +kernel
theorem dX11_ballot_42 : decode cX11_ballot 42 = .ok (.goto 4, 3) := by decide +kernel
theorem dX11_ballot_45 : decode cX11_ballot 45 = .ok (.iconst 0, 1) := by decide +kernel
theorem dX11_ballot_46 : decode cX11_ballot 46 = .ok (.ior, 1) := by decide +kernel
theorem dX11_ballot_47 : decode cX11_ballot 47 = .ok (.istore_n 2, 1) := by decide +kernel
theorem dX11_ballot_48 : decode cX11_ballot 48 = .ok (.iload_n 3, 1) := by decide +kernel
theorem dX11_ballot_49 : decode cX11_ballot 49 = .ok (.bipush 10, 2) := by decide +kernel
theorem dX11_ballot_51 : decode cX11_ballot 51 = .ok (.idiv, 1) := by decide +kernel
theorem dX11_ballot_52 : decode cX11_ballot 52 = .ok (.istore_n 3, 1) := by decide +kernel
theorem dX11_ballot_53 : decode cX11_ballot 53 = .ok (.iinc 4 1, 3) := by decide +kernel
theorem dX11_ballot_56 : decode cX11_ballot 56 = .ok (.goto (-49), 3) := by decide +kernel
theorem dX11_ballot_59 : decode cX11_ballot 59 = .ok (.iload_n 1, 1) := by decide +kernel
theorem dX11_ballot_60 : decode cX11_ballot 60 = .ok (.ifCond .lt 21, 3) := by decide +kernel
theorem dX11_ballot_63 : decode cX11_ballot 63 = .ok (.iload_n 3, 1) := by decide +kernel
theorem dX11_ballot_64 : decode cX11_ballot 64 = .ok (.ifCond .gt 17, 3) := by decide +kernel
theorem dX11_ballot_67 : decode cX11_ballot 67 = .ok (.iload_n 2, 1) := by decide +kernel
theorem dX11_ballot_68 : decode cX11_ballot 68 = .ok (.iconst 1, 1) := by decide +kernel
theorem dX11_ballot_69 : decode cX11_ballot 69 = .ok (.aload_n 0, 1) := by decide +kernel
theorem dX11_ballot_70 : decode cX11_ballot 70 = .ok (.getfield 7, 3) := by decide +kernel
theorem dX11_ballot_73 : decode cX11_ballot 73 = .ok (.iconst 0, 1) := by decide +kernel
theorem dX11_ballot_74 : decode cX11_ballot 74 = .ok (.iaload, 1) := by decide +kernel
theorem dX11_ballot_75 : decode cX11_ballot 75 = .ok (.ishl, 1) := by decide +kernel
theorem dX11_ballot_76 : decode cX11_ballot 76 = .ok (.iconst 1, 1) := by decide +kernel
theorem dX11_ballot_77 : decode cX11_ballot 77 = .ok (.isub, 1) := by decide +kernel
theorem dX11_ballot_78 : decode cX11_ballot 78 = .ok (.if_icmp .eq 6, 3) := by decide +kernel
theorem dX11_ballot_81 : decode cX11_ballot 81 = .ok (.bipush (-3), 2) := by decide +kernel
theorem dX11_ballot_83 : decode cX11_ballot 83 = .ok (.ireturn, 1) := by decide +kernel
theorem dX11_ballot_84 : decode cX11_ballot 84 = .ok (.aload_n 0, 1) := by decide +kernel
theorem dX11_ballot_85 : decode cX11_ballot 85 = .ok (.getfield 7, 3) := by decide +kernel
theorem dX11_ballot_88 : decode cX11_ballot 88 = .ok (.iconst 0, 1) := by decide +kernel
theorem dX11_ballot_89 : decode cX11_ballot 89 = .ok (.iaload, 1) := by decide +kernel
theorem dX11_ballot_90 : decode cX11_ballot 90 = .ok (.ifCond .ne 6, 3) := by decide +kernel
theorem dX11_ballot_93 : decode cX11_ballot 93 = .ok (.bipush (-4), 2) := by decide +kernel
theorem dX11_ballot_95 : decode cX11_ballot 95 = .ok (.ireturn, 1) := by decide +kernel
theorem dX11_ballot_96 : decode cX11_ballot 96 = .ok (.aload_n 0, 1) := by decide +kernel
theorem dX11_ballot_97 : decode cX11_ballot 97 = .ok (.getfield 84, 3) := by decide +kernel
theorem dX11_ballot_100 : decode cX11_ballot 100 = .ok (.bipush 9, 2) := by decide +kernel
theorem dX11_ballot_102 : decode cX11_ballot 102 = .ok (.if_icmp .ne 6, 3) := by decide +kernel
theorem dX11_ballot_105 : decode cX11_ballot 105 = .ok (.bipush (-5), 2) := by decide +kernel
theorem dX11_ballot_107 : decode cX11_ballot 107 = .ok (.ireturn, 1) := by decide +kernel
theorem dX11_ballot_108 : decode cX11_ballot 108 = .ok (.iload_n 1, 1) := by decide +kernel
theorem dX11_ballot_109 : decode cX11_ballot 109 = .ok (.istore_n 3, 1) := by decide +kernel
theorem dX11_ballot_110 : decode cX11_ballot 110 = .ok (.aload_n 0, 1) := by decide +kernel
theorem dX11_ballot_111 : decode cX11_ballot 111 = .ok (.getfield 7, 3) := by decide +kernel
theorem dX11_ballot_114 : decode cX11_ballot 114 = .ok (.iconst 0, 1) := by decide +kernel
theorem dX11_ballot_115 : decode cX11_ballot 115 = .ok (.iaload, 1) := by decide +kernel
theorem dX11_ballot_116 : decode cX11_ballot 116 = .ok (.iconst 1, 1) := by decide +kernel
theorem dX11_ballot_117 : decode cX11_ballot 117 = .ok (.isub, 1) := by decide +kernel
theorem dX11_ballot_118 : decode cX11_ballot 118 = .ok (.istore 4, 2) := by decide +kernel
theorem dX11_ballot_120 : decode cX11_ballot 120 = .ok (.iload 4, 2) := by decide +kernel
theorem dX11_ballot_122 : decode cX11_ballot 122 = .ok (.ifCond .lt 32, 3) := by decide +kernel
theorem dX11_ballot_125 : decode cX11_ballot 125 = .ok (.aload_n 0, 1) := by decide +kernel
theorem dX11_ballot_126 : decode cX11_ballot 126 = .ok (.getfield 55, 3) := by decide +kernel
theorem dX11_ballot_129 : decode cX11_ballot 129 = .ok (.iconst 5, 1) := by decide +kernel
theorem dX11_ballot_130 : decode cX11_ballot 130 = .ok (.aload_n 0, 1) := by decide +kernel
theorem dX11_ballot_131 : decode cX11_ballot 131 = .ok (.getfield 84, 3) := by decide +kernel
theorem dX11_ballot_134 : decode cX11_ballot 134 = .ok (.imul, 1) := by decide +kernel
theorem dX11_ballot_135 : decode cX11_ballot 135 = .ok (.iload 4, 2) := by decide +kernel
theorem dX11_ballot_137 : decode cX11_ballot 137 = .ok (.iadd, 1) := by decide +kernel
theorem dX11_ballot_138 : decode cX11_ballot 138 = .ok (.iload_n 3, 1) := by decide +kernel
theorem dX11_ballot_139 : decode cX11_ballot 139 = .ok (.bipush 10, 2) := by decide +kernel
theorem dX11_ballot_141 : decode cX11_ballot 141 = .ok (.irem, 1) := by decide +kernel
theorem dX11_ballot_142 : decode cX11_ballot 142 = .ok (.iastore, 1) := by decide +kernel
theorem dX11_ballot_143 : decode cX11_ballot 143 = .ok (.iload_n 3, 1) := by decide +kernel
theorem dX11_ballot_144 : decode cX11_ballot 144 = .ok (.bipush 10, 2) := by decide +kernel
theorem dX11_ballot_146 : decode cX11_ballot 146 = .ok (.idiv, 1) := by decide +kernel
theorem dX11_ballot_147 : decode cX11_ballot 147 = .ok (.istore_n 3, 1) := by decide +kernel
theorem dX11_ballot_148 : decode cX11_ballot 148 = .ok (.iinc 4 (-1), 3) := by decide +kernel
theorem dX11_ballot_151 : decode cX11_ballot 151 = .ok (.goto (-31), 3) := by decide +kernel
theorem dX11_ballot_154 : decode cX11_ballot 154 = .ok (.aload_n 0, 1) := by decide +kernel
theorem dX11_ballot_155 : decode cX11_ballot 155 = .ok (.dup, 1) := by decide +kernel
theorem dX11_ballot_156 : decode cX11_ballot 156 = .ok (.getfield 84, 3) := by decide +kernel
theorem dX11_ballot_159 : decode cX11_ballot 159 = .ok (.iconst 1, 1) := by decide +kernel
theorem dX11_ballot_160 : decode cX11_ballot 160 = .ok (.iadd, 1) := by decide +kernel
theorem dX11_ballot_161 : decode cX11_ballot 161 = .ok (.putfield 84, 3) := by decide +kernel
theorem dX11_ballot_164 : decode cX11_ballot 164 = .ok (.aload_n 0, 1) := by decide +kernel
theorem dX11_ballot_165 : decode cX11_ballot 165 = .ok (.getfield 84, 3) := by decide +kernel
theorem dX11_ballot_168 : decode cX11_ballot 168 = .ok (.ireturn, 1) := by decide +kernel
theorem dX11_placeOn_0 : decode cX11_placeOn 0 = .ok (.iconst 0, 1) := by decide +kernel
theorem dX11_placeOn_1 : decode cX11_placeOn 1 = .ok (.istore_n 3, 1) := by decide +kernel
theorem dX11_placeOn_2 : decode cX11_placeOn 2 = .ok (.aload_n 0, 1) := by decide +kernel
theorem dX11_placeOn_3 : decode cX11_placeOn 3 = .ok (.getfield 55, 3) := by decide +kernel
theorem dX11_placeOn_6 : decode cX11_placeOn 6 = .ok (.iconst 5, 1) := by decide +kernel
theorem dX11_placeOn_7 : decode cX11_placeOn 7 = .ok (.iload_n 1, 1) := by decide +kernel
theorem dX11_placeOn_8 : decode cX11_placeOn 8 = .ok (.imul, 1) := by decide +kernel
theorem dX11_placeOn_9 : decode cX11_placeOn 9 = .ok (.iload_n 3, 1) := by decide +kernel
theorem dX11_placeOn_10 : decode cX11_placeOn 10 = .ok (.iadd, 1) := by decide +kernel
theorem dX11_placeOn_11 : decode cX11_placeOn 11 = .ok (.iaload, 1) := by decide +kernel
theorem dX11_placeOn_12 : decode cX11_placeOn 12 = .ok (.iload_n 2, 1) := by decide +kernel
theorem dX11_placeOn_13 : decode cX11_placeOn 13 = .ok (.if_icmp .eq 9, 3) := by decide +kernel
theorem dX11_placeOn_16 : decode cX11_placeOn 16 = .ok (.iinc 3 1, 3) := by decide +kernel
theorem dX11_placeOn_19 : decode cX11_placeOn 19 = .ok (.goto (-17), 3) := by decide +kernel
theorem dX11_placeOn_22 : decode cX11_placeOn 22 = .ok (.iload_n 3, 1) := by decide +kernel
theorem dX11_placeOn_23 : decode cX11_placeOn 23 = .ok (.ireturn, 1) := by decide +kernel
theorem dX11_firstBy_0 : decode cX11_firstBy 0 = .ok (.iconst 0, 1) := by decide +kernel
theorem dX11_firstBy_1 : decode cX11_firstBy 1 = .ok (.istore_n 3, 1) := by decide +kernel
theorem dX11_firstBy_2 : decode cX11_firstBy 2 = .ok (.iconst (-1), 1) := by decide +kernel
theorem dX11_firstBy_3 : decode cX11_firstBy 3 = .ok (.istore 4, 2) := by decide +kernel
theorem dX11_firstBy_5 : decode cX11_firstBy 5 = .ok (.iconst 0, 1) := by decide +kernel
theorem dX11_firstBy_6 : decode cX11_firstBy 6 = .ok (.istore 5, 2) := by decide +kernel
theorem dX11_firstBy_8 : decode cX11_firstBy 8 = .ok (.iload 5, 2) := by decide +kernel
theorem dX11_firstBy_10 : decode cX11_firstBy 10 = .ok (.aload_n 0, 1) := by decide +kernel
theorem dX11_firstBy_11 : decode cX11_firstBy 11 = .ok (.getfield 7, 3) := by decide +kernel
theorem dX11_firstBy_14 : decode cX11_firstBy 14 = .ok (.iconst 0, 1) := by decide +kernel
theorem dX11_firstBy_15 : decode cX11_firstBy 15 = .ok (.iaload, 1) := by decide +kernel
theorem dX11_firstBy_16 : decode cX11_firstBy 16 = .ok (.if_icmp .ge 94, 3) := by decide +kernel
theorem dX11_firstBy_19 : decode cX11_firstBy 19 = .ok (.iconst 0, 1) := by decide +kernel
theorem dX11_firstBy_20 : decode cX11_firstBy 20 = .ok (.istore 6, 2) := by decide +kernel
theorem dX11_firstBy_22 : decode cX11_firstBy 22 = .ok (.iconst 0, 1) := by decide +kernel
theorem dX11_firstBy_23 : decode cX11_firstBy 23 = .ok (.istore 7, 2) := by decide +kernel
theorem dX11_firstBy_25 : decode cX11_firstBy 25 = .ok (.iload 7, 2) := by decide +kernel
theorem dX11_firstBy_27 : decode cX11_firstBy 27 = .ok (.aload_n 0, 1) := by decide +kernel
theorem dX11_firstBy_28 : decode cX11_firstBy 28 = .ok (.getfield 84, 3) := by decide +kernel
theorem dX11_firstBy_31 : decode cX11_firstBy 31 = .ok (.if_icmp .ge 43, 3) := by decide +kernel
theorem dX11_firstBy_34 : decode cX11_firstBy 34 = .ok (.iload 6, 2) := by decide +kernel
theorem dX11_firstBy_36 : decode cX11_firstBy 36 = .ok (.iload 7, 2) := by decide +kernel
theorem dX11_firstBy_38 : decode cX11_firstBy 38 = .ok (.iload_n 1, 1) := by decide +kernel
theorem dX11_firstBy_39 : decode cX11_firstBy 39 = .ok (.if_icmp .ne 7, 3) := by decide +kernel
theorem dX11_firstBy_42 : decode cX11_firstBy 42 = .ok (.iload_n 2, 1) := by decide +kernel
theorem dX11_firstBy_43 : decode cX11_firstBy 43 = .ok (.goto 12, 3) := by decide +kernel
theorem dX11_firstBy_46 : decode cX11_firstBy 46 = .ok (.aload_n 0, 1) := by decide +kernel
theorem dX11_firstBy_47 : decode cX11_firstBy 47 = .ok (.getfield 55, 3) := by decide +kernel
theorem dX11_firstBy_50 : decode cX11_firstBy 50 = .ok (.iconst 5, 1) := by decide +kernel
theorem dX11_firstBy_51 : decode cX11_firstBy 51 = .ok (.iload 7, 2) := by decide +kernel
theorem dX11_firstBy_53 : decode cX11_firstBy 53 = .ok (.imul, 1) := by decide +kernel
theorem dX11_firstBy_54 : decode cX11_firstBy 54 = .ok (.iaload, 1) := by decide +kernel
theorem dX11_firstBy_55 : decode cX11_firstBy 55 = .ok (.iload 5, 2) := by decide +kernel
theorem dX11_firstBy_57 : decode cX11_firstBy 57 = .ok (.if_icmp .ne 7, 3) := by decide +kernel
theorem dX11_firstBy_60 : decode cX11_firstBy 60 = .ok (.iconst 1, 1) := by decide +kernel
theorem dX11_firstBy_61 : decode cX11_firstBy 61 = .ok (.goto 4, 3) := by decide +kernel
theorem dX11_firstBy_64 : decode cX11_firstBy 64 = .ok (.iconst 0, 1) := by decide +kernel
theorem dX11_firstBy_65 : decode cX11_firstBy 65 = .ok (.iadd, 1) := by decide +kernel
theorem dX11_firstBy_66 : decode cX11_firstBy 66 = .ok (.istore 6, 2) := by decide +kernel
theorem dX11_firstBy_68 : decode cX11_firstBy 68 = .ok (.iinc 7 1, 3) := by decide +kernel
theorem dX11_firstBy_71 : decode cX11_firstBy 71 = .ok (.goto (-46), 3) := by decide +kernel
theorem dX11_firstBy_74 : decode cX11_firstBy 74 = .ok (.iload 6, 2) := by decide +kernel
theorem dX11_firstBy_76 : decode cX11_firstBy 76 = .ok (.iload 4, 2) := by decide +kernel
theorem dX11_firstBy_78 : decode cX11_firstBy 78 = .ok (.if_icmp .le 8, 3) := by decide +kernel
theorem dX11_firstBy_81 : decode cX11_firstBy 81 = .ok (.iload 5, 2) := by decide +kernel
theorem dX11_firstBy_83 : decode cX11_firstBy 83 = .ok (.goto 4, 3) := by decide +kernel
theorem dX11_firstBy_86 : decode cX11_firstBy 86 = .ok (.iload_n 3, 1) := by decide +kernel
theorem dX11_firstBy_87 : decode cX11_firstBy 87 = .ok (.istore_n 3, 1) := by decide +kernel
theorem dX11_firstBy_88 : decode cX11_firstBy 88 = .ok (.iload 6, 2) := by decide +kernel
theorem dX11_firstBy_90 : decode cX11_firstBy 90 = .ok (.iload 4, 2) := by decide +kernel
theorem dX11_firstBy_92 : decode cX11_firstBy 92 = .ok (.if_icmp .le 8, 3) := by decide +kernel
theorem dX11_firstBy_95 : decode cX11_firstBy 95 = .ok (.iload 6, 2) := by decide +kernel
theorem dX11_firstBy_97 : decode cX11_firstBy 97 = .ok (.goto 5, 3) := by decide +kernel
theorem dX11_firstBy_100 : decode cX11_firstBy 100 = .ok (.iload 4, 2) := by decide +kernel
theorem dX11_firstBy_102 : decode cX11_firstBy 102 = .ok (.istore 4, 2) := by decide +kernel
theorem dX11_firstBy_104 : decode cX11_firstBy 104 = .ok (.iinc 5 1, 3) := by decide +kernel
theorem dX11_firstBy_107 : decode cX11_firstBy 107 = .ok (.goto (-99), 3) := by decide +kernel
theorem dX11_firstBy_110 : decode cX11_firstBy 110 = .ok (.iload_n 3, 1) := by decide +kernel
theorem dX11_firstBy_111 : decode cX11_firstBy 111 = .ok (.ireturn, 1) := by decide +kernel
set_option maxRecDepth 20000 in
theorem ggX11_pointsOf_X11_placeOn : GoodIn wsX11_pointsOf wsX11_placeOn := goodIn_r _ [7, 8, 9, 10, 11, 12, 13, 14, 15, 16, 17, 18, 19, 20, 21, 22, 23, 24, 25, 26, 27, 28, 29, 30, 31, 32, 33, 34, 35, 36, 37] (by decide +kernel) (by decide +kernel)
set_option maxRecDepth 20000 in
theorem gX11_pointsOf_X11_placeOn : GoodIn wsX11_pointsOf (wsV RX11 283 RX11 yX11_placeOn wsX11_placeOn) := goodIn_app (goodIn_of _ (by decide +kernel)) ggX11_pointsOf_X11_placeOn
theorem dX11_pointsOf_0 : decode cX11_pointsOf 0 = .ok (.iconst 0, 1) := by decide +kernel
theorem dX11_pointsOf_1 : decode cX11_pointsOf 1 = .ok (.istore_n 2, 1) := by decide +kernel
theorem dX11_pointsOf_2 : decode cX11_pointsOf 2 = .ok (.iconst 0, 1) := by decide +kernel
theorem dX11_pointsOf_3 : decode cX11_pointsOf 3 = .ok (.istore_n 3, 1) := by decide +kernel
theorem dX11_pointsOf_4 : decode cX11_pointsOf 4 = .ok (.iload_n 3, 1) := by decide +kernel
theorem dX11_pointsOf_5 : decode cX11_pointsOf 5 = .ok (.aload_n 0, 1) := by decide +kernel
theorem dX11_pointsOf_6 : decode cX11_pointsOf 6 = .ok (.getfield 84, 3) := by decide +kernel
theorem dX11_pointsOf_9 : decode cX11_pointsOf 9 = .ok (.if_icmp .ge 27, 3) := by decide +kernel
theorem dX11_pointsOf_12 : decode cX11_pointsOf 12 = .ok (.iload_n 2, 1) := by decide +kernel
theorem dX11_pointsOf_13 : decode cX11_pointsOf 13 = .ok (.aload_n 0, 1) := by decide +kernel
theorem dX11_pointsOf_14 : decode cX11_pointsOf 14 = .ok (.getfield 7, 3) := by decide +kernel
theorem dX11_pointsOf_17 : decode cX11_pointsOf 17 = .ok (.iconst 0, 1) := by decide +kernel
theorem dX11_pointsOf_18 : decode cX11_pointsOf 18 = .ok (.iaload, 1) := by decide +kernel
theorem dX11_pointsOf_19 : decode cX11_pointsOf 19 = .ok (.iconst 1, 1) := by decide +kernel
theorem dX11_pointsOf_20 : decode cX11_pointsOf 20 = .ok (.isub, 1) := by decide +kernel
theorem dX11_pointsOf_21 : decode cX11_pointsOf 21 = .ok (.aload_n 0, 1) := by decide +kernel
theorem dX11_pointsOf_22 : decode cX11_pointsOf 22 = .ok (.iload_n 3, 1) := by decide +kernel
theorem dX11_pointsOf_23 : decode cX11_pointsOf 23 = .ok (.iload_n 1, 1) := by decide +kernel
theorem dX11_pointsOf_24 : decode cX11_pointsOf 24 = .ok (.invokevirtual 283, 3) := by decide +kernel
theorem dX11_pointsOf_27 : decode cX11_pointsOf 27 = .ok (.isub, 1) := by decide +kernel
theorem dX11_pointsOf_28 : decode cX11_pointsOf 28 = .ok (.iadd, 1) := by decide +kernel
theorem dX11_pointsOf_29 : decode cX11_pointsOf 29 = .ok (.istore_n 2, 1) := by decide +kernel
theorem dX11_pointsOf_30 : decode cX11_pointsOf 30 = .ok (.iinc 3 1, 3) := by decide +kernel
theorem dX11_pointsOf_33 : decode cX11_pointsOf 33 = .ok (.goto (-29), 3) := by decide +kernel
theorem dX11_pointsOf_36 : decode cX11_pointsOf 36 = .ok (.iload_n 2, 1) := by decide +kernel
theorem dX11_pointsOf_37 : decode cX11_pointsOf 37 = .ok (.ireturn, 1) := by decide +kernel
set_option maxRecDepth 20000 in
theorem ggX11_mostPoints_X11_pointsOf : GoodIn wsX11_mostPoints wsX11_pointsOf := goodIn_r _ [6, 7, 1, 8, 9, 10, 5, 11, 12, 13, 14, 15, 16, 17, 18, 19, 20, 21, 22, 23, 24, 25, 26, 27, 28, 29, 30, 31, 32, 33, 34, 35, 36, 37, 38, 39, 40, 41] (by decide +kernel) (by decide +kernel)
set_option maxRecDepth 20000 in
theorem gX11_mostPoints_X11_pointsOf : GoodIn wsX11_mostPoints (wsV RX11 286 RX11 yX11_pointsOf wsX11_pointsOf) := goodIn_app (goodIn_of _ (by decide +kernel)) ggX11_mostPoints_X11_pointsOf
theorem dX11_mostPoints_0 : decode cX11_mostPoints 0 = .ok (.iconst 0, 1) := by decide +kernel
theorem dX11_mostPoints_1 : decode cX11_mostPoints 1 = .ok (.istore_n 1, 1) := by decide +kernel
theorem dX11_mostPoints_2 : decode cX11_mostPoints 2 = .ok (.iconst 1, 1) := by decide +kernel
theorem dX11_mostPoints_3 : decode cX11_mostPoints 3 = .ok (.istore_n 2, 1) := by decide +kernel
theorem dX11_mostPoints_4 : decode cX11_mostPoints 4 = .ok (.iload_n 2, 1) := by decide +kernel
theorem dX11_mostPoints_5 : decode cX11_mostPoints 5 = .ok (.aload_n 0, 1) := by decide +kernel
theorem dX11_mostPoints_6 : decode cX11_mostPoints 6 = .ok (.getfield 7, 3) := by decide +kernel
theorem dX11_mostPoints_9 : decode cX11_mostPoints 9 = .ok (.iconst 0, 1) := by decide +kernel
theorem dX11_mostPoints_10 : decode cX11_mostPoints 10 = .ok (.iaload, 1) := by decide +kernel
theorem dX11_mostPoints_11 : decode cX11_mostPoints 11 = .ok (.if_icmp .ge 28, 3) := by decide +kernel
theorem dX11_mostPoints_14 : decode cX11_mostPoints 14 = .ok (.aload_n 0, 1) := by decide +kernel
theorem dX11_mostPoints_15 : decode cX11_mostPoints 15 = .ok (.iload_n 2, 1) := by decide +kernel
theorem dX11_mostPoints_16 : decode cX11_mostPoints 16 = .ok (.invokevirtual 286, 3) := by decide +kernel
theorem dX11_mostPoints_19 : decode cX11_mostPoints 19 = .ok (.aload_n 0, 1) := by decide +kernel
theorem dX11_mostPoints_20 : decode cX11_mostPoints 20 = .ok (.iload_n 1, 1) := by decide +kernel
theorem dX11_mostPoints_21 : decode cX11_mostPoints 21 = .ok (.invokevirtual 286, 3) := by decide +kernel
theorem dX11_mostPoints_24 : decode cX11_mostPoints 24 = .ok (.if_icmp .le 7, 3) := by decide +kernel
theorem dX11_mostPoints_27 : decode cX11_mostPoints 27 = .ok (.iload_n 2, 1) := by decide +kernel
theorem dX11_mostPoints_28 : decode cX11_mostPoints 28 = .ok (.goto 4, 3) := by decide +kernel
theorem dX11_mostPoints_31 : decode cX11_mostPoints 31 = .ok (.iload_n 1, 1) := by decide +kernel
theorem dX11_mostPoints_32 : decode cX11_mostPoints 32 = .ok (.istore_n 1, 1) := by decide +kernel
theorem dX11_mostPoints_33 : decode cX11_mostPoints 33 = .ok (.iinc 2 1, 3) := by decide +kernel
theorem dX11_mostPoints_36 : decode cX11_mostPoints 36 = .ok (.goto (-32), 3) := by decide +kernel
theorem dX11_mostPoints_39 : decode cX11_mostPoints 39 = .ok (.iload_n 1, 1) := by decide +kernel
theorem dX11_mostPoints_40 : decode cX11_mostPoints 40 = .ok (.ireturn, 1) := by decide +kernel
set_option maxRecDepth 20000 in
theorem ggX11_mayor_X11_isFlag : GoodIn wsX11_mayor wsX11_isFlag := goodIn_r _ [5, 6, 7, 4, 8] (by decide +kernel) (by decide +kernel)
set_option maxRecDepth 20000 in
theorem gX11_mayor_X11_isFlag : GoodIn wsX11_mayor (va_wsS RX11 181 yX11_isFlag wsX11_isFlag) := goodIn_app (goodIn_of _ (by decide +kernel)) ggX11_mayor_X11_isFlag
set_option maxRecDepth 20000 in
theorem ggX11_mayor_X11_firstBy : GoodIn wsX11_mayor wsX11_firstBy := goodIn_r _ [12, 13, 1, 14, 27, 28, 29, 30, 31, 32, 33, 34, 35, 36, 37, 38, 39, 40, 41, 42, 43, 44, 45, 46, 47, 48, 49, 50, 51, 52, 53, 54, 55] (by decide +kernel) (by decide +kernel)
set_option maxRecDepth 20000 in
theorem gX11_mayor_X11_firstBy : GoodIn wsX11_mayor (wsV RX11 289 RX11 yX11_firstBy wsX11_firstBy) := goodIn_app (goodIn_of _ (by decide +kernel)) ggX11_mayor_X11_firstBy
set_option maxRecDepth 20000 in
theorem ggX11_mayor_X11_mostPoints : GoodIn wsX11_mayor wsX11_mostPoints := goodIn_r _ [18, 13, 19, 20, 21, 4, 22, 1, 23, 24, 25, 26, 14, 27, 28, 29, 30, 31, 32, 33, 34, 35, 36, 37, 38, 39, 40, 41, 42, 43, 44, 45, 46, 47, 48, 49, 50, 51, 52, 53, 54, 55] (by decide +kernel) (by decide +kernel)
set_option maxRecDepth 20000 in
theorem gX11_mayor_X11_mostPoints : GoodIn wsX11_mayor (wsV RX11 292 RX11 yX11_mostPoints wsX11_mostPoints) := goodIn_app (goodIn_of _ (by decide +kernel)) ggX11_mayor_X11_mostPoints
theorem dX11_mayor_0 : decode cX11_mayor 0 = .ok (.iload_n 1, 1) := by decide +kernel
theorem dX11_mayor_1 : decode cX11_mayor 1 = .ok (.invokestatic 181, 3) := by decide +kernel
theorem dX11_mayor_4 : decode cX11_mayor 4 = .ok (.ifCond .ne 6, 3) := by decide +kernel
theorem dX11_mayor_7 : decode cX11_mayor 7 = .ok (.bipush (-3), 2) := by decide +kernel
theorem dX11_mayor_9 : decode cX11_mayor 9 = .ok (.ireturn, 1) := by decide +kernel
theorem dX11_mayor_10 : decode cX11_mayor 10 = .ok (.aload_n 0, 1) := by decide +kernel
theorem dX11_mayor_11 : decode cX11_mayor 11 = .ok (.getfield 84, 3) := by decide +kernel
theorem dX11_mayor_14 : decode cX11_mayor 14 = .ok (.ifCond .ne 7, 3) := by decide +kernel
theorem dX11_mayor_17 : decode cX11_mayor 17 = .ok (.iconst (-1), 1) := by decide +kernel
theorem dX11_mayor_18 : decode cX11_mayor 18 = .ok (.goto 20, 3) := by decide +kernel
theorem dX11_mayor_21 : decode cX11_mayor 21 = .ok (.iload_n 1, 1) := by decide +kernel
theorem dX11_mayor_22 : decode cX11_mayor 22 = .ok (.ifCond .ne 12, 3) := by decide +kernel
theorem dX11_mayor_25 : decode cX11_mayor 25 = .ok (.aload_n 0, 1) := by decide +kernel
theorem dX11_mayor_26 : decode cX11_mayor 26 = .ok (.iconst (-1), 1) := by decide +kernel
theorem dX11_mayor_27 : decode cX11_mayor 27 = .ok (.iconst 0, 1) := by decide +kernel
theorem dX11_mayor_28 : decode cX11_mayor 28 = .ok (.invokevirtual 289, 3) := by decide +kernel
theorem dX11_mayor_31 : decode cX11_mayor 31 = .ok (.goto 7, 3) := by decide +kernel
theorem dX11_mayor_34 : decode cX11_mayor 34 = .ok (.aload_n 0, 1) := by decide +kernel
theorem dX11_mayor_35 : decode cX11_mayor 35 = .ok (.invokevirtual 292, 3) := by decide +kernel
theorem dX11_mayor_38 : decode cX11_mayor 38 = .ok (.ireturn, 1) := by decide +kernel
set_option maxRecDepth 20000 in
theorem ggX11_points_X11_isOne : GoodIn wsX11_points wsX11_isOne := goodIn_r _ [5, 6, 7, 8, 4, 9, 20, 21, 22, 23, 24, 25, 26, 27, 28, 29, 30, 31, 32, 33, 34, 35, 36, 37, 38, 39, 40, 41, 42, 43, 44, 45, 46, 47, 48] (by decide +kernel) (by decide +kernel)
set_option maxRecDepth 20000 in
theorem gX11_points_X11_isOne : GoodIn wsX11_points (wsV RX11 170 RX11 yX11_isOne wsX11_isOne) := goodIn_app (goodIn_of _ (by decide +kernel)) ggX11_points_X11_isOne
set_option maxRecDepth 20000 in
theorem ggX11_points_X11_pointsOf : GoodIn wsX11_points wsX11_pointsOf := goodIn_r _ [13, 14, 6, 15, 16, 17, 4, 18, 19, 20, 21, 22, 23, 24, 25, 26, 27, 28, 29, 30, 31, 32, 33, 34, 35, 36, 37, 38, 39, 40, 41, 42, 43, 44, 45, 46, 47, 48] (by decide +kernel) (by decide +kernel)
set_option maxRecDepth 20000 in
theorem gX11_points_X11_pointsOf : GoodIn wsX11_points (wsV RX11 286 RX11 yX11_pointsOf wsX11_pointsOf) := goodIn_app (goodIn_of _ (by decide +kernel)) ggX11_points_X11_pointsOf
theorem dX11_points_0 : decode cX11_points 0 = .ok (.aload_n 0, 1) := by decide +kernel
theorem dX11_points_1 : decode cX11_points 1 = .ok (.iload_n 1, 1) := by decide +kernel
theorem dX11_points_2 : decode cX11_points 2 = .ok (.invokevirtual 170, 3) := by decide +kernel
theorem dX11_points_5 : decode cX11_points 5 = .ok (.ifCond .eq 11, 3) := by decide +kernel
theorem dX11_points_8 : decode cX11_points 8 = .ok (.aload_n 0, 1) := by decide +kernel
theorem dX11_points_9 : decode cX11_points 9 = .ok (.iload_n 1, 1) := by decide +kernel
theorem dX11_points_10 : decode cX11_points 10 = .ok (.invokevirtual 286, 3) := by decide +kernel
theorem dX11_points_13 : decode cX11_points 13 = .ok (.goto 5, 3) := by decide +kernel
theorem dX11_points_16 : decode cX11_points 16 = .ok (.bipush (-2), 2) := by decide +kernel
theorem dX11_points_18 : decode cX11_points 18 = .ok (.ireturn, 1) := by decide +kernel
set_option maxRecDepth 20000 in
theorem ggX11_swing_X11_firstBy : GoodIn wsX11_swing wsX11_firstBy := goodIn_r _ [7, 2, 1, 8, 13, 14, 15, 16, 17, 18, 19, 20, 21, 22, 23, 24, 25, 26, 27, 28, 29, 30, 31, 32, 33, 34, 35, 36, 37, 38, 39, 40, 41] (by decide +kernel) (by decide +kernel)
set_option maxRecDepth 20000 in
theorem gX11_swing_X11_firstBy : GoodIn wsX11_swing (wsV RX11 289 RX11 yX11_firstBy wsX11_firstBy) := goodIn_app (goodIn_of _ (by decide +kernel)) ggX11_swing_X11_firstBy
set_option maxRecDepth 20000 in
theorem ggX11_swing_X11_placeOn : GoodIn wsX11_swing wsX11_placeOn := goodIn_r _ [12, 8, 13, 14, 15, 16, 17, 18, 19, 20, 21, 22, 23, 24, 25, 26, 27, 28, 29, 30, 31, 32, 33, 34, 35, 36, 37, 38, 39, 40, 41] (by decide +kernel) (by decide +kernel)
set_option maxRecDepth 20000 in
theorem gX11_swing_X11_placeOn : GoodIn wsX11_swing (wsV RX11 283 RX11 yX11_placeOn wsX11_placeOn) := goodIn_app (goodIn_of _ (by decide +kernel)) ggX11_swing_X11_placeOn
theorem dX11_swing_0 : decode cX11_swing 0 = .ok (.iconst 0, 1) := by decide +kernel
theorem dX11_swing_1 : decode cX11_swing 1 = .ok (.istore_n 1, 1) := by decide +kernel
theorem dX11_swing_2 : decode cX11_swing 2 = .ok (.aload_n 0, 1) := by decide +kernel
theorem dX11_swing_3 : decode cX11_swing 3 = .ok (.iconst (-1), 1) := by decide +kernel
theorem dX11_swing_4 : decode cX11_swing 4 = .ok (.iconst 0, 1) := by decide +kernel
theorem dX11_swing_5 : decode cX11_swing 5 = .ok (.invokevirtual 289, 3) := by decide +kernel
theorem dX11_swing_8 : decode cX11_swing 8 = .ok (.istore_n 2, 1) := by decide +kernel
theorem dX11_swing_9 : decode cX11_swing 9 = .ok (.iconst 0, 1) := by decide +kernel
theorem dX11_swing_10 : decode cX11_swing 10 = .ok (.istore_n 3, 1) := by decide +kernel
theorem dX11_swing_11 : decode cX11_swing 11 = .ok (.iload_n 3, 1) := by decide +kernel
theorem dX11_swing_12 : decode cX11_swing 12 = .ok (.aload_n 0, 1) := by decide +kernel
theorem dX11_swing_13 : decode cX11_swing 13 = .ok (.getfield 84, 3) := by decide +kernel
theorem dX11_swing_16 : decode cX11_swing 16 = .ok (.if_icmp .ge 60, 3) := by decide +kernel
theorem dX11_swing_19 : decode cX11_swing 19 = .ok (.iconst 0, 1) := by decide +kernel
theorem dX11_swing_20 : decode cX11_swing 20 = .ok (.istore 4, 2) := by decide +kernel
theorem dX11_swing_22 : decode cX11_swing 22 = .ok (.iload 4, 2) := by decide +kernel
theorem dX11_swing_24 : decode cX11_swing 24 = .ok (.aload_n 0, 1) := by decide +kernel
theorem dX11_swing_25 : decode cX11_swing 25 = .ok (.getfield 7, 3) := by decide +kernel
theorem dX11_swing_28 : decode cX11_swing 28 = .ok (.iconst 0, 1) := by decide +kernel
theorem dX11_swing_29 : decode cX11_swing 29 = .ok (.iaload, 1) := by decide +kernel
theorem dX11_swing_30 : decode cX11_swing 30 = .ok (.if_icmp .ge 40, 3) := by decide +kernel
theorem dX11_swing_33 : decode cX11_swing 33 = .ok (.iload_n 1, 1) := by decide +kernel
theorem dX11_swing_34 : decode cX11_swing 34 = .ok (.aload_n 0, 1) := by decide +kernel
theorem dX11_swing_35 : decode cX11_swing 35 = .ok (.iload_n 3, 1) := by decide +kernel
theorem dX11_swing_36 : decode cX11_swing 36 = .ok (.aload_n 0, 1) := by decide +kernel
theorem dX11_swing_37 : decode cX11_swing 37 = .ok (.iload_n 3, 1) := by decide +kernel
theorem dX11_swing_38 : decode cX11_swing 38 = .ok (.iload 4, 2) := by decide +kernel
theorem dX11_swing_40 : decode cX11_swing 40 = .ok (.invokevirtual 289, 3) := by decide +kernel
theorem dX11_swing_43 : decode cX11_swing 43 = .ok (.invokevirtual 283, 3) := by decide +kernel
theorem dX11_swing_46 : decode cX11_swing 46 = .ok (.aload_n 0, 1) := by decide +kernel
theorem dX11_swing_47 : decode cX11_swing 47 = .ok (.iload_n 3, 1) := by decide +kernel
theorem dX11_swing_48 : decode cX11_swing 48 = .ok (.iload_n 2, 1) := by decide +kernel
theorem dX11_swing_49 : decode cX11_swing 49 = .ok (.invokevirtual 283, 3) := by decide +kernel
theorem dX11_swing_52 : decode cX11_swing 52 = .ok (.if_icmp .ge 9, 3) := by decide +kernel
theorem dX11_swing_55 : decode cX11_swing 55 = .ok (.iconst 1, 1) := by decide +kernel
theorem dX11_swing_56 : decode cX11_swing 56 = .ok (.iload_n 3, 1) := by decide +kernel
theorem dX11_swing_57 : decode cX11_swing 57 = .ok (.ishl, 1) := by decide +kernel
theorem dX11_swing_58 : decode cX11_swing 58 = .ok (.goto 4, 3) := by decide +kernel
theorem dX11_swing_61 : decode cX11_swing 61 = .ok (.iconst 0, 1) := by decide +kernel
theorem dX11_swing_62 : decode cX11_swing 62 = .ok (.ior, 1) := by decide +kernel
theorem dX11_swing_63 : decode cX11_swing 63 = .ok (.istore_n 1, 1) := by decide +kernel
theorem dX11_swing_64 : decode cX11_swing 64 = .ok (.iinc 4 1, 3) := by decide +kernel
theorem dX11_swing_67 : decode cX11_swing 67 = .ok (.goto (-45), 3) := by decide +kernel
theorem dX11_swing_70 : decode cX11_swing 70 = .ok (.iinc 3 1, 3) := by decide +kernel
theorem dX11_swing_73 : decode cX11_swing 73 = .ok (.goto (-62), 3) := by decide +kernel
theorem dX11_swing_76 : decode cX11_swing 76 = .ok (.iload_n 1, 1) := by decide +kernel
theorem dX11_swing_77 : decode cX11_swing 77 = .ok (.ireturn, 1) := by decide +kernel
theorem dX11_holding_0 : decode cX11_holding 0 = .ok (.iconst 0, 1) := by decide +kernel
theorem dX11_holding_1 : decode cX11_holding 1 = .ok (.istore_n 1, 1) := by decide +kernel
theorem dX11_holding_2 : decode cX11_holding 2 = .ok (.iconst 0, 1) := by decide +kernel
theorem dX11_holding_3 : decode cX11_holding 3 = .ok (.istore_n 2, 1) := by decide +kernel
theorem dX11_holding_4 : decode cX11_holding 4 = .ok (.iload_n 2, 1) := by decide +kernel
theorem dX11_holding_5 : decode cX11_holding 5 = .ok (.aload_n 0, 1) := by decide +kernel
theorem dX11_holding_6 : decode cX11_holding 6 = .ok (.getfield 7, 3) := by decide +kernel
theorem dX11_holding_9 : decode cX11_holding 9 = .ok (.bipush 11, 2) := by decide +kernel
theorem dX11_holding_11 : decode cX11_holding 11 = .ok (.iaload, 1) := by decide +kernel
theorem dX11_holding_12 : decode cX11_holding 12 = .ok (.if_icmp .ge 30, 3) := by decide +kernel
theorem dX11_holding_15 : decode cX11_holding 15 = .ok (.iload_n 1, 1) := by decide +kernel
theorem dX11_holding_16 : decode cX11_holding 16 = .ok (.aload_n 0, 1) := by decide +kernel
theorem dX11_holding_17 : decode cX11_holding 17 = .ok (.getfield 13, 3) := by decide +kernel
theorem dX11_holding_20 : decode cX11_holding 20 = .ok (.iconst 5, 1) := by decide +kernel
theorem dX11_holding_21 : decode cX11_holding 21 = .ok (.iload_n 2, 1) := by decide +kernel
theorem dX11_holding_22 : decode cX11_holding 22 = .ok (.iadd, 1) := by decide +kernel
theorem dX11_holding_23 : decode cX11_holding 23 = .ok (.iaload, 1) := by decide +kernel
theorem dX11_holding_24 : decode cX11_holding 24 = .ok (.ifCond .le 9, 3) := by decide +kernel
theorem dX11_holding_27 : decode cX11_holding 27 = .ok (.iconst 1, 1) := by decide +kernel
theorem dX11_holding_28 : decode cX11_holding 28 = .ok (.iload_n 2, 1) := by decide +kernel
theorem dX11_holding_29 : decode cX11_holding 29 = .ok (.ishl, 1) := by decide +kernel
theorem dX11_holding_30 : decode cX11_holding 30 = .ok (.goto 4, 3) := by decide +kernel
theorem dX11_holding_33 : decode cX11_holding 33 = .ok (.iconst 0, 1) := by decide +kernel
theorem dX11_holding_34 : decode cX11_holding 34 = .ok (.ior, 1) := by decide +kernel
theorem dX11_holding_35 : decode cX11_holding 35 = .ok (.istore_n 1, 1) := by decide +kernel
theorem dX11_holding_36 : decode cX11_holding 36 = .ok (.iinc 2 1, 3) := by decide +kernel
theorem dX11_holding_39 : decode cX11_holding 39 = .ok (.goto (-35), 3) := by decide +kernel
theorem dX11_holding_42 : decode cX11_holding 42 = .ok (.iload_n 1, 1) := by decide +kernel
theorem dX11_holding_43 : decode cX11_holding 43 = .ok (.ireturn, 1) := by decide +kernel
set_option maxRecDepth 20000 in
theorem ggX11_count_X11_holding : GoodIn wsX11_count wsX11_holding := goodIn_r _ [12, 1, 2, 17, 18, 19, 20, 21, 22, 23, 24, 25, 26, 27, 28, 29, 30, 31, 32, 33, 34, 35, 36, 37, 38, 39, 40, 41, 42, 43, 44, 45] (by decide +kernel) (by decide +kernel)
set_option maxRecDepth 20000 in
theorem gX11_count_X11_holding : GoodIn wsX11_count (wsV RX11 295 RX11 yX11_holding wsX11_holding) := goodIn_app (goodIn_of _ (by decide +kernel)) ggX11_count_X11_holding
set_option maxRecDepth 20000 in
theorem ggX11_count_X11_marriages : GoodIn wsX11_count wsX11_marriages := goodIn_r _ [16, 1, 2, 17, 18, 19, 20, 21, 22, 23, 24, 25, 26, 27, 28, 29, 30, 31, 32, 33, 34, 35, 36, 37, 38, 39, 40, 41, 42, 43, 44, 45] (by decide +kernel) (by decide +kernel)
set_option maxRecDepth 20000 in
theorem gX11_count_X11_marriages : GoodIn wsX11_count (wsV RX11 211 RX11 yX11_marriages wsX11_marriages) := goodIn_app (goodIn_of _ (by decide +kernel)) ggX11_count_X11_marriages
theorem dX11_count_0 : decode cX11_count 0 = .ok (.iload_n 1, 1) := by decide +kernel
theorem dX11_count_1 : decode cX11_count 1 = .ok (.tableswitch 161 0 13 #[71, 78, 86, 94, 102, 110, 118, 126, 131, 136, 141, 146, 151, 156], 71) := by decide +kernel
theorem dX11_count_72 : decode cX11_count 72 = .ok (.aload_n 0, 1) := by decide +kernel
theorem dX11_count_73 : decode cX11_count 73 = .ok (.getfield 7, 3) := by decide +kernel
theorem dX11_count_76 : decode cX11_count 76 = .ok (.iconst 0, 1) := by decide +kernel
theorem dX11_count_77 : decode cX11_count 77 = .ok (.iaload, 1) := by decide +kernel
theorem dX11_count_78 : decode cX11_count 78 = .ok (.ireturn, 1) := by decide +kernel
theorem dX11_count_79 : decode cX11_count 79 = .ok (.aload_n 0, 1) := by decide +kernel
theorem dX11_count_80 : decode cX11_count 80 = .ok (.getfield 7, 3) := by decide +kernel
theorem dX11_count_83 : decode cX11_count 83 = .ok (.bipush 11, 2) := by decide +kernel
theorem dX11_count_85 : decode cX11_count 85 = .ok (.iaload, 1) := by decide +kernel
theorem dX11_count_86 : decode cX11_count 86 = .ok (.ireturn, 1) := by decide +kernel
theorem dX11_count_87 : decode cX11_count 87 = .ok (.aload_n 0, 1) := by decide +kernel
theorem dX11_count_88 : decode cX11_count 88 = .ok (.getfield 7, 3) := by decide +kernel
theorem dX11_count_91 : decode cX11_count 91 = .ok (.bipush 37, 2) := by decide +kernel
theorem dX11_count_93 : decode cX11_count 93 = .ok (.iaload, 1) := by decide +kernel
theorem dX11_count_94 : decode cX11_count 94 = .ok (.ireturn, 1) := by decide +kernel
theorem dX11_count_95 : decode cX11_count 95 = .ok (.aload_n 0, 1) := by decide +kernel
theorem dX11_count_96 : decode cX11_count 96 = .ok (.getfield 7, 3) := by decide +kernel
theorem dX11_count_99 : decode cX11_count 99 = .ok (.bipush 36, 2) := by decide +kernel
theorem dX11_count_101 : decode cX11_count 101 = .ok (.iaload, 1) := by decide +kernel
theorem dX11_count_102 : decode cX11_count 102 = .ok (.ireturn, 1) := by decide +kernel
theorem dX11_count_103 : decode cX11_count 103 = .ok (.aload_n 0, 1) := by decide +kernel
theorem dX11_count_104 : decode cX11_count 104 = .ok (.getfield 13, 3) := by decide +kernel
theorem dX11_count_107 : decode cX11_count 107 = .ok (.bipush 20, 2) := by decide +kernel
theorem dX11_count_109 : decode cX11_count 109 = .ok (.iaload, 1) := by decide +kernel
theorem dX11_count_110 : decode cX11_count 110 = .ok (.ireturn, 1) := by decide +kernel
theorem dX11_count_111 : decode cX11_count 111 = .ok (.aload_n 0, 1) := by decide +kernel
theorem dX11_count_112 : decode cX11_count 112 = .ok (.getfield 13, 3) := by decide +kernel
theorem dX11_count_115 : decode cX11_count 115 = .ok (.bipush 21, 2) := by decide +kernel
theorem dX11_count_117 : decode cX11_count 117 = .ok (.iaload, 1) := by decide +kernel
theorem dX11_count_118 : decode cX11_count 118 = .ok (.ireturn, 1) := by decide +kernel
theorem dX11_count_119 : decode cX11_count 119 = .ok (.aload_n 0, 1) := by decide +kernel
theorem dX11_count_120 : decode cX11_count 120 = .ok (.getfield 13, 3) := by decide +kernel
theorem dX11_count_123 : decode cX11_count 123 = .ok (.bipush 19, 2) := by decide +kernel
theorem dX11_count_125 : decode cX11_count 125 = .ok (.iaload, 1) := by decide +kernel
theorem dX11_count_126 : decode cX11_count 126 = .ok (.ireturn, 1) := by decide +kernel
theorem dX11_count_127 : decode cX11_count 127 = .ok (.aload_n 0, 1) := by decide +kernel
theorem dX11_count_128 : decode cX11_count 128 = .ok (.invokevirtual 295, 3) := by decide +kernel
theorem dX11_count_131 : decode cX11_count 131 = .ok (.ireturn, 1) := by decide +kernel
theorem dX11_count_132 : decode cX11_count 132 = .ok (.aload_n 0, 1) := by decide +kernel
theorem dX11_count_133 : decode cX11_count 133 = .ok (.invokevirtual 211, 3) := by decide +kernel
theorem dX11_count_136 : decode cX11_count 136 = .ok (.ireturn, 1) := by decide +kernel
theorem dX11_count_137 : decode cX11_count 137 = .ok (.aload_n 0, 1) := by decide +kernel
theorem dX11_count_138 : decode cX11_count 138 = .ok (.getfield 81, 3) := by decide +kernel
theorem dX11_count_141 : decode cX11_count 141 = .ok (.ireturn, 1) := by decide +kernel
theorem dX11_count_142 : decode cX11_count 142 = .ok (.aload_n 0, 1) := by decide +kernel
theorem dX11_count_143 : decode cX11_count 143 = .ok (.getfield 84, 3) := by decide +kernel
theorem dX11_count_146 : decode cX11_count 146 = .ok (.ireturn, 1) := by decide +kernel
theorem dX11_count_147 : decode cX11_count 147 = .ok (.aload_n 0, 1) := by decide +kernel
theorem dX11_count_148 : decode cX11_count 148 = .ok (.getfield 78, 3) := by decide +kernel
theorem dX11_count_151 : decode cX11_count 151 = .ok (.ireturn, 1) := by decide +kernel
theorem dX11_count_152 : decode cX11_count 152 = .ok (.aload_n 0, 1) := by decide +kernel
theorem dX11_count_153 : decode cX11_count 153 = .ok (.getfield 74, 3) := by decide +kernel
theorem dX11_count_156 : decode cX11_count 156 = .ok (.ireturn, 1) := by decide +kernel
theorem dX11_count_157 : decode cX11_count 157 = .ok (.aload_n 0, 1) := by decide +kernel
theorem dX11_count_158 : decode cX11_count 158 = .ok (.getfield 89, 3) := by decide +kernel
theorem dX11_count_161 : decode cX11_count 161 = .ok (.ireturn, 1) := by decide +kernel
theorem dX11_count_162 : decode cX11_count 162 = .ok (.bipush (-3), 2) := by decide +kernel
theorem dX11_count_164 : decode cX11_count 164 = .ok (.ireturn, 1) := by decide +kernel
