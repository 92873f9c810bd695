set_option maxRecDepth 20000 in
theorem ggX6_count_X3_has : GoodIn wsX6_count wsX3_has := goodIn_r _ [66, 18, 133, 134, 135, 136, 137, 138] (by decide +kernel) (by decide +kernel)
set_option maxRecDepth 20000 in
theorem gX6_count_X3_has : GoodIn wsX6_count (wsV RX6 123 RX3 yX3_has wsX3_has) := goodIn_app (goodIn_of _ (by decide +kernel)) ggX6_count_X3_has
set_option maxRecDepth 20000 in
theorem ggX6_count_X5_isCounted : GoodIn wsX6_count wsX5_isCounted := goodIn_r _ [87, 88, 150, 151, 152, 153, 154] (by decide +kernel) (by decide +kernel)
set_option maxRecDepth 20000 in
theorem gX6_count_X5_isCounted : GoodIn wsX6_count (wsV RX6 216 RX5 yX5_isCounted wsX5_isCounted) := goodIn_app (goodIn_of _ (by decide +kernel)) ggX6_count_X5_isCounted
set_option maxRecDepth 20000 in
theorem ggX6_count_X5_left : GoodIn wsX6_count wsX5_left := goodIn_r _ [92, 93, 150, 151, 152, 153, 154] (by decide +kernel) (by decide +kernel)
set_option maxRecDepth 20000 in
theorem gX6_count_X5_left : GoodIn wsX6_count (wsV RX6 219 RX5 yX5_left wsX5_left) := goodIn_app (goodIn_of _ (by decide +kernel)) ggX6_count_X5_left
set_option maxRecDepth 20000 in
theorem ggX6_count_X3_filledBlocks : GoodIn wsX6_count wsX3_filledBlocks := goodIn_r _ [97, 18, 98, 99, 100, 101, 16, 102, 103, 63, 64, 65, 66, 46, 27, 47, 133, 134, 135, 136, 137, 138] (by decide +kernel) (by decide +kernel)
set_option maxRecDepth 20000 in
theorem gX6_count_X3_filledBlocks : GoodIn wsX6_count (wsV RX6 222 RX3 yX3_filledBlocks wsX3_filledBlocks) := goodIn_app (goodIn_of _ (by decide +kernel)) ggX6_count_X3_filledBlocks
set_option maxRecDepth 20000 in
theorem ggX6_count_X2_isInWindow : GoodIn wsX6_count wsX2_isInWindow := goodIn_r _ [107, 39, 44, 108, 109, 110, 111, 112, 113, 114, 115, 139, 140, 141] (by decide +kernel) (by decide +kernel)
set_option maxRecDepth 20000 in
theorem gX6_count_X2_isInWindow : GoodIn wsX6_count (wsV RX6 132 RX2 yX2_isInWindow wsX2_isInWindow) := goodIn_app (goodIn_of _ (by decide +kernel)) ggX6_count_X2_isInWindow
theorem dX6_count_0 : decode cX6_count 0 = .ok (.iload_n 1, 1) := by decide +kernel
theorem dX6_count_1 : decode cX6_count 1 = .ok (.tableswitch 295 0 18 #[91, 99, 107, 124, 129, 137, 145, 153, 161, 166, 171, 179, 187, 192, 197, 205, 242, 272, 280], 91) := by decide +kernel
theorem dX6_count_92 : decode cX6_count 92 = .ok (.aload_n 0, 1) := by decide +kernel
theorem dX6_count_93 : decode cX6_count 93 = .ok (.getfield 10, 3) := by decide +kernel
theorem dX6_count_96 : decode cX6_count 96 = .ok (.invokevirtual 181, 3) := by decide +kernel
theorem dX6_count_99 : decode cX6_count 99 = .ok (.ireturn, 1) := by decide +kernel
theorem dX6_count_100 : decode cX6_count 100 = .ok (.aload_n 0, 1) := by decide +kernel
theorem dX6_count_101 : decode cX6_count 101 = .ok (.getfield 10, 3) := by decide +kernel
theorem dX6_count_104 : decode cX6_count 104 = .ok (.invokevirtual 182, 3) := by decide +kernel
theorem dX6_count_107 : decode cX6_count 107 = .ok (.ireturn, 1) := by decide +kernel
theorem dX6_count_108 : decode cX6_count 108 = .ok (.aload_n 0, 1) := by decide +kernel
theorem dX6_count_109 : decode cX6_count 109 = .ok (.invokevirtual 65, 3) := by decide +kernel
theorem dX6_count_112 : decode cX6_count 112 = .ok (.ifCond .eq 10, 3) := by decide +kernel
theorem dX6_count_115 : decode cX6_count 115 = .ok (.aload_n 0, 1) := by decide +kernel
theorem dX6_count_116 : decode cX6_count 116 = .ok (.getfield 111, 3) := by decide +kernel
theorem dX6_count_119 : decode cX6_count 119 = .ok (.goto 5, 3) := by decide +kernel
theorem dX6_count_122 : decode cX6_count 122 = .ok (.bipush (-4), 2) := by decide +kernel
theorem dX6_count_124 : decode cX6_count 124 = .ok (.ireturn, 1) := by decide +kernel
theorem dX6_count_125 : decode cX6_count 125 = .ok (.aload_n 0, 1) := by decide +kernel
theorem dX6_count_126 : decode cX6_count 126 = .ok (.getfield 185, 3) := by decide +kernel
theorem dX6_count_129 : decode cX6_count 129 = .ok (.ireturn, 1) := by decide +kernel
theorem dX6_count_130 : decode cX6_count 130 = .ok (.aload_n 0, 1) := by decide +kernel
theorem dX6_count_131 : decode cX6_count 131 = .ok (.getfield 52, 3) := by decide +kernel
theorem dX6_count_134 : decode cX6_count 134 = .ok (.invokevirtual 188, 3) := by decide +kernel
theorem dX6_count_137 : decode cX6_count 137 = .ok (.ireturn, 1) := by decide +kernel
theorem dX6_count_138 : decode cX6_count 138 = .ok (.aload_n 0, 1) := by decide +kernel
theorem dX6_count_139 : decode cX6_count 139 = .ok (.getfield 52, 3) := by decide +kernel
theorem dX6_count_142 : decode cX6_count 142 = .ok (.invokevirtual 191, 3) := by decide +kernel
theorem dX6_count_145 : decode cX6_count 145 = .ok (.ireturn, 1) := by decide +kernel
theorem dX6_count_146 : decode cX6_count 146 = .ok (.aload_n 0, 1) := by decide +kernel
theorem dX6_count_147 : decode cX6_count 147 = .ok (.getfield 52, 3) := by decide +kernel
theorem dX6_count_150 : decode cX6_count 150 = .ok (.invokevirtual 194, 3) := by decide +kernel
theorem dX6_count_153 : decode cX6_count 153 = .ok (.ireturn, 1) := by decide +kernel
theorem dX6_count_154 : decode cX6_count 154 = .ok (.aload_n 0, 1) := by decide +kernel
theorem dX6_count_155 : decode cX6_count 155 = .ok (.getfield 197, 3) := by decide +kernel
theorem dX6_count_158 : decode cX6_count 158 = .ok (.invokestatic 162, 3) := by decide +kernel
theorem dX6_count_161 : decode cX6_count 161 = .ok (.ireturn, 1) := by decide +kernel
theorem dX6_count_162 : decode cX6_count 162 = .ok (.aload_n 0, 1) := by decide +kernel
theorem dX6_count_163 : decode cX6_count 163 = .ok (.getfield 201, 3) := by decide +kernel
theorem dX6_count_166 : decode cX6_count 166 = .ok (.ireturn, 1) := by decide +kernel
theorem dX6_count_167 : decode cX6_count 167 = .ok (.aload_n 0, 1) := by decide +kernel
theorem dX6_count_168 : decode cX6_count 168 = .ok (.getfield 204, 3) := by decide +kernel
theorem dX6_count_171 : decode cX6_count 171 = .ok (.ireturn, 1) := by decide +kernel
theorem dX6_count_172 : decode cX6_count 172 = .ok (.aload_n 0, 1) := by decide +kernel
theorem dX6_count_173 : decode cX6_count 173 = .ok (.getfield 38, 3) := by decide +kernel
theorem dX6_count_176 : decode cX6_count 176 = .ok (.invokevirtual 207, 3) := by decide +kernel
theorem dX6_count_179 : decode cX6_count 179 = .ok (.ireturn, 1) := by decide +kernel
theorem dX6_count_180 : decode cX6_count 180 = .ok (.aload_n 0, 1) := by decide +kernel
theorem dX6_count_181 : decode cX6_count 181 = .ok (.getfield 10, 3) := by decide +kernel
theorem dX6_count_184 : decode cX6_count 184 = .ok (.invokevirtual 210, 3) := by decide +kernel
theorem dX6_count_187 : decode cX6_count 187 = .ok (.ireturn, 1) := by decide +kernel
theorem dX6_count_188 : decode cX6_count 188 = .ok (.aload_n 0, 1) := by decide +kernel
theorem dX6_count_189 : decode cX6_count 189 = .ok (.getfield 153, 3) := by decide +kernel
theorem dX6_count_192 : decode cX6_count 192 = .ok (.ireturn, 1) := by decide +kernel
theorem dX6_count_193 : decode cX6_count 193 = .ok (.aload_n 0, 1) := by decide +kernel
theorem dX6_count_194 : decode cX6_count 194 = .ok (.getfield 78, 3) := by decide +kernel
theorem dX6_count_197 : decode cX6_count 197 = .ok (.ireturn, 1) := by decide +kernel
theorem dX6_count_198 : decode cX6_count 198 = .ok (.aload_n 0, 1) := by decide +kernel
theorem dX6_count_199 : decode cX6_count 199 = .ok (.getfield 21, 3) := by decide +kernel
theorem dX6_count_202 : decode cX6_count 202 = .ok (.invokevirtual 86, 3) := by decide +kernel
theorem dX6_count_205 : decode cX6_count 205 = .ok (.ireturn, 1) := by decide +kernel
theorem dX6_count_206 : decode cX6_count 206 = .ok (.aload_n 0, 1) := by decide +kernel
theorem dX6_count_207 : decode cX6_count 207 = .ok (.invokevirtual 213, 3) := by decide +kernel
theorem dX6_count_210 : decode cX6_count 210 = .ok (.ifCond .eq 30, 3) := by decide +kernel
theorem dX6_count_213 : decode cX6_count 213 = .ok (.aload_n 0, 1) := by decide +kernel
theorem dX6_count_214 : decode cX6_count 214 = .ok (.getfield 10, 3) := by decide +kernel
theorem dX6_count_217 : decode cX6_count 217 = .ok (.aload_n 0, 1) := by decide +kernel
theorem dX6_count_218 : decode cX6_count 218 = .ok (.getfield 45, 3) := by decide +kernel
theorem dX6_count_221 : decode cX6_count 221 = .ok (.invokevirtual 120, 3) := by decide +kernel
theorem dX6_count_224 : decode cX6_count 224 = .ok (.invokevirtual 123, 3) := by decide +kernel
theorem dX6_count_227 : decode cX6_count 227 = .ok (.ifCond .eq 13, 3) := by decide +kernel
theorem dX6_count_230 : decode cX6_count 230 = .ok (.aload_n 0, 1) := by decide +kernel
theorem dX6_count_231 : decode cX6_count 231 = .ok (.getfield 45, 3) := by decide +kernel
theorem dX6_count_234 : decode cX6_count 234 = .ok (.invokevirtual 120, 3) := by decide +kernel
theorem dX6_count_237 : decode cX6_count 237 = .ok (.goto 5, 3) := by decide +kernel
theorem dX6_count_240 : decode cX6_count 240 = .ok (.bipush (-4), 2) := by decide +kernel
theorem dX6_count_242 : decode cX6_count 242 = .ok (.ireturn, 1) := by decide +kernel
theorem dX6_count_243 : decode cX6_count 243 = .ok (.aload_n 0, 1) := by decide +kernel
theorem dX6_count_244 : decode cX6_count 244 = .ok (.invokevirtual 213, 3) := by decide +kernel
theorem dX6_count_247 : decode cX6_count 247 = .ok (.ifCond .eq 23, 3) := by decide +kernel
theorem dX6_count_250 : decode cX6_count 250 = .ok (.aload_n 0, 1) := by decide +kernel
theorem dX6_count_251 : decode cX6_count 251 = .ok (.getfield 45, 3) := by decide +kernel
theorem dX6_count_254 : decode cX6_count 254 = .ok (.invokevirtual 216, 3) := by decide +kernel
theorem dX6_count_257 : decode cX6_count 257 = .ok (.ifCond .eq 13, 3) := by decide +kernel
theorem dX6_count_260 : decode cX6_count 260 = .ok (.aload_n 0, 1) := by decide +kernel
theorem dX6_count_261 : decode cX6_count 261 = .ok (.getfield 45, 3) := by decide +kernel
theorem dX6_count_264 : decode cX6_count 264 = .ok (.invokevirtual 219, 3) := by decide +kernel
theorem dX6_count_267 : decode cX6_count 267 = .ok (.goto 5, 3) := by decide +kernel
theorem dX6_count_270 : decode cX6_count 270 = .ok (.bipush (-4), 2) := by decide +kernel
theorem dX6_count_272 : decode cX6_count 272 = .ok (.ireturn, 1) := by decide +kernel
theorem dX6_count_273 : decode cX6_count 273 = .ok (.aload_n 0, 1) := by decide +kernel
theorem dX6_count_274 : decode cX6_count 274 = .ok (.getfield 10, 3) := by decide +kernel
theorem dX6_count_277 : decode cX6_count 277 = .ok (.invokevirtual 222, 3) := by decide +kernel
theorem dX6_count_280 : decode cX6_count 280 = .ok (.ireturn, 1) := by decide +kernel
theorem dX6_count_281 : decode cX6_count 281 = .ok (.aload_n 0, 1) := by decide +kernel
theorem dX6_count_282 : decode cX6_count 282 = .ok (.getfield 52, 3) := by decide +kernel
theorem dX6_count_285 : decode cX6_count 285 = .ok (.aload_n 0, 1) := by decide +kernel
theorem dX6_count_286 : decode cX6_count 286 = .ok (.getfield 78, 3) := by decide +kernel
theorem dX6_count_289 : decode cX6_count 289 = .ok (.invokevirtual 132, 3) := by decide +kernel
theorem dX6_count_292 : decode cX6_count 292 = .ok (.invokestatic 162, 3) := by decide +kernel
theorem dX6_count_295 : decode cX6_count 295 = .ok (.ireturn, 1) := by decide +kernel
theorem dX6_count_296 : decode cX6_count 296 = .ok (.iconst (-1), 1) := by decide +kernel
theorem dX6_count_297 : decode cX6_count 297 = .ok (.ireturn, 1) := by decide +kernel
theorem dX6_isOutside_0 : decode cX6_isOutside 0 = .ok (.iload_n 0, 1) := by decide +kernel
theorem dX6_isOutside_1 : decode cX6_isOutside 1 = .ok (.iload_n 1, 1) := by decide +kernel
theorem dX6_isOutside_2 : decode cX6_isOutside 2 = .ok (.if_icmp .lt 8, 3) := by decide +kernel
theorem dX6_isOutside_5 : decode cX6_isOutside 5 = .ok (.iload_n 0, 1) := by decide +kernel
theorem dX6_isOutside_6 : decode cX6_isOutside 6 = .ok (.iload_n 2, 1) := by decide +kernel
theorem dX6_isOutside_7 : decode cX6_isOutside 7 = .ok (.if_icmp .le 7, 3) := by decide +kernel
theorem dX6_isOutside_10 : decode cX6_isOutside 10 = .ok (.iconst 1, 1) := by decide +kernel
theorem dX6_isOutside_11 : decode cX6_isOutside 11 = .ok (.goto 4, 3) := by decide +kernel
theorem dX6_isOutside_14 : decode cX6_isOutside 14 = .ok (.iconst 0, 1) := by decide +kernel
theorem dX6_isOutside_15 : decode cX6_isOutside 15 = .ok (.ireturn, 1) := by decide +kernel
set_option maxRecDepth 20000 in
theorem ggX6_isNoCommand_X6_isOutside : GoodIn wsX6_isNoCommand wsX6_isOutside := goodIn_r _ [5] (by decide +kernel) (by decide +kernel)
set_option maxRecDepth 20000 in
theorem gX6_isNoCommand_X6_isOutside : GoodIn wsX6_isNoCommand (va_wsS RX6 60 yX6_isOutside wsX6_isOutside) := goodIn_app (goodIn_of _ (by decide +kernel)) ggX6_isNoCommand_X6_isOutside
theorem dX6_isNoCommand_0 : decode cX6_isNoCommand 0 = .ok (.iload_n 0, 1) := by decide +kernel
theorem dX6_isNoCommand_1 : decode cX6_isNoCommand 1 = .ok (.iconst 0, 1) := by decide +kernel
theorem dX6_isNoCommand_2 : decode cX6_isNoCommand 2 = .ok (.bipush 63, 2) := by decide +kernel
theorem dX6_isNoCommand_4 : decode cX6_isNoCommand 4 = .ok (.invokestatic 60, 3) := by decide +kernel
theorem dX6_isNoCommand_7 : decode cX6_isNoCommand 7 = .ok (.ifCond .ne 13, 3) := by decide +kernel
theorem dX6_isNoCommand_10 : decode cX6_isNoCommand 10 = .ok (.iload_n 1, 1) := by decide +kernel
theorem dX6_isNoCommand_11 : decode cX6_isNoCommand 11 = .ok (.iconst 0, 1) := by decide +kernel
theorem dX6_isNoCommand_12 : decode cX6_isNoCommand 12 = .ok (.ldc 64, 2) := by decide +kernel
theorem dX6_isNoCommand_14 : decode cX6_isNoCommand 14 = .ok (.invokestatic 60, 3) := by decide +kernel
theorem dX6_isNoCommand_17 : decode cX6_isNoCommand 17 = .ok (.ifCond .eq 7, 3) := by decide +kernel
theorem dX6_isNoCommand_20 : decode cX6_isNoCommand 20 = .ok (.iconst 1, 1) := by decide +kernel
theorem dX6_isNoCommand_21 : decode cX6_isNoCommand 21 = .ok (.goto 4, 3) := by decide +kernel
theorem dX6_isNoCommand_24 : decode cX6_isNoCommand 24 = .ok (.iconst 0, 1) := by decide +kernel
theorem dX6_isNoCommand_25 : decode cX6_isNoCommand 25 = .ok (.ireturn, 1) := by decide +kernel
theorem dX6_asNumber_0 : decode cX6_asNumber 0 = .ok (.iload_n 0, 1) := by decide +kernel
theorem dX6_asNumber_1 : decode cX6_asNumber 1 = .ok (.ifCond .eq 7, 3) := by decide +kernel
theorem dX6_asNumber_4 : decode cX6_asNumber 4 = .ok (.iconst 1, 1) := by decide +kernel
theorem dX6_asNumber_5 : decode cX6_asNumber 5 = .ok (.goto 4, 3) := by decide +kernel
theorem dX6_asNumber_8 : decode cX6_asNumber 8 = .ok (.iconst 0, 1) := by decide +kernel
theorem dX6_asNumber_9 : decode cX6_asNumber 9 = .ok (.ireturn, 1) := by decide +kernel
set_option maxRecDepth 20000 in
theorem ggX6_commandCheck_X6_checkOfBits : GoodIn wsX6_commandCheck wsX6_checkOfBits := goodIn_r _ [5] (by decide +kernel) (by decide +kernel)
set_option maxRecDepth 20000 in
theorem gX6_commandCheck_X6_checkOfBits : GoodIn wsX6_commandCheck (va_wsS RX6 226 yX6_checkOfBits wsX6_checkOfBits) := goodIn_app (goodIn_of _ (by decide +kernel)) ggX6_commandCheck_X6_checkOfBits
theorem dX6_commandCheck_0 : decode cX6_commandCheck 0 = .ok (.ldc 225, 2) := by decide +kernel
theorem dX6_commandCheck_2 : decode cX6_commandCheck 2 = .ok (.iload_n 0, 1) := by decide +kernel
theorem dX6_commandCheck_3 : decode cX6_commandCheck 3 = .ok (.imul, 1) := by decide +kernel
theorem dX6_commandCheck_4 : decode cX6_commandCheck 4 = .ok (.iload_n 1, 1) := by decide +kernel
theorem dX6_commandCheck_5 : decode cX6_commandCheck 5 = .ok (.iadd, 1) := by decide +kernel
theorem dX6_commandCheck_6 : decode cX6_commandCheck 6 = .ok (.bipush 22, 2) := by decide +kernel
theorem dX6_commandCheck_8 : decode cX6_commandCheck 8 = .ok (.invokestatic 226, 3) := by decide +kernel
theorem dX6_commandCheck_11 : decode cX6_commandCheck 11 = .ok (.ireturn, 1) := by decide +kernel
set_option maxRecDepth 20000 in
theorem ggX6_contentCheck_X6_checkOfBits : GoodIn wsX6_contentCheck wsX6_checkOfBits := goodIn_r _ [4] (by decide +kernel) (by decide +kernel)
set_option maxRecDepth 20000 in
theorem gX6_contentCheck_X6_checkOfBits : GoodIn wsX6_contentCheck (va_wsS RX6 226 yX6_checkOfBits wsX6_checkOfBits) := goodIn_app (goodIn_of _ (by decide +kernel)) ggX6_contentCheck_X6_checkOfBits
theorem dX6_contentCheck_0 : decode cX6_contentCheck 0 = .ok (.iload_n 0, 1) := by decide +kernel
theorem dX6_contentCheck_1 : decode cX6_contentCheck 1 = .ok (.bipush 16, 2) := by decide +kernel
theorem dX6_contentCheck_3 : decode cX6_contentCheck 3 = .ok (.invokestatic 226, 3) := by decide +kernel
theorem dX6_contentCheck_6 : decode cX6_contentCheck 6 = .ok (.ireturn, 1) := by decide +kernel
theorem dX6_checkOfBits_0 : decode cX6_checkOfBits 0 = .ok (.iconst 0, 1) := by decide +kernel
theorem dX6_checkOfBits_1 : decode cX6_checkOfBits 1 = .ok (.istore_n 2, 1) := by decide +kernel
theorem dX6_checkOfBits_2 : decode cX6_checkOfBits 2 = .ok (.iload_n 1, 1) := by decide +kernel
theorem dX6_checkOfBits_3 : decode cX6_checkOfBits 3 = .ok (.iconst 1, 1) := by decide +kernel
theorem dX6_checkOfBits_4 : decode cX6_checkOfBits 4 = .ok (.isub, 1) := by decide +kernel
theorem dX6_checkOfBits_5 : decode cX6_checkOfBits 5 = .ok (.istore_n 3, 1) := by decide +kernel
theorem dX6_checkOfBits_6 : decode cX6_checkOfBits 6 = .ok (.iload_n 3, 1) := by decide +kernel
theorem dX6_checkOfBits_7 : decode cX6_checkOfBits 7 = .ok (.ifCond .lt 34, 3) := by decide +kernel
theorem dX6_checkOfBits_10 : decode cX6_checkOfBits 10 = .ok (.iload_n 0, 1) := by decide +kernel
theorem dX6_checkOfBits_11 : decode cX6_checkOfBits 11 = .ok (.iload_n 3, 1) := by decide +kernel
theorem dX6_checkOfBits_12 : decode cX6_checkOfBits 12 = .ok (.ishr, 1) := by decide +kernel
theorem dX6_checkOfBits_13 : decode cX6_checkOfBits 13 = .ok (.iconst 1, 1) := by decide +kernel
theorem dX6_checkOfBits_14 : decode cX6_checkOfBits 14 = .ok (.iand, 1) := by decide +kernel
theorem dX6_checkOfBits_15 : decode cX6_checkOfBits 15 = .ok (.istore 4, 2) := by decide +kernel
theorem dX6_checkOfBits_17 : decode cX6_checkOfBits 17 = .ok (.iload_n 2, 1) := by decide +kernel
theorem dX6_checkOfBits_18 : decode cX6_checkOfBits 18 = .ok (.iconst 1, 1) := by decide +kernel
theorem dX6_checkOfBits_19 : decode cX6_checkOfBits 19 = .ok (.ishl, 1) := by decide +kernel
theorem dX6_checkOfBits_20 : decode cX6_checkOfBits 20 = .ok (.bipush 127, 2) := by decide +kernel
theorem dX6_checkOfBits_22 : decode cX6_checkOfBits 22 = .ok (.iand, 1) := by decide +kernel
theorem dX6_checkOfBits_23 : decode cX6_checkOfBits 23 = .ok (.bipush 9, 2) := by decide +kernel
theorem dX6_checkOfBits_25 : decode cX6_checkOfBits 25 = .ok (.iload 4, 2) := by decide +kernel
theorem dX6_checkOfBits_27 : decode cX6_checkOfBits 27 = .ok (.iload_n 2, 1) := by decide +kernel
theorem dX6_checkOfBits_28 : decode cX6_checkOfBits 28 = .ok (.bipush 6, 2) := by decide +kernel
theorem dX6_checkOfBits_30 : decode cX6_checkOfBits 30 = .ok (.ishr, 1) := by decide +kernel
theorem dX6_checkOfBits_31 : decode cX6_checkOfBits 31 = .ok (.ixor, 1) := by decide +kernel
theorem dX6_checkOfBits_32 : decode cX6_checkOfBits 32 = .ok (.imul, 1) := by decide +kernel
theorem dX6_checkOfBits_33 : decode cX6_checkOfBits 33 = .ok (.ixor, 1) := by decide +kernel
theorem dX6_checkOfBits_34 : decode cX6_checkOfBits 34 = .ok (.istore_n 2, 1) := by decide +kernel
theorem dX6_checkOfBits_35 : decode cX6_checkOfBits 35 = .ok (.iinc 3 (-1), 3) := by decide +kernel
theorem dX6_checkOfBits_38 : decode cX6_checkOfBits 38 = .ok (.goto (-32), 3) := by decide +kernel
theorem dX6_checkOfBits_41 : decode cX6_checkOfBits 41 = .ok (.iload_n 2, 1) := by decide +kernel
theorem dX6_checkOfBits_42 : decode cX6_checkOfBits 42 = .ok (.ireturn, 1) := by decide +kernel
set_option maxRecDepth 20000 in
theorem ggX6_statesOf_X6_isBarredByLock : GoodIn wsX6_statesOf wsX6_isBarredByLock := goodIn_r _ [4] (by decide +kernel) (by decide +kernel)
set_option maxRecDepth 20000 in
theorem gX6_statesOf_X6_isBarredByLock : GoodIn wsX6_statesOf (va_wsS RX6 229 yX6_isBarredByLock wsX6_isBarredByLock) := goodIn_app (goodIn_of _ (by decide +kernel)) ggX6_statesOf_X6_isBarredByLock
theorem dX6_statesOf_0 : decode cX6_statesOf 0 = .ok (.iload_n 0, 1) := by decide +kernel
theorem dX6_statesOf_1 : decode cX6_statesOf 1 = .ok (.lookupswitch 99 #[(0, 75), (1, 79), (2, 81), (3, 83), (7, 86), (12, 93), (13, 89), (42, 96)], 75) := by decide +kernel
theorem dX6_statesOf_76 : decode cX6_statesOf 76 = .ok (.sipush 255, 3) := by decide +kernel
theorem dX6_statesOf_79 : decode cX6_statesOf 79 = .ok (.ireturn, 1) := by decide +kernel
theorem dX6_statesOf_80 : decode cX6_statesOf 80 = .ok (.iconst 1, 1) := by decide +kernel
theorem dX6_statesOf_81 : decode cX6_statesOf 81 = .ok (.ireturn, 1) := by decide +kernel
theorem dX6_statesOf_82 : decode cX6_statesOf 82 = .ok (.iconst 2, 1) := by decide +kernel
theorem dX6_statesOf_83 : decode cX6_statesOf 83 = .ok (.ireturn, 1) := by decide +kernel
theorem dX6_statesOf_84 : decode cX6_statesOf 84 = .ok (.bipush 12, 2) := by decide +kernel
theorem dX6_statesOf_86 : decode cX6_statesOf 86 = .ok (.ireturn, 1) := by decide +kernel
theorem dX6_statesOf_87 : decode cX6_statesOf 87 = .ok (.bipush 24, 2) := by decide +kernel
theorem dX6_statesOf_89 : decode cX6_statesOf 89 = .ok (.ireturn, 1) := by decide +kernel
theorem dX6_statesOf_90 : decode cX6_statesOf 90 = .ok (.sipush 248, 3) := by decide +kernel
theorem dX6_statesOf_93 : decode cX6_statesOf 93 = .ok (.ireturn, 1) := by decide +kernel
theorem dX6_statesOf_94 : decode cX6_statesOf 94 = .ok (.bipush 96, 2) := by decide +kernel
theorem dX6_statesOf_96 : decode cX6_statesOf 96 = .ok (.ireturn, 1) := by decide +kernel
theorem dX6_statesOf_97 : decode cX6_statesOf 97 = .ok (.bipush 16, 2) := by decide +kernel
theorem dX6_statesOf_99 : decode cX6_statesOf 99 = .ok (.ireturn, 1) := by decide +kernel
theorem dX6_statesOf_100 : decode cX6_statesOf 100 = .ok (.iload_n 0, 1) := by decide +kernel
theorem dX6_statesOf_101 : decode cX6_statesOf 101 = .ok (.invokestatic 229, 3) := by decide +kernel
theorem dX6_statesOf_104 : decode cX6_statesOf 104 = .ok (.ifCond .eq 8, 3) := by decide +kernel
theorem dX6_statesOf_107 : decode cX6_statesOf 107 = .ok (.bipush 16, 2) := by decide +kernel
theorem dX6_statesOf_109 : decode cX6_statesOf 109 = .ok (.goto 4, 3) := by decide +kernel
theorem dX6_statesOf_112 : decode cX6_statesOf 112 = .ok (.iconst 0, 1) := by decide +kernel
theorem dX6_statesOf_113 : decode cX6_statesOf 113 = .ok (.ireturn, 1) := by decide +kernel
theorem dX6_isBarredByLock_0 : decode cX6_isBarredByLock 0 = .ok (.iload_n 0, 1) := by decide +kernel
theorem dX6_isBarredByLock_1 : decode cX6_isBarredByLock 1 = .ok (.tableswitch 149 6 38 #[147, 149, 149, 149, 149, 149, 149, 149, 149, 149, 149, 147, 147, 149, 149, 147, 147, 147, 147, 147, 149, 149, 149, 149, 149, 149, 147, 147, 149, 149, 149, 149, 147], 147) := by decide +kernel
theorem dX6_isBarredByLock_148 : decode cX6_isBarredByLock 148 = .ok (.iconst 1, 1) := by decide +kernel
theorem dX6_isBarredByLock_149 : decode cX6_isBarredByLock 149 = .ok (.ireturn, 1) := by decide +kernel
theorem dX6_isBarredByLock_150 : decode cX6_isBarredByLock 150 = .ok (.iconst 0, 1) := by decide +kernel
theorem dX6_isBarredByLock_151 : decode cX6_isBarredByLock 151 = .ok (.ireturn, 1) := by decide +kernel
set_option maxRecDepth 20000 in
theorem ggX6_middleOfLongestRow_X6_rowLength : GoodIn wsX6_middleOfLongestRow wsX6_rowLength := goodIn_r _ [4] (by decide +kernel) (by decide +kernel)
set_option maxRecDepth 20000 in
theorem gX6_middleOfLongestRow_X6_rowLength : GoodIn wsX6_middleOfLongestRow (va_wsS RX6 232 yX6_rowLength wsX6_rowLength) := goodIn_app (goodIn_of _ (by decide +kernel)) ggX6_middleOfLongestRow_X6_rowLength
theorem dX6_middleOfLongestRow_0 : decode cX6_middleOfLongestRow 0 = .ok (.iconst 0, 1) := by decide +kernel
theorem dX6_middleOfLongestRow_1 : decode cX6_middleOfLongestRow 1 = .ok (.istore_n 1, 1) := by decide +kernel
theorem dX6_middleOfLongestRow_2 : decode cX6_middleOfLongestRow 2 = .ok (.iconst 0, 1) := by decide +kernel
theorem dX6_middleOfLongestRow_3 : decode cX6_middleOfLongestRow 3 = .ok (.istore_n 2, 1) := by decide +kernel
theorem dX6_middleOfLongestRow_4 : decode cX6_middleOfLongestRow 4 = .ok (.iconst 0, 1) := by decide +kernel
theorem dX6_middleOfLongestRow_5 : decode cX6_middleOfLongestRow 5 = .ok (.istore_n 3, 1) := by decide +kernel
theorem dX6_middleOfLongestRow_6 : decode cX6_middleOfLongestRow 6 = .ok (.iload_n 3, 1) := by decide +kernel
theorem dX6_middleOfLongestRow_7 : decode cX6_middleOfLongestRow 7 = .ok (.bipush 16, 2) := by decide +kernel
theorem dX6_middleOfLongestRow_9 : decode cX6_middleOfLongestRow 9 = .ok (.if_icmp .ge 27, 3) := by decide +kernel
theorem dX6_middleOfLongestRow_12 : decode cX6_middleOfLongestRow 12 = .ok (.iload_n 0, 1) := by decide +kernel
theorem dX6_middleOfLongestRow_13 : decode cX6_middleOfLongestRow 13 = .ok (.iload_n 3, 1) := by decide +kernel
theorem dX6_middleOfLongestRow_14 : decode cX6_middleOfLongestRow 14 = .ok (.invokestatic 232, 3) := by decide +kernel
theorem dX6_middleOfLongestRow_17 : decode cX6_middleOfLongestRow 17 = .ok (.istore 4, 2) := by decide +kernel
theorem dX6_middleOfLongestRow_19 : decode cX6_middleOfLongestRow 19 = .ok (.iload 4, 2) := by decide +kernel
theorem dX6_middleOfLongestRow_21 : decode cX6_middleOfLongestRow 21 = .ok (.iload_n 2, 1) := by decide +kernel
theorem dX6_middleOfLongestRow_22 : decode cX6_middleOfLongestRow 22 = .ok (.if_icmp .le 8, 3) := by decide +kernel
theorem dX6_middleOfLongestRow_25 : decode cX6_middleOfLongestRow 25 = .ok (.iload_n 3, 1) := by decide +kernel
theorem dX6_middleOfLongestRow_26 : decode cX6_middleOfLongestRow 26 = .ok (.istore_n 1, 1) := by decide +kernel
theorem dX6_middleOfLongestRow_27 : decode cX6_middleOfLongestRow 27 = .ok (.iload 4, 2) := by decide +kernel
theorem dX6_middleOfLongestRow_29 : decode cX6_middleOfLongestRow 29 = .ok (.istore_n 2, 1) := by decide +kernel
theorem dX6_middleOfLongestRow_30 : decode cX6_middleOfLongestRow 30 = .ok (.iinc 3 1, 3) := by decide +kernel
theorem dX6_middleOfLongestRow_33 : decode cX6_middleOfLongestRow 33 = .ok (.goto (-27), 3) := by decide +kernel
theorem dX6_middleOfLongestRow_36 : decode cX6_middleOfLongestRow 36 = .ok (.iload_n 1, 1) := by decide +kernel
theorem dX6_middleOfLongestRow_37 : decode cX6_middleOfLongestRow 37 = .ok (.iload_n 2, 1) := by decide +kernel
theorem dX6_middleOfLongestRow_38 : decode cX6_middleOfLongestRow 38 = .ok (.iconst 1, 1) := by decide +kernel
theorem dX6_middleOfLongestRow_39 : decode cX6_middleOfLongestRow 39 = .ok (.isub, 1) := by decide +kernel
theorem dX6_middleOfLongestRow_40 : decode cX6_middleOfLongestRow 40 = .ok (.iconst 2, 1) := by decide +kernel
theorem dX6_middleOfLongestRow_41 : decode cX6_middleOfLongestRow 41 = .ok (.idiv, 1) := by decide +kernel
theorem dX6_middleOfLongestRow_42 : decode cX6_middleOfLongestRow 42 = .ok (.iadd, 1) := by decide +kernel
theorem dX6_middleOfLongestRow_43 : decode cX6_middleOfLongestRow 43 = .ok (.bipush 16, 2) := by decide +kernel
theorem dX6_middleOfLongestRow_45 : decode cX6_middleOfLongestRow 45 = .ok (.irem, 1) := by decide +kernel
theorem dX6_middleOfLongestRow_46 : decode cX6_middleOfLongestRow 46 = .ok (.ireturn, 1) := by decide +kernel
theorem dX6_rowLength_0 : decode cX6_rowLength 0 = .ok (.iconst 0, 1) := by decide +kernel
theorem dX6_rowLength_1 : decode cX6_rowLength 1 = .ok (.istore_n 2, 1) := by decide +kernel
theorem dX6_rowLength_2 : decode cX6_rowLength 2 = .ok (.iload_n 2, 1) := by decide +kernel
theorem dX6_rowLength_3 : decode cX6_rowLength 3 = .ok (.bipush 16, 2) := by decide +kernel
theorem dX6_rowLength_5 : decode cX6_rowLength 5 = .ok (.if_icmp .ge 23, 3) := by decide +kernel
theorem dX6_rowLength_8 : decode cX6_rowLength 8 = .ok (.iload_n 0, 1) := by decide +kernel
theorem dX6_rowLength_9 : decode cX6_rowLength 9 = .ok (.iload_n 1, 1) := by decide +kernel
theorem dX6_rowLength_10 : decode cX6_rowLength 10 = .ok (.iload_n 2, 1) := by decide +kernel
theorem dX6_rowLength_11 : decode cX6_rowLength 11 = .ok (.iadd, 1) := by decide +kernel
theorem dX6_rowLength_12 : decode cX6_rowLength 12 = .ok (.bipush 16, 2) := by decide +kernel
theorem dX6_rowLength_14 : decode cX6_rowLength 14 = .ok (.irem, 1) := by decide +kernel
theorem dX6_rowLength_15 : decode cX6_rowLength 15 = .ok (.ishr, 1) := by decide +kernel
theorem dX6_rowLength_16 : decode cX6_rowLength 16 = .ok (.iconst 1, 1) := by decide +kernel
theorem dX6_rowLength_17 : decode cX6_rowLength 17 = .ok (.iand, 1) := by decide +kernel
theorem dX6_rowLength_18 : decode cX6_rowLength 18 = .ok (.iconst 1, 1) := by decide +kernel
theorem dX6_rowLength_19 : decode cX6_rowLength 19 = .ok (.if_icmp .ne 9, 3) := by decide +kernel
theorem dX6_rowLength_22 : decode cX6_rowLength 22 = .ok (.iinc 2 1, 3) := by decide +kernel
theorem dX6_rowLength_25 : decode cX6_rowLength 25 = .ok (.goto (-23), 3) := by decide +kernel
theorem dX6_rowLength_28 : decode cX6_rowLength 28 = .ok (.iload_n 2, 1) := by decide +kernel
theorem dX6_rowLength_29 : decode cX6_rowLength 29 = .ok (.ireturn, 1) := by decide +kernel
set_option maxRecDepth 20000 in
theorem ggX6_renew_X3_clear : GoodIn wsX6_renew wsX3_clear := goodIn_r _ [11, 12, 13, 14, 15, 16, 17, 18, 19, 20, 21, 22, 23, 24, 102, 103, 104, 105, 106, 107] (by decide +kernel) (by decide +kernel)
set_option maxRecDepth 20000 in
theorem gX6_renew_X3_clear : GoodIn wsX6_renew (wsV RX6 241 RX3 yX3_clear wsX3_clear) := goodIn_app (goodIn_of _ (by decide +kernel)) ggX6_renew_X3_clear
set_option maxRecDepth 20000 in
theorem ggX6_renew_X1_empty : GoodIn wsX6_renew wsX1_empty := goodIn_r _ [29, 30, 108, 109] (by decide +kernel) (by decide +kernel)
set_option maxRecDepth 20000 in
theorem gX6_renew_X1_empty : GoodIn wsX6_renew (wsV RX6 90 RX1 yX1_empty wsX1_empty) := goodIn_app (goodIn_of _ (by decide +kernel)) ggX6_renew_X1_empty
set_option maxRecDepth 20000 in
theorem ggX6_renew_X6_goDark : GoodIn wsX6_renew wsX6_goDark := goodIn_r _ [35, 36, 37, 38, 39, 40, 41, 42, 43, 44, 45, 46, 47, 48, 49, 50, 51, 52, 53, 54, 55, 56, 57, 58, 59, 60, 61, 62, 63, 64, 65, 66, 67, 68, 69, 70, 71, 72, 73, 74, 75, 76, 77, 78, 79, 80, 81, 82, 83, 84, 85, 86, 87, 88, 89, 90, 91, 92, 93, 94, 95, 96, 97, 98, 99, 100, 101, 110, 111, 112, 113, 114, 115, 116, 117, 118, 119, 120, 121, 122, 123, 124, 125, 126, 127] (by decide +kernel) (by decide +kernel)
set_option maxRecDepth 20000 in
theorem gX6_renew_X6_goDark : GoodIn wsX6_renew (wsV RX6 75 RX6 yX6_goDark wsX6_goDark) := goodIn_app (goodIn_of _ (by decide +kernel)) ggX6_renew_X6_goDark
theorem dX6_renew_0 : decode cX6_renew 0 = .ok (.aload_n 0, 1) := by decide +kernel
theorem dX6_renew_1 : decode cX6_renew 1 = .ok (.iload_n 3, 1) := by decide +kernel
theorem dX6_renew_2 : decode cX6_renew 2 = .ok (.putfield 235, 3) := by decide +kernel
theorem dX6_renew_5 : decode cX6_renew 5 = .ok (.aload_n 0, 1) := by decide +kernel
theorem dX6_renew_6 : decode cX6_renew 6 = .ok (.iload 4, 2) := by decide +kernel
theorem dX6_renew_8 : decode cX6_renew 8 = .ok (.putfield 238, 3) := by decide +kernel
theorem dX6_renew_11 : decode cX6_renew 11 = .ok (.aload_n 0, 1) := by decide +kernel
theorem dX6_renew_12 : decode cX6_renew 12 = .ok (.getfield 10, 3) := by decide +kernel
theorem dX6_renew_15 : decode cX6_renew 15 = .ok (.iload_n 1, 1) := by decide +kernel
theorem dX6_renew_16 : decode cX6_renew 16 = .ok (.iload_n 2, 1) := by decide +kernel
theorem dX6_renew_17 : decode cX6_renew 17 = .ok (.invokevirtual 241, 3) := by decide +kernel
theorem dX6_renew_20 : decode cX6_renew 20 = .ok (.aload_n 0, 1) := by decide +kernel
theorem dX6_renew_21 : decode cX6_renew 21 = .ok (.getfield 25, 3) := by decide +kernel
theorem dX6_renew_24 : decode cX6_renew 24 = .ok (.invokevirtual 90, 3) := by decide +kernel
theorem dX6_renew_27 : decode cX6_renew 27 = .ok (.aload_n 0, 1) := by decide +kernel
theorem dX6_renew_28 : decode cX6_renew 28 = .ok (.iconst 0, 1) := by decide +kernel
theorem dX6_renew_29 : decode cX6_renew 29 = .ok (.putfield 204, 3) := by decide +kernel
theorem dX6_renew_32 : decode cX6_renew 32 = .ok (.aload_n 0, 1) := by decide +kernel
theorem dX6_renew_33 : decode cX6_renew 33 = .ok (.iconst 0, 1) := by decide +kernel
theorem dX6_renew_34 : decode cX6_renew 34 = .ok (.putfield 153, 3) := by decide +kernel
theorem dX6_renew_37 : decode cX6_renew 37 = .ok (.aload_n 0, 1) := by decide +kernel
theorem dX6_renew_38 : decode cX6_renew 38 = .ok (.invokevirtual 75, 3) := by decide +kernel
theorem dX6_renew_41 : decode cX6_renew 41 = .ok (.return_, 1) := by decide +kernel
theorem dX6_isPowered_0 : decode cX6_isPowered 0 = .ok (.aload_n 0, 1) := by decide +kernel
theorem dX6_isPowered_1 : decode cX6_isPowered 1 = .ok (.getfield 111, 3) := by decide +kernel
theorem dX6_isPowered_4 : decode cX6_isPowered 4 = .ok (.iconst (-1), 1) := by decide +kernel
theorem dX6_isPowered_5 : decode cX6_isPowered 5 = .ok (.if_icmp .eq 7, 3) := by decide +kernel
theorem dX6_isPowered_8 : decode cX6_isPowered 8 = .ok (.iconst 1, 1) := by decide +kernel
theorem dX6_isPowered_9 : decode cX6_isPowered 9 = .ok (.goto 4, 3) := by decide +kernel
theorem dX6_isPowered_12 : decode cX6_isPowered 12 = .ok (.iconst 0, 1) := by decide +kernel
theorem dX6_isPowered_13 : decode cX6_isPowered 13 = .ok (.ireturn, 1) := by decide +kernel
theorem dX6_isStreaming_0 : decode cX6_isStreaming 0 = .ok (.aload_n 0, 1) := by decide +kernel
theorem dX6_isStreaming_1 : decode cX6_isStreaming 1 = .ok (.getfield 111, 3) := by decide +kernel
theorem dX6_isStreaming_4 : decode cX6_isStreaming 4 = .ok (.iconst 5, 1) := by decide +kernel
theorem dX6_isStreaming_5 : decode cX6_isStreaming 5 = .ok (.if_icmp .eq 12, 3) := by decide +kernel
theorem dX6_isStreaming_8 : decode cX6_isStreaming 8 = .ok (.aload_n 0, 1) := by decide +kernel
theorem dX6_isStreaming_9 : decode cX6_isStreaming 9 = .ok (.getfield 111, 3) := by decide +kernel
theorem dX6_isStreaming_12 : decode cX6_isStreaming 12 = .ok (.bipush 6, 2) := by decide +kernel
theorem dX6_isStreaming_14 : decode cX6_isStreaming 14 = .ok (.if_icmp .ne 7, 3) := by decide +kernel
theorem dX6_isStreaming_17 : decode cX6_isStreaming 17 = .ok (.iconst 1, 1) := by decide +kernel
theorem dX6_isStreaming_18 : decode cX6_isStreaming 18 = .ok (.goto 4, 3) := by decide +kernel
theorem dX6_isStreaming_21 : decode cX6_isStreaming 21 = .ok (.iconst 0, 1) := by decide +kernel
theorem dX6_isStreaming_22 : decode cX6_isStreaming 22 = .ok (.ireturn, 1) := by decide +kernel
set_option maxRecDepth 20000 in
theorem ggX6_start_X6_goDark : GoodIn wsX6_start wsX6_goDark := goodIn_r _ [8, 1, 9, 10, 11, 3, 12, 13, 14, 15, 16, 17, 18, 19, 20, 21, 22, 23, 24, 25, 26, 27, 28, 29, 30, 31, 32, 33, 34, 35, 36, 37, 38, 39, 40, 41, 42, 43, 44, 45, 46, 47, 48, 49, 50, 51, 52, 53, 54, 55, 62, 63, 64, 65, 66, 67, 68, 69, 70, 71, 72, 73, 74, 75, 76, 77, 78, 79, 80, 81, 82, 83, 84, 85, 86, 87, 88, 89, 90, 91, 92, 93, 94, 95, 96] (by decide +kernel) (by decide +kernel)
set_option maxRecDepth 20000 in
theorem gX6_start_X6_goDark : GoodIn wsX6_start (wsV RX6 75 RX6 yX6_goDark wsX6_goDark) := goodIn_app (goodIn_of _ (by decide +kernel)) ggX6_start_X6_goDark
set_option maxRecDepth 20000 in
theorem ggX6_start_X1_length : GoodIn wsX6_start wsX1_length := goodIn_r _ [60, 61, 97, 98] (by decide +kernel) (by decide +kernel)
set_option maxRecDepth 20000 in
theorem gX6_start_X1_length : GoodIn wsX6_start (wsV RX6 86 RX1 yX1_length wsX1_length) := goodIn_app (goodIn_of _ (by decide +kernel)) ggX6_start_X1_length
theorem dX6_start_0 : decode cX6_start 0 = .ok (.aload_n 0, 1) := by decide +kernel
theorem dX6_start_1 : decode cX6_start 1 = .ok (.invokevirtual 75, 3) := by decide +kernel
theorem dX6_start_4 : decode cX6_start 4 = .ok (.aload_n 0, 1) := by decide +kernel
theorem dX6_start_5 : decode cX6_start 5 = .ok (.iconst 0, 1) := by decide +kernel
theorem dX6_start_6 : decode cX6_start 6 = .ok (.putfield 111, 3) := by decide +kernel
theorem dX6_start_9 : decode cX6_start 9 = .ok (.aload_n 0, 1) := by decide +kernel
theorem dX6_start_10 : decode cX6_start 10 = .ok (.aload_n 0, 1) := by decide +kernel
theorem dX6_start_11 : decode cX6_start 11 = .ok (.getfield 25, 3) := by decide +kernel
theorem dX6_start_14 : decode cX6_start 14 = .ok (.invokevirtual 86, 3) := by decide +kernel
theorem dX6_start_17 : decode cX6_start 17 = .ok (.ifCond .le 7, 3) := by decide +kernel
theorem dX6_start_20 : decode cX6_start 20 = .ok (.iconst 1, 1) := by decide +kernel
theorem dX6_start_21 : decode cX6_start 21 = .ok (.goto 4, 3) := by decide +kernel
theorem dX6_start_24 : decode cX6_start 24 = .ok (.iconst 0, 1) := by decide +kernel
theorem dX6_start_25 : decode cX6_start 25 = .ok (.putfield 197, 3) := by decide +kernel
theorem dX6_start_28 : decode cX6_start 28 = .ok (.return_, 1) := by decide +kernel
set_option maxRecDepth 20000 in
theorem ggX6_goDark_X2_clear : GoodIn wsX6_goDark wsX2_clear := goodIn_r _ [14, 15, 16, 17, 67, 68, 69] (by decide +kernel) (by decide +kernel)
set_option maxRecDepth 20000 in
theorem gX6_goDark_X2_clear : GoodIn wsX6_goDark (wsV RX6 247 RX2 yX2_clear wsX2_clear) := goodIn_app (goodIn_of _ (by decide +kernel)) ggX6_goDark_X2_clear
set_option maxRecDepth 20000 in
theorem ggX6_goDark_X4_clear : GoodIn wsX6_goDark wsX4_clear := goodIn_r _ [22, 23, 24, 70, 71, 72, 73] (by decide +kernel) (by decide +kernel)
set_option maxRecDepth 20000 in
theorem gX6_goDark_X4_clear : GoodIn wsX6_goDark (wsV RX6 249 RX4 yX4_clear wsX4_clear) := goodIn_app (goodIn_of _ (by decide +kernel)) ggX6_goDark_X4_clear
set_option maxRecDepth 20000 in
theorem ggX6_goDark_X0_clear : GoodIn wsX6_goDark wsX0_clear := goodIn_r _ [29, 30, 31, 32, 33, 34, 35, 28, 36, 37, 38, 39, 74, 75, 76, 77, 78, 79] (by decide +kernel) (by decide +kernel)
set_option maxRecDepth 20000 in
theorem gX6_goDark_X0_clear : GoodIn wsX6_goDark (wsV RX6 250 RX0 yX0_clear wsX0_clear) := goodIn_app (goodIn_of _ (by decide +kernel)) ggX6_goDark_X0_clear
set_option maxRecDepth 20000 in
theorem ggX6_goDark_X5_clear : GoodIn wsX6_goDark wsX5_clear := goodIn_r _ [44, 45, 46, 47, 48, 49, 80, 81, 82, 83, 84] (by decide +kernel) (by decide +kernel)
set_option maxRecDepth 20000 in
theorem gX6_goDark_X5_clear : GoodIn wsX6_goDark (wsV RX6 251 RX5 yX5_clear wsX5_clear) := goodIn_app (goodIn_of _ (by decide +kernel)) ggX6_goDark_X5_clear
theorem dX6_goDark_0 : decode cX6_goDark 0 = .ok (.aload_n 0, 1) := by decide +kernel
theorem dX6_goDark_1 : decode cX6_goDark 1 = .ok (.iconst (-1), 1) := by decide +kernel
theorem dX6_goDark_2 : decode cX6_goDark 2 = .ok (.putfield 111, 3) := by decide +kernel
theorem dX6_goDark_5 : decode cX6_goDark 5 = .ok (.aload_n 0, 1) := by decide +kernel
theorem dX6_goDark_6 : decode cX6_goDark 6 = .ok (.iconst 0, 1) := by decide +kernel
theorem dX6_goDark_7 : decode cX6_goDark 7 = .ok (.putfield 185, 3) := by decide +kernel
theorem dX6_goDark_10 : decode cX6_goDark 10 = .ok (.aload_n 0, 1) := by decide +kernel
theorem dX6_goDark_11 : decode cX6_goDark 11 = .ok (.iconst 0, 1) := by decide +kernel
theorem dX6_goDark_12 : decode cX6_goDark 12 = .ok (.putfield 201, 3) := by decide +kernel
theorem dX6_goDark_15 : decode cX6_goDark 15 = .ok (.aload_n 0, 1) := by decide +kernel
theorem dX6_goDark_16 : decode cX6_goDark 16 = .ok (.iconst 0, 1) := by decide +kernel
theorem dX6_goDark_17 : decode cX6_goDark 17 = .ok (.putfield 244, 3) := by decide +kernel
theorem dX6_goDark_20 : decode cX6_goDark 20 = .ok (.aload_n 0, 1) := by decide +kernel
theorem dX6_goDark_21 : decode cX6_goDark 21 = .ok (.iconst 0, 1) := by decide +kernel
theorem dX6_goDark_22 : decode cX6_goDark 22 = .ok (.putfield 197, 3) := by decide +kernel
theorem dX6_goDark_25 : decode cX6_goDark 25 = .ok (.aload_n 0, 1) := by decide +kernel
theorem dX6_goDark_26 : decode cX6_goDark 26 = .ok (.getfield 52, 3) := by decide +kernel
theorem dX6_goDark_29 : decode cX6_goDark 29 = .ok (.invokevirtual 247, 3) := by decide +kernel
theorem dX6_goDark_32 : decode cX6_goDark 32 = .ok (.aload_n 0, 1) := by decide +kernel
theorem dX6_goDark_33 : decode cX6_goDark 33 = .ok (.getfield 31, 3) := by decide +kernel
theorem dX6_goDark_36 : decode cX6_goDark 36 = .ok (.invokevirtual 249, 3) := by decide +kernel
theorem dX6_goDark_39 : decode cX6_goDark 39 = .ok (.aload_n 0, 1) := by decide +kernel
theorem dX6_goDark_40 : decode cX6_goDark 40 = .ok (.getfield 38, 3) := by decide +kernel
theorem dX6_goDark_43 : decode cX6_goDark 43 = .ok (.invokevirtual 250, 3) := by decide +kernel
theorem dX6_goDark_46 : decode cX6_goDark 46 = .ok (.aload_n 0, 1) := by decide +kernel
theorem dX6_goDark_47 : decode cX6_goDark 47 = .ok (.getfield 45, 3) := by decide +kernel
theorem dX6_goDark_50 : decode cX6_goDark 50 = .ok (.invokevirtual 251, 3) := by decide +kernel
theorem dX6_goDark_53 : decode cX6_goDark 53 = .ok (.return_, 1) := by decide +kernel
set_option maxRecDepth 20000 in
theorem ggX6_tearUnfinished_X4_firstHasBegun : GoodIn wsX6_tearUnfinished wsX4_firstHasBegun := goodIn_r _ [8, 9, 10, 77, 78, 79, 80] (by decide +kernel) (by decide +kernel)
set_option maxRecDepth 20000 in
theorem gX6_tearUnfinished_X4_firstHasBegun : GoodIn wsX6_tearUnfinished (wsV RX6 252 RX4 yX4_firstHasBegun wsX4_firstHasBegun) := goodIn_app (goodIn_of _ (by decide +kernel)) ggX6_tearUnfinished_X4_firstHasBegun
set_option maxRecDepth 20000 in
theorem ggX6_tearUnfinished_X4_tellOf : GoodIn wsX6_tearUnfinished wsX4_tellOf := goodIn_r _ [14, 9, 15, 16, 10, 77, 78, 79, 80] (by decide +kernel) (by decide +kernel)
set_option maxRecDepth 20000 in
theorem gX6_tearUnfinished_X4_tellOf : GoodIn wsX6_tearUnfinished (wsV RX6 178 RX4 yX4_tellOf wsX4_tellOf) := goodIn_app (goodIn_of _ (by decide +kernel)) ggX6_tearUnfinished_X4_tellOf
set_option maxRecDepth 20000 in
theorem ggX6_tearUnfinished_X3_tear : GoodIn wsX6_tearUnfinished wsX3_tear := goodIn_r _ [21, 22, 23, 24, 20, 25, 26, 27, 28, 29, 30, 31, 32, 33, 34, 35, 36, 37, 38, 39, 40, 41, 42, 81, 82, 83, 84, 85, 86] (by decide +kernel) (by decide +kernel)
set_option maxRecDepth 20000 in
theorem gX6_tearUnfinished_X3_tear : GoodIn wsX6_tearUnfinished (wsV RX6 255 RX3 yX3_tear wsX3_tear) := goodIn_app (goodIn_of _ (by decide +kernel)) ggX6_tearUnfinished_X3_tear
set_option maxRecDepth 20000 in
theorem ggX6_tearUnfinished_X0_groupHasBegun : GoodIn wsX6_tearUnfinished wsX0_groupHasBegun := goodIn_r _ [47, 48, 49, 87, 88, 89, 90, 91, 92] (by decide +kernel) (by decide +kernel)
set_option maxRecDepth 20000 in
theorem gX6_tearUnfinished_X0_groupHasBegun : GoodIn wsX6_tearUnfinished (wsV RX6 258 RX0 yX0_groupHasBegun wsX0_groupHasBegun) := goodIn_app (goodIn_of _ (by decide +kernel)) ggX6_tearUnfinished_X0_groupHasBegun
set_option maxRecDepth 20000 in
theorem ggX6_tearUnfinished_X0_group : GoodIn wsX6_tearUnfinished wsX0_group := goodIn_r _ [53, 54, 87, 88, 89, 90, 91, 92] (by decide +kernel) (by decide +kernel)
set_option maxRecDepth 20000 in
theorem gX6_tearUnfinished_X0_group : GoodIn wsX6_tearUnfinished (wsV RX6 261 RX0 yX0_group wsX0_group) := goodIn_app (goodIn_of _ (by decide +kernel)) ggX6_tearUnfinished_X0_group
set_option maxRecDepth 20000 in
theorem ggX6_tearUnfinished_X3_tearGroup : GoodIn wsX6_tearUnfinished wsX3_tearGroup := goodIn_r _ [58, 59, 22, 23, 24, 20, 25, 26, 27, 28, 29, 30, 31, 32, 33, 34, 35, 36, 37, 38, 39, 40, 41, 42, 81, 82, 83, 84, 85, 86] (by decide +kernel) (by decide +kernel)
set_option maxRecDepth 20000 in
theorem gX6_tearUnfinished_X3_tearGroup : GoodIn wsX6_tearUnfinished (wsV RX6 264 RX3 yX3_tearGroup wsX3_tearGroup) := goodIn_app (goodIn_of _ (by decide +kernel)) ggX6_tearUnfinished_X3_tearGroup
theorem dX6_tearUnfinished_0 : decode cX6_tearUnfinished 0 = .ok (.aload_n 0, 1) := by decide +kernel
theorem dX6_tearUnfinished_1 : decode cX6_tearUnfinished 1 = .ok (.getfield 31, 3) := by decide +kernel
theorem dX6_tearUnfinished_4 : decode cX6_tearUnfinished 4 = .ok (.invokevirtual 252, 3) := by decide +kernel
theorem dX6_tearUnfinished_7 : decode cX6_tearUnfinished 7 = .ok (.ifCond .eq 19, 3) := by decide +kernel
theorem dX6_tearUnfinished_10 : decode cX6_tearUnfinished 10 = .ok (.aload_n 0, 1) := by decide +kernel
theorem dX6_tearUnfinished_11 : decode cX6_tearUnfinished 11 = .ok (.getfield 10, 3) := by decide +kernel
theorem dX6_tearUnfinished_14 : decode cX6_tearUnfinished 14 = .ok (.aload_n 0, 1) := by decide +kernel
theorem dX6_tearUnfinished_15 : decode cX6_tearUnfinished 15 = .ok (.getfield 31, 3) := by decide +kernel
theorem dX6_tearUnfinished_18 : decode cX6_tearUnfinished 18 = .ok (.iconst 0, 1) := by decide +kernel
theorem dX6_tearUnfinished_19 : decode cX6_tearUnfinished 19 = .ok (.iconst 0, 1) := by decide +kernel
theorem dX6_tearUnfinished_20 : decode cX6_tearUnfinished 20 = .ok (.invokevirtual 178, 3) := by decide +kernel
theorem dX6_tearUnfinished_23 : decode cX6_tearUnfinished 23 = .ok (.invokevirtual 255, 3) := by decide +kernel
theorem dX6_tearUnfinished_26 : decode cX6_tearUnfinished 26 = .ok (.aload_n 0, 1) := by decide +kernel
theorem dX6_tearUnfinished_27 : decode cX6_tearUnfinished 27 = .ok (.getfield 38, 3) := by decide +kernel
theorem dX6_tearUnfinished_30 : decode cX6_tearUnfinished 30 = .ok (.invokevirtual 258, 3) := by decide +kernel
theorem dX6_tearUnfinished_33 : decode cX6_tearUnfinished 33 = .ok (.ifCond .eq 17, 3) := by decide +kernel
theorem dX6_tearUnfinished_36 : decode cX6_tearUnfinished 36 = .ok (.aload_n 0, 1) := by decide +kernel
theorem dX6_tearUnfinished_37 : decode cX6_tearUnfinished 37 = .ok (.getfield 10, 3) := by decide +kernel
theorem dX6_tearUnfinished_40 : decode cX6_tearUnfinished 40 = .ok (.aload_n 0, 1) := by decide +kernel
theorem dX6_tearUnfinished_41 : decode cX6_tearUnfinished 41 = .ok (.getfield 38, 3) := by decide +kernel
theorem dX6_tearUnfinished_44 : decode cX6_tearUnfinished 44 = .ok (.invokevirtual 261, 3) := by decide +kernel
theorem dX6_tearUnfinished_47 : decode cX6_tearUnfinished 47 = .ok (.invokevirtual 264, 3) := by decide +kernel
theorem dX6_tearUnfinished_50 : decode cX6_tearUnfinished 50 = .ok (.return_, 1) := by decide +kernel
theorem dX6_note_0 : decode cX6_note 0 = .ok (.aload_n 0, 1) := by decide +kernel
theorem dX6_note_1 : decode cX6_note 1 = .ok (.dup, 1) := by decide +kernel
theorem dX6_note_2 : decode cX6_note 2 = .ok (.getfield 201, 3) := by decide +kernel
theorem dX6_note_5 : decode cX6_note 5 = .ok (.iload_n 1, 1) := by decide +kernel
theorem dX6_note_6 : decode cX6_note 6 = .ok (.ior, 1) := by decide +kernel
theorem dX6_note_7 : decode cX6_note 7 = .ok (.putfield 201, 3) := by decide +kernel
theorem dX6_note_10 : decode cX6_note 10 = .ok (.return_, 1) := by decide +kernel
set_option maxRecDepth 20000 in
theorem ggX6_refuse_X6_note : GoodIn wsX6_refuse wsX6_note := goodIn_r _ [5, 6, 7, 8, 9, 10, 11, 12, 13, 14, 15, 16, 17, 18, 19, 20, 21, 22, 23] (by decide +kernel) (by decide +kernel)
set_option maxRecDepth 20000 in
theorem gX6_refuse_X6_note : GoodIn wsX6_refuse (wsV RX6 135 RX6 yX6_note wsX6_note) := goodIn_app (goodIn_of _ (by decide +kernel)) ggX6_refuse_X6_note
theorem dX6_refuse_0 : decode cX6_refuse 0 = .ok (.aload_n 0, 1) := by decide +kernel
theorem dX6_refuse_1 : decode cX6_refuse 1 = .ok (.iload_n 1, 1) := by decide +kernel
theorem dX6_refuse_2 : decode cX6_refuse 2 = .ok (.invokevirtual 135, 3) := by decide +kernel
theorem dX6_refuse_5 : decode cX6_refuse 5 = .ok (.bipush (-2), 2) := by decide +kernel
theorem dX6_refuse_7 : decode cX6_refuse 7 = .ok (.ireturn, 1) := by decide +kernel
set_option maxRecDepth 20000 in
theorem ggX6_hears_X6_isPowered : GoodIn wsX6_hears wsX6_isPowered := goodIn_r _ [6, 7, 43, 44, 45, 46, 47, 48, 49, 50, 51, 52, 53, 54, 55, 56, 57, 58, 59] (by decide +kernel) (by decide +kernel)
set_option maxRecDepth 20000 in
theorem gX6_hears_X6_isPowered : GoodIn wsX6_hears (wsV RX6 65 RX6 yX6_isPowered wsX6_isPowered) := goodIn_app (goodIn_of _ (by decide +kernel)) ggX6_hears_X6_isPowered
set_option maxRecDepth 20000 in
theorem ggX6_hears_X6_commandCheck : GoodIn wsX6_hears wsX6_commandCheck := goodIn_r _ [10, 11, 12, 13, 5, 14] (by decide +kernel) (by decide +kernel)
set_option maxRecDepth 20000 in
theorem gX6_hears_X6_commandCheck : GoodIn wsX6_hears (va_wsS RX6 97 yX6_commandCheck wsX6_commandCheck) := goodIn_app (goodIn_of _ (by decide +kernel)) ggX6_hears_X6_commandCheck
set_option maxRecDepth 20000 in
theorem ggX6_hears_X6_note : GoodIn wsX6_hears wsX6_note := goodIn_r _ [18, 19, 43, 44, 45, 46, 47, 48, 49, 50, 51, 52, 53, 54, 55, 56, 57, 58, 59] (by decide +kernel) (by decide +kernel)
set_option maxRecDepth 20000 in
theorem gX6_hears_X6_note : GoodIn wsX6_hears (wsV RX6 135 RX6 yX6_note wsX6_note) := goodIn_app (goodIn_of _ (by decide +kernel)) ggX6_hears_X6_note
set_option maxRecDepth 20000 in
theorem ggX6_hears_X6_isOpenTo : GoodIn wsX6_hears wsX6_isOpenTo := goodIn_r _ [23, 24, 7, 25, 26, 5, 27, 28, 29, 30, 43, 44, 45, 46, 47, 48, 49, 50, 51, 52, 53, 54, 55, 56, 57, 58, 59] (by decide +kernel) (by decide +kernel)
set_option maxRecDepth 20000 in
theorem gX6_hears_X6_isOpenTo : GoodIn wsX6_hears (wsV RX6 267 RX6 yX6_isOpenTo wsX6_isOpenTo) := goodIn_app (goodIn_of _ (by decide +kernel)) ggX6_hears_X6_isOpenTo
set_option maxRecDepth 20000 in
theorem ggX6_hears_X0_isBrokenOffBy : GoodIn wsX6_hears wsX0_isBrokenOffBy := goodIn_r _ [35, 36, 60, 61, 62, 63, 64, 65] (by decide +kernel) (by decide +kernel)
set_option maxRecDepth 20000 in
theorem gX6_hears_X0_isBrokenOffBy : GoodIn wsX6_hears (wsV RX6 270 RX0 yX0_isBrokenOffBy wsX0_isBrokenOffBy) := goodIn_app (goodIn_of _ (by decide +kernel)) ggX6_hears_X0_isBrokenOffBy
set_option maxRecDepth 20000 in
theorem ggX6_hears_X0_forget : GoodIn wsX6_hears wsX0_forget := goodIn_r _ [40, 36, 41, 42, 60, 61, 62, 63, 64, 65] (by decide +kernel) (by decide +kernel)
set_option maxRecDepth 20000 in
theorem gX6_hears_X0_forget : GoodIn wsX6_hears (wsV RX6 273 RX0 yX0_forget wsX0_forget) := goodIn_app (goodIn_of _ (by decide +kernel)) ggX6_hears_X0_forget
theorem dX6_hears_0 : decode cX6_hears 0 = .ok (.aload_n 0, 1) := by decide +kernel
theorem dX6_hears_1 : decode cX6_hears 1 = .ok (.invokevirtual 65, 3) := by decide +kernel
theorem dX6_hears_4 : decode cX6_hears 4 = .ok (.ifCond .ne 5, 3) := by decide +kernel
theorem dX6_hears_7 : decode cX6_hears 7 = .ok (.iconst 0, 1) := by decide +kernel
theorem dX6_hears_8 : decode cX6_hears 8 = .ok (.ireturn, 1) := by decide +kernel
theorem dX6_hears_9 : decode cX6_hears 9 = .ok (.iload_n 3, 1) := by decide +kernel
theorem dX6_hears_10 : decode cX6_hears 10 = .ok (.iload_n 1, 1) := by decide +kernel
theorem dX6_hears_11 : decode cX6_hears 11 = .ok (.iload_n 2, 1) := by decide +kernel
theorem dX6_hears_12 : decode cX6_hears 12 = .ok (.invokestatic 97, 3) := by decide +kernel
theorem dX6_hears_15 : decode cX6_hears 15 = .ok (.if_icmp .eq 10, 3) := by decide +kernel
theorem dX6_hears_18 : decode cX6_hears 18 = .ok (.aload_n 0, 1) := by decide +kernel
theorem dX6_hears_19 : decode cX6_hears 19 = .ok (.iconst 1, 1) := by decide +kernel
theorem dX6_hears_20 : decode cX6_hears 20 = .ok (.invokevirtual 135, 3) := by decide +kernel
theorem dX6_hears_23 : decode cX6_hears 23 = .ok (.iconst 0, 1) := by decide +kernel
theorem dX6_hears_24 : decode cX6_hears 24 = .ok (.ireturn, 1) := by decide +kernel
theorem dX6_hears_25 : decode cX6_hears 25 = .ok (.aload_n 0, 1) := by decide +kernel
theorem dX6_hears_26 : decode cX6_hears 26 = .ok (.iload_n 1, 1) := by decide +kernel
theorem dX6_hears_27 : decode cX6_hears 27 = .ok (.invokevirtual 267, 3) := by decide +kernel
theorem dX6_hears_30 : decode cX6_hears 30 = .ok (.ifCond .ne 10, 3) := by decide +kernel
theorem dX6_hears_33 : decode cX6_hears 33 = .ok (.aload_n 0, 1) := by decide +kernel
theorem dX6_hears_34 : decode cX6_hears 34 = .ok (.iconst 2, 1) := by decide +kernel
theorem dX6_hears_35 : decode cX6_hears 35 = .ok (.invokevirtual 135, 3) := by decide +kernel
theorem dX6_hears_38 : decode cX6_hears 38 = .ok (.iconst 0, 1) := by decide +kernel
theorem dX6_hears_39 : decode cX6_hears 39 = .ok (.ireturn, 1) := by decide +kernel
theorem dX6_hears_40 : decode cX6_hears 40 = .ok (.aload_n 0, 1) := by decide +kernel
theorem dX6_hears_41 : decode cX6_hears 41 = .ok (.getfield 38, 3) := by decide +kernel
theorem dX6_hears_44 : decode cX6_hears 44 = .ok (.iload_n 1, 1) := by decide +kernel
theorem dX6_hears_45 : decode cX6_hears 45 = .ok (.invokevirtual 270, 3) := by decide +kernel
theorem dX6_hears_48 : decode cX6_hears 48 = .ok (.ifCond .eq 16, 3) := by decide +kernel
theorem dX6_hears_51 : decode cX6_hears 51 = .ok (.aload_n 0, 1) := by decide +kernel
theorem dX6_hears_52 : decode cX6_hears 52 = .ok (.getfield 38, 3) := by decide +kernel
theorem dX6_hears_55 : decode cX6_hears 55 = .ok (.invokevirtual 273, 3) := by decide +kernel
theorem dX6_hears_58 : decode cX6_hears 58 = .ok (.aload_n 0, 1) := by decide +kernel
theorem dX6_hears_59 : decode cX6_hears 59 = .ok (.bipush 8, 2) := by decide +kernel
theorem dX6_hears_61 : decode cX6_hears 61 = .ok (.invokevirtual 135, 3) := by decide +kernel
theorem dX6_hears_64 : decode cX6_hears 64 = .ok (.iconst 1, 1) := by decide +kernel
theorem dX6_hears_65 : decode cX6_hears 65 = .ok (.ireturn, 1) := by decide +kernel
set_option maxRecDepth 20000 in
theorem ggX6_isOpenTo_X6_isBarredByLock : GoodIn wsX6_isOpenTo wsX6_isBarredByLock := goodIn_r _ [6] (by decide +kernel) (by decide +kernel)
set_option maxRecDepth 20000 in
theorem gX6_isOpenTo_X6_isBarredByLock : GoodIn wsX6_isOpenTo (va_wsS RX6 229 yX6_isBarredByLock wsX6_isBarredByLock) := goodIn_app (goodIn_of _ (by decide +kernel)) ggX6_isOpenTo_X6_isBarredByLock
set_option maxRecDepth 20000 in
theorem ggX6_isOpenTo_X6_statesOf : GoodIn wsX6_isOpenTo wsX6_statesOf := goodIn_r _ [9, 3, 4, 5, 6] (by decide +kernel) (by decide +kernel)
set_option maxRecDepth 20000 in
theorem gX6_isOpenTo_X6_statesOf : GoodIn wsX6_isOpenTo (va_wsS RX6 276 yX6_statesOf wsX6_statesOf) := goodIn_app (goodIn_of _ (by decide +kernel)) ggX6_isOpenTo_X6_statesOf
theorem dX6_isOpenTo_0 : decode cX6_isOpenTo 0 = .ok (.aload_n 0, 1) := by decide +kernel
theorem dX6_isOpenTo_1 : decode cX6_isOpenTo 1 = .ok (.getfield 197, 3) := by decide +kernel
theorem dX6_isOpenTo_4 : decode cX6_isOpenTo 4 = .ok (.ifCond .eq 12, 3) := by decide +kernel
theorem dX6_isOpenTo_7 : decode cX6_isOpenTo 7 = .ok (.iload_n 1, 1) := by decide +kernel
theorem dX6_isOpenTo_8 : decode cX6_isOpenTo 8 = .ok (.invokestatic 229, 3) := by decide +kernel
theorem dX6_isOpenTo_11 : decode cX6_isOpenTo 11 = .ok (.ifCond .eq 5, 3) := by decide +kernel
theorem dX6_isOpenTo_14 : decode cX6_isOpenTo 14 = .ok (.iconst 0, 1) := by decide +kernel
theorem dX6_isOpenTo_15 : decode cX6_isOpenTo 15 = .ok (.ireturn, 1) := by decide +kernel
theorem dX6_isOpenTo_16 : decode cX6_isOpenTo 16 = .ok (.iload_n 1, 1) := by decide +kernel
theorem dX6_isOpenTo_17 : decode cX6_isOpenTo 17 = .ok (.invokestatic 276, 3) := by decide +kernel
theorem dX6_isOpenTo_20 : decode cX6_isOpenTo 20 = .ok (.aload_n 0, 1) := by decide +kernel
theorem dX6_isOpenTo_21 : decode cX6_isOpenTo 21 = .ok (.getfield 111, 3) := by decide +kernel
theorem dX6_isOpenTo_24 : decode cX6_isOpenTo 24 = .ok (.ishr, 1) := by decide +kernel
theorem dX6_isOpenTo_25 : decode cX6_isOpenTo 25 = .ok (.iconst 1, 1) := by decide +kernel
theorem dX6_isOpenTo_26 : decode cX6_isOpenTo 26 = .ok (.iand, 1) := by decide +kernel
theorem dX6_isOpenTo_27 : decode cX6_isOpenTo 27 = .ok (.iconst 1, 1) := by decide +kernel
theorem dX6_isOpenTo_28 : decode cX6_isOpenTo 28 = .ok (.if_icmp .ne 7, 3) := by decide +kernel
theorem dX6_isOpenTo_31 : decode cX6_isOpenTo 31 = .ok (.iconst 1, 1) := by decide +kernel
theorem dX6_isOpenTo_32 : decode cX6_isOpenTo 32 = .ok (.goto 4, 3) := by decide +kernel
theorem dX6_isOpenTo_35 : decode cX6_isOpenTo 35 = .ok (.iconst 0, 1) := by decide +kernel
theorem dX6_isOpenTo_36 : decode cX6_isOpenTo 36 = .ok (.ireturn, 1) := by decide +kernel
set_option maxRecDepth 20000 in
theorem ggX6_obey_X6_reset : GoodIn wsX6_obey wsX6_reset := goodIn_r _ [6, 7, 8, 9, 5, 10, 11, 12, 13, 14, 15, 16, 17, 18, 19, 20, 21, 22, 23, 24, 25, 26, 27, 28, 29, 30, 31, 32, 33, 34, 35, 36, 37, 38, 39, 40, 41, 42, 43, 44, 45, 46, 47, 48, 49, 50, 51, 52, 53, 54, 55, 56, 57, 58, 59, 60, 61, 62, 63, 64, 65, 66, 67, 68, 69, 70, 71, 72, 73, 74, 75, 76, 77, 78, 79, 80, 81, 82, 83, 84, 85, 86, 87, 88, 89, 90, 91, 92, 93, 94, 95, 96, 97, 98, 99, 100, 101, 102, 103, 104, 105, 106, 107, 108, 109, 110, 111, 112, 113, 114, 115, 116, 117, 118, 119, 120, 121, 122, 123, 124, 327, 328, 329, 330, 331, 332, 333, 334, 335, 336, 337, 338, 339, 340, 341, 342, 343, 344, 345, 346, 347, 348, 349, 350, 351, 352, 353, 354, 355, 356, 357, 358, 359, 360, 361, 362, 363, 364, 365, 366, 367, 368, 369] (by decide +kernel) (by decide +kernel)
set_option maxRecDepth 20000 in
theorem gX6_obey_X6_reset : GoodIn wsX6_obey (wsV RX6 279 RX6 yX6_reset wsX6_reset) := goodIn_app (goodIn_of _ (by decide +kernel)) ggX6_obey_X6_reset
set_option maxRecDepth 20000 in
theorem ggX6_obey_X6_wake : GoodIn wsX6_obey wsX6_wake := goodIn_r _ [128, 83, 129, 74, 327, 328, 329, 330, 331, 332, 333, 334, 335, 336, 337, 338, 339, 340, 341, 342, 343] (by decide +kernel) (by decide +kernel)
set_option maxRecDepth 20000 in
theorem gX6_obey_X6_wake : GoodIn wsX6_obey (wsV RX6 282 RX6 yX6_wake wsX6_wake) := goodIn_app (goodIn_of _ (by decide +kernel)) ggX6_obey_X6_wake
set_option maxRecDepth 20000 in
theorem ggX6_obey_X6_tellNumber : GoodIn wsX6_obey wsX6_tellNumber := goodIn_r _ [133, 74, 134, 327, 328, 329, 330, 331, 332, 333, 334, 335, 336, 337, 338, 339, 340, 341, 342, 343] (by decide +kernel) (by decide +kernel)
set_option maxRecDepth 20000 in
theorem gX6_obey_X6_tellNumber : GoodIn wsX6_obey (wsV RX6 285 RX6 yX6_tellNumber wsX6_tellNumber) := goodIn_app (goodIn_of _ (by decide +kernel)) ggX6_obey_X6_tellNumber
set_option maxRecDepth 20000 in
theorem ggX6_obey_X6_takeAddress : GoodIn wsX6_obey wsX6_takeAddress := goodIn_r _ [138, 81, 74, 327, 328, 329, 330, 331, 332, 333, 334, 335, 336, 337, 338, 339, 340, 341, 342, 343] (by decide +kernel) (by decide +kernel)
set_option maxRecDepth 20000 in
theorem gX6_obey_X6_takeAddress : GoodIn wsX6_obey (wsV RX6 288 RX6 yX6_takeAddress wsX6_takeAddress) := goodIn_app (goodIn_of _ (by decide +kernel)) ggX6_obey_X6_takeAddress
set_option maxRecDepth 20000 in
theorem ggX6_obey_X6_choose : GoodIn wsX6_obey wsX6_choose := goodIn_r _ [142, 81, 74, 327, 328, 329, 330, 331, 332, 333, 334, 335, 336, 337, 338, 339, 340, 341, 342, 343] (by decide +kernel) (by decide +kernel)
set_option maxRecDepth 20000 in
theorem gX6_obey_X6_choose : GoodIn wsX6_obey (wsV RX6 291 RX6 yX6_choose wsX6_choose) := goodIn_app (goodIn_of _ (by decide +kernel)) ggX6_obey_X6_choose
set_option maxRecDepth 20000 in
theorem ggX6_obey_X6_tellStatus : GoodIn wsX6_obey wsX6_tellStatus := goodIn_r _ [146, 81, 74, 76, 82, 147, 148, 5, 149, 327, 328, 329, 330, 331, 332, 333, 334, 335, 336, 337, 338, 339, 340, 341, 342, 343] (by decide +kernel) (by decide +kernel)
set_option maxRecDepth 20000 in
theorem gX6_obey_X6_tellStatus : GoodIn wsX6_obey (wsV RX6 294 RX6 yX6_tellStatus wsX6_tellStatus) := goodIn_app (goodIn_of _ (by decide +kernel)) ggX6_obey_X6_tellStatus
set_option maxRecDepth 20000 in
theorem ggX6_obey_X6_switchLines : GoodIn wsX6_obey wsX6_switchLines := goodIn_r _ [153, 84, 154, 155, 156, 89, 157, 92, 91, 158, 159, 160, 5, 161, 82, 162, 163, 164, 165, 166, 167, 168, 169, 327, 328, 329, 330, 331, 332, 333, 334, 335, 336, 337, 338, 339, 340, 341, 342, 343, 360, 361, 362] (by decide +kernel) (by decide +kernel)
set_option maxRecDepth 20000 in
theorem gX6_obey_X6_switchLines : GoodIn wsX6_obey (wsV RX6 297 RX6 yX6_switchLines wsX6_switchLines) := goodIn_app (goodIn_of _ (by decide +kernel)) ggX6_obey_X6_switchLines
set_option maxRecDepth 20000 in
theorem ggX6_obey_X6_movePoint : GoodIn wsX6_obey wsX6_movePoint := goodIn_r _ [173, 84, 174, 175, 176, 177, 89, 178, 93, 179, 180, 181, 182, 92, 183, 38, 39, 40, 184, 185, 186, 187, 147, 148, 5, 149, 327, 328, 329, 330, 331, 332, 333, 334, 335, 336, 337, 338, 339, 340, 341, 342, 343, 360, 361, 362] (by decide +kernel) (by decide +kernel)
set_option maxRecDepth 20000 in
theorem gX6_obey_X6_movePoint : GoodIn wsX6_obey (wsV RX6 300 RX6 yX6_movePoint wsX6_movePoint) := goodIn_app (goodIn_of _ (by decide +kernel)) ggX6_obey_X6_movePoint
set_option maxRecDepth 20000 in
theorem ggX6_obey_X6_expect : GoodIn wsX6_obey wsX6_expect := goodIn_r _ [191, 85, 192, 193, 194, 112, 195, 114, 327, 328, 329, 330, 331, 332, 333, 334, 335, 336, 337, 338, 339, 340, 341, 342, 343, 363, 364, 365, 366, 367] (by decide +kernel) (by decide +kernel)
set_option maxRecDepth 20000 in
theorem gX6_obey_X6_expect : GoodIn wsX6_obey (wsV RX6 303 RX6 yX6_expect wsX6_expect) := goodIn_app (goodIn_of _ (by decide +kernel)) ggX6_obey_X6_expect
set_option maxRecDepth 20000 in
theorem ggX6_obey_X6_beginStream : GoodIn wsX6_obey wsX6_beginStream := goodIn_r _ [199, 12, 85, 74, 1, 200, 201, 202, 30, 203, 36, 204, 205, 206, 5, 207, 158, 159, 160, 161, 82, 208, 209, 210, 112, 211, 115, 114, 116, 117, 118, 327, 328, 329, 330, 331, 332, 333, 334, 335, 336, 337, 338, 339, 340, 341, 342, 343, 348, 349, 350, 351, 352, 353, 363, 364, 365, 366, 367] (by decide +kernel) (by decide +kernel)
set_option maxRecDepth 20000 in
theorem gX6_obey_X6_beginStream : GoodIn wsX6_obey (wsV RX6 306 RX6 yX6_beginStream wsX6_beginStream) := goodIn_app (goodIn_of _ (by decide +kernel)) ggX6_obey_X6_beginStream
set_option maxRecDepth 20000 in
theorem ggX6_obey_X6_stop : GoodIn wsX6_obey wsX6_stop := goodIn_r _ [215, 11, 74, 216, 217, 218, 17, 219, 19, 327, 328, 329, 330, 331, 332, 333, 334, 335, 336, 337, 338, 339, 340, 341, 342, 343, 344, 345, 346, 347] (by decide +kernel) (by decide +kernel)
set_option maxRecDepth 20000 in
theorem gX6_obey_X6_stop : GoodIn wsX6_obey (wsV RX6 310 RX6 yX6_stop wsX6_stop) := goodIn_app (goodIn_of _ (by decide +kernel)) ggX6_obey_X6_stop
set_option maxRecDepth 20000 in
theorem ggX6_obey_X6_eraseFrom : GoodIn wsX6_obey wsX6_eraseFrom := goodIn_r _ [223, 12, 13, 200, 201, 202, 30, 203, 36, 204, 205, 206, 5, 207, 158, 159, 160, 161, 82, 224, 225, 226, 56, 227, 106, 107, 327, 328, 329, 330, 331, 332, 333, 334, 335, 336, 337, 338, 339, 340, 341, 342, 343, 348, 349, 350, 351, 352, 353, 354, 355, 356, 357, 358, 359] (by decide +kernel) (by decide +kernel)
set_option maxRecDepth 20000 in
theorem gX6_obey_X6_eraseFrom : GoodIn wsX6_obey (wsV RX6 313 RX6 yX6_eraseFrom wsX6_eraseFrom) := goodIn_app (goodIn_of _ (by decide +kernel)) ggX6_obey_X6_eraseFrom
set_option maxRecDepth 20000 in
theorem ggX6_obey_X6_eraseTo : GoodIn wsX6_obey wsX6_eraseTo := goodIn_r _ [231, 12, 13, 200, 201, 202, 30, 203, 36, 232, 103, 104, 56, 105, 106, 107, 108, 204, 205, 206, 5, 207, 158, 159, 160, 161, 82, 233, 234, 235, 236, 327, 328, 329, 330, 331, 332, 333, 334, 335, 336, 337, 338, 339, 340, 341, 342, 343, 348, 349, 350, 351, 352, 353, 354, 355, 356, 357, 358, 359] (by decide +kernel) (by decide +kernel)
set_option maxRecDepth 20000 in
theorem gX6_obey_X6_eraseTo : GoodIn wsX6_obey (wsV RX6 316 RX6 yX6_eraseTo wsX6_eraseTo) := goodIn_app (goodIn_of _ (by decide +kernel)) ggX6_obey_X6_eraseTo
set_option maxRecDepth 20000 in
theorem ggX6_obey_X6_erase : GoodIn wsX6_obey wsX6_erase := goodIn_r _ [240, 13, 12, 241, 242, 243, 56, 244, 106, 204, 205, 206, 5, 207, 158, 159, 160, 161, 82, 245, 246, 247, 248, 107, 249, 250, 251, 30, 252, 69, 253, 254, 255, 256, 108, 257, 258, 259, 260, 74, 261, 262, 263, 264, 64, 58, 59, 102, 103, 104, 105, 265, 266, 267, 268, 327, 328, 329, 330, 331, 332, 333, 334, 335, 336, 337, 338, 339, 340, 341, 342, 343, 354, 355, 356, 357, 358, 359, 348, 349, 350, 351, 352, 353] (by decide +kernel) (by decide +kernel)
set_option maxRecDepth 20000 in
theorem gX6_obey_X6_erase : GoodIn wsX6_obey (wsV RX6 319 RX6 yX6_erase wsX6_erase) := goodIn_app (goodIn_of _ (by decide +kernel)) ggX6_obey_X6_erase
set_option maxRecDepth 20000 in
theorem ggX6_obey_X6_changeLock : GoodIn wsX6_obey wsX6_changeLock := goodIn_r _ [272, 273, 274, 275, 5, 276, 76, 277, 278, 279, 280, 75, 281, 119, 120, 121, 122, 123, 124, 282, 283, 284, 285, 286, 287, 288, 289, 290, 204, 205, 206, 207, 158, 159, 160, 161, 82, 291, 292, 293, 294, 295, 296, 297, 298, 299, 300, 301, 302, 303, 304, 305, 306, 307, 308, 309, 310, 311, 312, 313, 314, 315, 316, 317, 318, 319, 320, 321, 322, 12, 323, 324, 325, 30, 326, 36, 249, 250, 251, 252, 69, 257, 258, 259, 260, 13, 74, 261, 262, 263, 56, 264, 64, 58, 59, 102, 103, 104, 105, 106, 107, 108, 265, 266, 267, 268, 327, 328, 329, 330, 331, 332, 333, 334, 335, 336, 337, 338, 339, 340, 341, 342, 343, 368, 369, 348, 349, 350, 351, 352, 353, 354, 355, 356, 357, 358, 359] (by decide +kernel) (by decide +kernel)
set_option maxRecDepth 20000 in
theorem gX6_obey_X6_changeLock : GoodIn wsX6_obey (wsV RX6 322 RX6 yX6_changeLock wsX6_changeLock) := goodIn_app (goodIn_of _ (by decide +kernel)) ggX6_obey_X6_changeLock
theorem dX6_obey_0 : decode cX6_obey 0 = .ok (.iload_n 1, 1) := by decide +kernel
theorem dX6_obey_1 : decode cX6_obey 1 = .ok (.tableswitch 304 0 42 #[187, 192, 197, 202, 304, 304, 219, 207, 304, 304, 304, 304, 271, 213, 304, 304, 304, 237, 245, 304, 304, 225, 276, 231, 253, 262, 304, 304, 304, 304, 304, 304, 281, 287, 304, 304, 304, 304, 293, 304, 304, 304, 298], 187) := by decide +kernel
theorem dX6_obey_188 : decode cX6_obey 188 = .ok (.aload_n 0, 1) := by decide +kernel
theorem dX6_obey_189 : decode cX6_obey 189 = .ok (.invokevirtual 279, 3) := by decide +kernel
theorem dX6_obey_192 : decode cX6_obey 192 = .ok (.ireturn, 1) := by decide +kernel
theorem dX6_obey_193 : decode cX6_obey 193 = .ok (.aload_n 0, 1) := by decide +kernel
theorem dX6_obey_194 : decode cX6_obey 194 = .ok (.invokevirtual 282, 3) := by decide +kernel
theorem dX6_obey_197 : decode cX6_obey 197 = .ok (.ireturn, 1) := by decide +kernel
theorem dX6_obey_198 : decode cX6_obey 198 = .ok (.aload_n 0, 1) := by decide +kernel
theorem dX6_obey_199 : decode cX6_obey 199 = .ok (.invokevirtual 285, 3) := by decide +kernel
theorem dX6_obey_202 : decode cX6_obey 202 = .ok (.ireturn, 1) := by decide +kernel
theorem dX6_obey_203 : decode cX6_obey 203 = .ok (.aload_n 0, 1) := by decide +kernel
theorem dX6_obey_204 : decode cX6_obey 204 = .ok (.invokevirtual 288, 3) := by decide +kernel
theorem dX6_obey_207 : decode cX6_obey 207 = .ok (.ireturn, 1) := by decide +kernel
theorem dX6_obey_208 : decode cX6_obey 208 = .ok (.aload_n 0, 1) := by decide +kernel
theorem dX6_obey_209 : decode cX6_obey 209 = .ok (.iload_n 2, 1) := by decide +kernel
theorem dX6_obey_210 : decode cX6_obey 210 = .ok (.invokevirtual 291, 3) := by decide +kernel
theorem dX6_obey_213 : decode cX6_obey 213 = .ok (.ireturn, 1) := by decide +kernel
theorem dX6_obey_214 : decode cX6_obey 214 = .ok (.aload_n 0, 1) := by decide +kernel
theorem dX6_obey_215 : decode cX6_obey 215 = .ok (.iload_n 2, 1) := by decide +kernel
theorem dX6_obey_216 : decode cX6_obey 216 = .ok (.invokevirtual 294, 3) := by decide +kernel
theorem dX6_obey_219 : decode cX6_obey 219 = .ok (.ireturn, 1) := by decide +kernel
theorem dX6_obey_220 : decode cX6_obey 220 = .ok (.aload_n 0, 1) := by decide +kernel
theorem dX6_obey_221 : decode cX6_obey 221 = .ok (.iload_n 2, 1) := by decide +kernel
theorem dX6_obey_222 : decode cX6_obey 222 = .ok (.invokevirtual 297, 3) := by decide +kernel
theorem dX6_obey_225 : decode cX6_obey 225 = .ok (.ireturn, 1) := by decide +kernel
theorem dX6_obey_226 : decode cX6_obey 226 = .ok (.aload_n 0, 1) := by decide +kernel
theorem dX6_obey_227 : decode cX6_obey 227 = .ok (.iload_n 2, 1) := by decide +kernel
theorem dX6_obey_228 : decode cX6_obey 228 = .ok (.invokevirtual 300, 3) := by decide +kernel
theorem dX6_obey_231 : decode cX6_obey 231 = .ok (.ireturn, 1) := by decide +kernel
theorem dX6_obey_232 : decode cX6_obey 232 = .ok (.aload_n 0, 1) := by decide +kernel
theorem dX6_obey_233 : decode cX6_obey 233 = .ok (.iload_n 2, 1) := by decide +kernel
theorem dX6_obey_234 : decode cX6_obey 234 = .ok (.invokevirtual 303, 3) := by decide +kernel
theorem dX6_obey_237 : decode cX6_obey 237 = .ok (.ireturn, 1) := by decide +kernel
theorem dX6_obey_238 : decode cX6_obey 238 = .ok (.aload_n 0, 1) := by decide +kernel
theorem dX6_obey_239 : decode cX6_obey 239 = .ok (.iconst 5, 1) := by decide +kernel
theorem dX6_obey_240 : decode cX6_obey 240 = .ok (.iload_n 2, 1) := by decide +kernel
theorem dX6_obey_241 : decode cX6_obey 241 = .ok (.iconst 1, 1) := by decide +kernel
theorem dX6_obey_242 : decode cX6_obey 242 = .ok (.invokevirtual 306, 3) := by decide +kernel
theorem dX6_obey_245 : decode cX6_obey 245 = .ok (.ireturn, 1) := by decide +kernel
theorem dX6_obey_246 : decode cX6_obey 246 = .ok (.aload_n 0, 1) := by decide +kernel
theorem dX6_obey_247 : decode cX6_obey 247 = .ok (.iconst 5, 1) := by decide +kernel
theorem dX6_obey_248 : decode cX6_obey 248 = .ok (.iload_n 2, 1) := by decide +kernel
theorem dX6_obey_249 : decode cX6_obey 249 = .ok (.iconst 0, 1) := by decide +kernel
theorem dX6_obey_250 : decode cX6_obey 250 = .ok (.invokevirtual 306, 3) := by decide +kernel
theorem dX6_obey_253 : decode cX6_obey 253 = .ok (.ireturn, 1) := by decide +kernel
theorem dX6_obey_254 : decode cX6_obey 254 = .ok (.aload_n 0, 1) := by decide +kernel
theorem dX6_obey_255 : decode cX6_obey 255 = .ok (.bipush 6, 2) := by decide +kernel
theorem dX6_obey_257 : decode cX6_obey 257 = .ok (.iload_n 2, 1) := by decide +kernel
theorem dX6_obey_258 : decode cX6_obey 258 = .ok (.iconst 1, 1) := by decide +kernel
theorem dX6_obey_259 : decode cX6_obey 259 = .ok (.invokevirtual 306, 3) := by decide +kernel
theorem dX6_obey_262 : decode cX6_obey 262 = .ok (.ireturn, 1) := by decide +kernel
theorem dX6_obey_263 : decode cX6_obey 263 = .ok (.aload_n 0, 1) := by decide +kernel
theorem dX6_obey_264 : decode cX6_obey 264 = .ok (.bipush 6, 2) := by decide +kernel
theorem dX6_obey_266 : decode cX6_obey 266 = .ok (.iload_n 2, 1) := by decide +kernel
theorem dX6_obey_267 : decode cX6_obey 267 = .ok (.iconst 0, 1) := by decide +kernel
theorem dX6_obey_268 : decode cX6_obey 268 = .ok (.invokevirtual 306, 3) := by decide +kernel
theorem dX6_obey_271 : decode cX6_obey 271 = .ok (.ireturn, 1) := by decide +kernel
theorem dX6_obey_272 : decode cX6_obey 272 = .ok (.aload_n 0, 1) := by decide +kernel
theorem dX6_obey_273 : decode cX6_obey 273 = .ok (.invokevirtual 310, 3) := by decide +kernel
theorem dX6_obey_276 : decode cX6_obey 276 = .ok (.ireturn, 1) := by decide +kernel
theorem dX6_obey_277 : decode cX6_obey 277 = .ok (.aload_n 0, 1) := by decide +kernel
theorem dX6_obey_278 : decode cX6_obey 278 = .ok (.getfield 204, 3) := by decide +kernel
theorem dX6_obey_281 : decode cX6_obey 281 = .ok (.ireturn, 1) := by decide +kernel
theorem dX6_obey_282 : decode cX6_obey 282 = .ok (.aload_n 0, 1) := by decide +kernel
theorem dX6_obey_283 : decode cX6_obey 283 = .ok (.iload_n 2, 1) := by decide +kernel
theorem dX6_obey_284 : decode cX6_obey 284 = .ok (.invokevirtual 313, 3) := by decide +kernel
theorem dX6_obey_287 : decode cX6_obey 287 = .ok (.ireturn, 1) := by decide +kernel
theorem dX6_obey_288 : decode cX6_obey 288 = .ok (.aload_n 0, 1) := by decide +kernel
theorem dX6_obey_289 : decode cX6_obey 289 = .ok (.iload_n 2, 1) := by decide +kernel
theorem dX6_obey_290 : decode cX6_obey 290 = .ok (.invokevirtual 316, 3) := by decide +kernel
theorem dX6_obey_293 : decode cX6_obey 293 = .ok (.ireturn, 1) := by decide +kernel
theorem dX6_obey_294 : decode cX6_obey 294 = .ok (.aload_n 0, 1) := by decide +kernel
theorem dX6_obey_295 : decode cX6_obey 295 = .ok (.invokevirtual 319, 3) := by decide +kernel
theorem dX6_obey_298 : decode cX6_obey 298 = .ok (.ireturn, 1) := by decide +kernel
theorem dX6_obey_299 : decode cX6_obey 299 = .ok (.aload_n 0, 1) := by decide +kernel
theorem dX6_obey_300 : decode cX6_obey 300 = .ok (.iload_n 2, 1) := by decide +kernel
theorem dX6_obey_301 : decode cX6_obey 301 = .ok (.invokevirtual 322, 3) := by decide +kernel
theorem dX6_obey_304 : decode cX6_obey 304 = .ok (.ireturn, 1) := by decide +kernel
theorem dX6_obey_305 : decode cX6_obey 305 = .ok (.bipush (-4), 2) := by decide +kernel
theorem dX6_obey_307 : decode cX6_obey 307 = .ok (.ireturn, 1) := by decide +kernel
set_option maxRecDepth 20000 in
theorem ggX6_reset_X6_tearUnfinished : GoodIn wsX6_reset wsX6_tearUnfinished := goodIn_r _ [5, 6, 7, 8, 9, 10, 11, 12, 13, 14, 15, 16, 17, 18, 19, 20, 21, 22, 23, 24, 25, 26, 27, 28, 29, 30, 31, 32, 33, 34, 35, 36, 37, 38, 39, 40, 41, 42, 43, 44, 45, 46, 47, 48, 49, 50, 51, 52, 53, 54, 55, 56, 57, 58, 59, 60, 61, 62, 63, 64, 120, 121, 122, 123, 124, 125, 126, 127, 128, 129, 130, 131, 132, 133, 134, 135, 136, 137, 138, 139, 140, 141, 142, 143, 144, 145, 146, 147, 148, 149, 150, 151, 152] (by decide +kernel) (by decide +kernel)
set_option maxRecDepth 20000 in
theorem gX6_reset_X6_tearUnfinished : GoodIn wsX6_reset (wsV RX6 72 RX6 yX6_tearUnfinished wsX6_tearUnfinished) := goodIn_app (goodIn_of _ (by decide +kernel)) ggX6_reset_X6_tearUnfinished
set_option maxRecDepth 20000 in
theorem ggX6_reset_X6_start : GoodIn wsX6_reset wsX6_start := goodIn_r _ [68, 69, 70, 71, 72, 73, 74, 4, 75, 76, 77, 78, 79, 6, 8, 80, 81, 82, 83, 84, 85, 86, 87, 88, 89, 90, 91, 12, 92, 14, 15, 93, 94, 95, 51, 96, 59, 53, 54, 97, 98, 99, 100, 101, 102, 103, 104, 105, 106, 107, 108, 109, 110, 111, 112, 113, 114, 115, 116, 117, 118, 119, 120, 121, 122, 123, 124, 125, 126, 127, 128, 129, 130, 131, 132, 133, 134, 135, 136, 153, 154, 155, 137, 138, 139, 140, 147, 148, 149, 150, 151, 152, 156, 157, 158, 159, 160, 161, 162] (by decide +kernel) (by decide +kernel)
set_option maxRecDepth 20000 in
theorem gX6_reset_X6_start : GoodIn wsX6_reset (wsV RX6 69 RX6 yX6_start wsX6_start) := goodIn_app (goodIn_of _ (by decide +kernel)) ggX6_reset_X6_start
theorem dX6_reset_0 : decode cX6_reset 0 = .ok (.aload_n 0, 1) := by decide +kernel
theorem dX6_reset_1 : decode cX6_reset 1 = .ok (.invokevirtual 72, 3) := by decide +kernel
theorem dX6_reset_4 : decode cX6_reset 4 = .ok (.aload_n 0, 1) := by decide +kernel
theorem dX6_reset_5 : decode cX6_reset 5 = .ok (.invokevirtual 69, 3) := by decide +kernel
theorem dX6_reset_8 : decode cX6_reset 8 = .ok (.iconst 0, 1) := by decide +kernel
theorem dX6_reset_9 : decode cX6_reset 9 = .ok (.ireturn, 1) := by decide +kernel
theorem dX6_wake_0 : decode cX6_wake 0 = .ok (.aload_n 0, 1) := by decide +kernel
theorem dX6_wake_1 : decode cX6_wake 1 = .ok (.dup, 1) := by decide +kernel
theorem dX6_wake_2 : decode cX6_wake 2 = .ok (.getfield 244, 3) := by decide +kernel
theorem dX6_wake_5 : decode cX6_wake 5 = .ok (.iconst 1, 1) := by decide +kernel
theorem dX6_wake_6 : decode cX6_wake 6 = .ok (.iadd, 1) := by decide +kernel
theorem dX6_wake_7 : decode cX6_wake 7 = .ok (.putfield 244, 3) := by decide +kernel
theorem dX6_wake_10 : decode cX6_wake 10 = .ok (.aload_n 0, 1) := by decide +kernel
theorem dX6_wake_11 : decode cX6_wake 11 = .ok (.getfield 244, 3) := by decide +kernel
theorem dX6_wake_14 : decode cX6_wake 14 = .ok (.aload_n 0, 1) := by decide +kernel
theorem dX6_wake_15 : decode cX6_wake 15 = .ok (.getfield 235, 3) := by decide +kernel
theorem dX6_wake_18 : decode cX6_wake 18 = .ok (.if_icmp .gt 5, 3) := by decide +kernel
theorem dX6_wake_21 : decode cX6_wake 21 = .ok (.iconst 0, 1) := by decide +kernel
theorem dX6_wake_22 : decode cX6_wake 22 = .ok (.ireturn, 1) := by decide +kernel
theorem dX6_wake_23 : decode cX6_wake 23 = .ok (.aload_n 0, 1) := by decide +kernel
theorem dX6_wake_24 : decode cX6_wake 24 = .ok (.iconst 1, 1) := by decide +kernel
theorem dX6_wake_25 : decode cX6_wake 25 = .ok (.putfield 111, 3) := by decide +kernel
theorem dX6_wake_28 : decode cX6_wake 28 = .ok (.iconst 1, 1) := by decide +kernel
theorem dX6_wake_29 : decode cX6_wake 29 = .ok (.ireturn, 1) := by decide +kernel
theorem dX6_tellNumber_0 : decode cX6_tellNumber 0 = .ok (.aload_n 0, 1) := by decide +kernel
theorem dX6_tellNumber_1 : decode cX6_tellNumber 1 = .ok (.iconst 2, 1) := by decide +kernel
theorem dX6_tellNumber_2 : decode cX6_tellNumber 2 = .ok (.putfield 111, 3) := by decide +kernel
theorem dX6_tellNumber_5 : decode cX6_tellNumber 5 = .ok (.aload_n 0, 1) := by decide +kernel
theorem dX6_tellNumber_6 : decode cX6_tellNumber 6 = .ok (.getfield 238, 3) := by decide +kernel
theorem dX6_tellNumber_9 : decode cX6_tellNumber 9 = .ok (.ireturn, 1) := by decide +kernel
theorem dX6_takeAddress_0 : decode cX6_takeAddress 0 = .ok (.aload_n 0, 1) := by decide +kernel
theorem dX6_takeAddress_1 : decode cX6_takeAddress 1 = .ok (.dup, 1) := by decide +kernel
theorem dX6_takeAddress_2 : decode cX6_takeAddress 2 = .ok (.getfield 185, 3) := by decide +kernel
theorem dX6_takeAddress_5 : decode cX6_takeAddress 5 = .ok (.iconst 1, 1) := by decide +kernel
theorem dX6_takeAddress_6 : decode cX6_takeAddress 6 = .ok (.iadd, 1) := by decide +kernel
theorem dX6_takeAddress_7 : decode cX6_takeAddress 7 = .ok (.putfield 185, 3) := by decide +kernel
theorem dX6_takeAddress_10 : decode cX6_takeAddress 10 = .ok (.aload_n 0, 1) := by decide +kernel
theorem dX6_takeAddress_11 : decode cX6_takeAddress 11 = .ok (.iconst 3, 1) := by decide +kernel
theorem dX6_takeAddress_12 : decode cX6_takeAddress 12 = .ok (.putfield 111, 3) := by decide +kernel
theorem dX6_takeAddress_15 : decode cX6_takeAddress 15 = .ok (.aload_n 0, 1) := by decide +kernel
theorem dX6_takeAddress_16 : decode cX6_takeAddress 16 = .ok (.getfield 185, 3) := by decide +kernel
theorem dX6_takeAddress_19 : decode cX6_takeAddress 19 = .ok (.ireturn, 1) := by decide +kernel
theorem dX6_choose_0 : decode cX6_choose 0 = .ok (.iload_n 1, 1) := by decide +kernel
theorem dX6_choose_1 : decode cX6_choose 1 = .ok (.aload_n 0, 1) := by decide +kernel
theorem dX6_choose_2 : decode cX6_choose 2 = .ok (.getfield 185, 3) := by decide +kernel
theorem dX6_choose_5 : decode cX6_choose 5 = .ok (.if_icmp .ne 7, 3) := by decide +kernel
theorem dX6_choose_8 : decode cX6_choose 8 = .ok (.iconst 1, 1) := by decide +kernel
theorem dX6_choose_9 : decode cX6_choose 9 = .ok (.goto 4, 3) := by decide +kernel
theorem dX6_choose_12 : decode cX6_choose 12 = .ok (.iconst 0, 1) := by decide +kernel
theorem dX6_choose_13 : decode cX6_choose 13 = .ok (.istore_n 2, 1) := by decide +kernel
theorem dX6_choose_14 : decode cX6_choose 14 = .ok (.aload_n 0, 1) := by decide +kernel
theorem dX6_choose_15 : decode cX6_choose 15 = .ok (.getfield 111, 3) := by decide +kernel
theorem dX6_choose_18 : decode cX6_choose 18 = .ok (.iconst 3, 1) := by decide +kernel
theorem dX6_choose_19 : decode cX6_choose 19 = .ok (.if_icmp .ne 14, 3) := by decide +kernel
theorem dX6_choose_22 : decode cX6_choose 22 = .ok (.iload_n 2, 1) := by decide +kernel
theorem dX6_choose_23 : decode cX6_choose 23 = .ok (.ifCond .eq 10, 3) := by decide +kernel
theorem dX6_choose_26 : decode cX6_choose 26 = .ok (.aload_n 0, 1) := by decide +kernel
theorem dX6_choose_27 : decode cX6_choose 27 = .ok (.iconst 4, 1) := by decide +kernel
theorem dX6_choose_28 : decode cX6_choose 28 = .ok (.putfield 111, 3) := by decide +kernel
theorem dX6_choose_31 : decode cX6_choose 31 = .ok (.iconst 1, 1) := by decide +kernel
theorem dX6_choose_32 : decode cX6_choose 32 = .ok (.ireturn, 1) := by decide +kernel
theorem dX6_choose_33 : decode cX6_choose 33 = .ok (.iload_n 2, 1) := by decide +kernel
theorem dX6_choose_34 : decode cX6_choose 34 = .ok (.ifCond .ne 8, 3) := by decide +kernel
theorem dX6_choose_37 : decode cX6_choose 37 = .ok (.aload_n 0, 1) := by decide +kernel
theorem dX6_choose_38 : decode cX6_choose 38 = .ok (.iconst 3, 1) := by decide +kernel
theorem dX6_choose_39 : decode cX6_choose 39 = .ok (.putfield 111, 3) := by decide +kernel
theorem dX6_choose_42 : decode cX6_choose 42 = .ok (.bipush (-4), 2) := by decide +kernel
theorem dX6_choose_44 : decode cX6_choose 44 = .ok (.ireturn, 1) := by decide +kernel
set_option maxRecDepth 20000 in
theorem ggX6_tellStatus_X6_asNumber : GoodIn wsX6_tellStatus wsX6_asNumber := goodIn_r _ [8] (by decide +kernel) (by decide +kernel)
set_option maxRecDepth 20000 in
theorem gX6_tellStatus_X6_asNumber : GoodIn wsX6_tellStatus (va_wsS RX6 162 yX6_asNumber wsX6_asNumber) := goodIn_app (goodIn_of _ (by decide +kernel)) ggX6_tellStatus_X6_asNumber
theorem dX6_tellStatus_0 : decode cX6_tellStatus 0 = .ok (.iload_n 1, 1) := by decide +kernel
theorem dX6_tellStatus_1 : decode cX6_tellStatus 1 = .ok (.aload_n 0, 1) := by decide +kernel
theorem dX6_tellStatus_2 : decode cX6_tellStatus 2 = .ok (.getfield 185, 3) := by decide +kernel
theorem dX6_tellStatus_5 : decode cX6_tellStatus 5 = .ok (.if_icmp .eq 6, 3) := by decide +kernel
theorem dX6_tellStatus_8 : decode cX6_tellStatus 8 = .ok (.bipush (-4), 2) := by decide +kernel
theorem dX6_tellStatus_10 : decode cX6_tellStatus 10 = .ok (.ireturn, 1) := by decide +kernel
theorem dX6_tellStatus_11 : decode cX6_tellStatus 11 = .ok (.sipush 256, 3) := by decide +kernel
theorem dX6_tellStatus_14 : decode cX6_tellStatus 14 = .ok (.aload_n 0, 1) := by decide +kernel
theorem dX6_tellStatus_15 : decode cX6_tellStatus 15 = .ok (.getfield 111, 3) := by decide +kernel
theorem dX6_tellStatus_18 : decode cX6_tellStatus 18 = .ok (.imul, 1) := by decide +kernel
theorem dX6_tellStatus_19 : decode cX6_tellStatus 19 = .ok (.sipush 128, 3) := by decide +kernel
theorem dX6_tellStatus_22 : decode cX6_tellStatus 22 = .ok (.aload_n 0, 1) := by decide +kernel
theorem dX6_tellStatus_23 : decode cX6_tellStatus 23 = .ok (.getfield 197, 3) := by decide +kernel
theorem dX6_tellStatus_26 : decode cX6_tellStatus 26 = .ok (.invokestatic 162, 3) := by decide +kernel
theorem dX6_tellStatus_29 : decode cX6_tellStatus 29 = .ok (.imul, 1) := by decide +kernel
theorem dX6_tellStatus_30 : decode cX6_tellStatus 30 = .ok (.iadd, 1) := by decide +kernel
theorem dX6_tellStatus_31 : decode cX6_tellStatus 31 = .ok (.aload_n 0, 1) := by decide +kernel
theorem dX6_tellStatus_32 : decode cX6_tellStatus 32 = .ok (.getfield 201, 3) := by decide +kernel
theorem dX6_tellStatus_35 : decode cX6_tellStatus 35 = .ok (.iadd, 1) := by decide +kernel
theorem dX6_tellStatus_36 : decode cX6_tellStatus 36 = .ok (.istore_n 2, 1) := by decide +kernel
theorem dX6_tellStatus_37 : decode cX6_tellStatus 37 = .ok (.aload_n 0, 1) := by decide +kernel
theorem dX6_tellStatus_38 : decode cX6_tellStatus 38 = .ok (.iconst 0, 1) := by decide +kernel
theorem dX6_tellStatus_39 : decode cX6_tellStatus 39 = .ok (.putfield 201, 3) := by decide +kernel
theorem dX6_tellStatus_42 : decode cX6_tellStatus 42 = .ok (.iload_n 2, 1) := by decide +kernel
theorem dX6_tellStatus_43 : decode cX6_tellStatus 43 = .ok (.ireturn, 1) := by decide +kernel
set_option maxRecDepth 20000 in
theorem ggX6_switchLines_X2_change : GoodIn wsX6_switchLines wsX2_change := goodIn_r _ [6, 7, 8, 40, 41, 42] (by decide +kernel) (by decide +kernel)
set_option maxRecDepth 20000 in
theorem gX6_switchLines_X2_change : GoodIn wsX6_switchLines (wsV RX6 325 RX2 yX2_change wsX2_change) := goodIn_app (goodIn_of _ (by decide +kernel)) ggX6_switchLines_X2_change
set_option maxRecDepth 20000 in
theorem ggX6_switchLines_X6_note : GoodIn wsX6_switchLines wsX6_note := goodIn_r _ [13, 14, 23, 24, 25, 26, 27, 28, 29, 30, 31, 32, 33, 34, 35, 36, 37, 38, 39] (by decide +kernel) (by decide +kernel)
set_option maxRecDepth 20000 in
theorem gX6_switchLines_X6_note : GoodIn wsX6_switchLines (wsV RX6 135 RX6 yX6_note wsX6_note) := goodIn_app (goodIn_of _ (by decide +kernel)) ggX6_switchLines_X6_note
set_option maxRecDepth 20000 in
theorem ggX6_switchLines_X2_speed : GoodIn wsX6_switchLines wsX2_speed := goodIn_r _ [18, 7, 40, 41, 42] (by decide +kernel) (by decide +kernel)
set_option maxRecDepth 20000 in
theorem gX6_switchLines_X2_speed : GoodIn wsX6_switchLines (wsV RX6 191 RX2 yX2_speed wsX2_speed) := goodIn_app (goodIn_of _ (by decide +kernel)) ggX6_switchLines_X2_speed
set_option maxRecDepth 20000 in
theorem ggX6_switchLines_X2_lines : GoodIn wsX6_switchLines wsX2_lines := goodIn_r _ [22, 8, 40, 41, 42] (by decide +kernel) (by decide +kernel)
set_option maxRecDepth 20000 in
theorem gX6_switchLines_X2_lines : GoodIn wsX6_switchLines (wsV RX6 188 RX2 yX2_lines wsX2_lines) := goodIn_app (goodIn_of _ (by decide +kernel)) ggX6_switchLines_X2_lines
theorem dX6_switchLines_0 : decode cX6_switchLines 0 = .ok (.aload_n 0, 1) := by decide +kernel
theorem dX6_switchLines_1 : decode cX6_switchLines 1 = .ok (.getfield 52, 3) := by decide +kernel
theorem dX6_switchLines_4 : decode cX6_switchLines 4 = .ok (.iload_n 1, 1) := by decide +kernel
theorem dX6_switchLines_5 : decode cX6_switchLines 5 = .ok (.iconst 4, 1) := by decide +kernel
theorem dX6_switchLines_6 : decode cX6_switchLines 6 = .ok (.idiv, 1) := by decide +kernel
theorem dX6_switchLines_7 : decode cX6_switchLines 7 = .ok (.iload_n 1, 1) := by decide +kernel
theorem dX6_switchLines_8 : decode cX6_switchLines 8 = .ok (.iconst 4, 1) := by decide +kernel
theorem dX6_switchLines_9 : decode cX6_switchLines 9 = .ok (.irem, 1) := by decide +kernel
theorem dX6_switchLines_10 : decode cX6_switchLines 10 = .ok (.invokevirtual 325, 3) := by decide +kernel
theorem dX6_switchLines_13 : decode cX6_switchLines 13 = .ok (.ifCond .ne 9, 3) := by decide +kernel
theorem dX6_switchLines_16 : decode cX6_switchLines 16 = .ok (.aload_n 0, 1) := by decide +kernel
theorem dX6_switchLines_17 : decode cX6_switchLines 17 = .ok (.bipush 32, 2) := by decide +kernel
theorem dX6_switchLines_19 : decode cX6_switchLines 19 = .ok (.invokevirtual 135, 3) := by decide +kernel
theorem dX6_switchLines_22 : decode cX6_switchLines 22 = .ok (.iconst 4, 1) := by decide +kernel
theorem dX6_switchLines_23 : decode cX6_switchLines 23 = .ok (.aload_n 0, 1) := by decide +kernel
theorem dX6_switchLines_24 : decode cX6_switchLines 24 = .ok (.getfield 52, 3) := by decide +kernel
theorem dX6_switchLines_27 : decode cX6_switchLines 27 = .ok (.invokevirtual 191, 3) := by decide +kernel
theorem dX6_switchLines_30 : decode cX6_switchLines 30 = .ok (.imul, 1) := by decide +kernel
theorem dX6_switchLines_31 : decode cX6_switchLines 31 = .ok (.aload_n 0, 1) := by decide +kernel
theorem dX6_switchLines_32 : decode cX6_switchLines 32 = .ok (.getfield 52, 3) := by decide +kernel
theorem dX6_switchLines_35 : decode cX6_switchLines 35 = .ok (.invokevirtual 188, 3) := by decide +kernel
theorem dX6_switchLines_38 : decode cX6_switchLines 38 = .ok (.iadd, 1) := by decide +kernel
theorem dX6_switchLines_39 : decode cX6_switchLines 39 = .ok (.ireturn, 1) := by decide +kernel
set_option maxRecDepth 20000 in
theorem ggX6_movePoint_X2_look : GoodIn wsX6_movePoint wsX2_look := goodIn_r _ [7, 8, 43, 44, 45] (by decide +kernel) (by decide +kernel)
set_option maxRecDepth 20000 in
theorem gX6_movePoint_X2_look : GoodIn wsX6_movePoint (wsV RX6 328 RX2 yX2_look wsX2_look) := goodIn_app (goodIn_of _ (by decide +kernel)) ggX6_movePoint_X2_look
set_option maxRecDepth 20000 in
theorem ggX6_movePoint_X2_isInWindow : GoodIn wsX6_movePoint wsX2_isInWindow := goodIn_r _ [12, 13, 8, 14, 15, 16, 17, 18, 19, 20, 21, 43, 44, 45] (by decide +kernel) (by decide +kernel)
set_option maxRecDepth 20000 in
theorem gX6_movePoint_X2_isInWindow : GoodIn wsX6_movePoint (wsV RX6 132 RX2 yX2_isInWindow wsX2_isInWindow) := goodIn_app (goodIn_of _ (by decide +kernel)) ggX6_movePoint_X2_isInWindow
set_option maxRecDepth 20000 in
theorem ggX6_movePoint_X6_asNumber : GoodIn wsX6_movePoint wsX6_asNumber := goodIn_r _ [25] (by decide +kernel) (by decide +kernel)
set_option maxRecDepth 20000 in
theorem gX6_movePoint_X6_asNumber : GoodIn wsX6_movePoint (va_wsS RX6 162 yX6_asNumber wsX6_asNumber) := goodIn_app (goodIn_of _ (by decide +kernel)) ggX6_movePoint_X6_asNumber
theorem dX6_movePoint_0 : decode cX6_movePoint 0 = .ok (.aload_n 0, 1) := by decide +kernel
theorem dX6_movePoint_1 : decode cX6_movePoint 1 = .ok (.getfield 52, 3) := by decide +kernel
theorem dX6_movePoint_4 : decode cX6_movePoint 4 = .ok (.iload_n 1, 1) := by decide +kernel
theorem dX6_movePoint_5 : decode cX6_movePoint 5 = .ok (.bipush 16, 2) := by decide +kernel
theorem dX6_movePoint_7 : decode cX6_movePoint 7 = .ok (.irem, 1) := by decide +kernel
theorem dX6_movePoint_8 : decode cX6_movePoint 8 = .ok (.invokevirtual 328, 3) := by decide +kernel
theorem dX6_movePoint_11 : decode cX6_movePoint 11 = .ok (.aload_n 0, 1) := by decide +kernel
theorem dX6_movePoint_12 : decode cX6_movePoint 12 = .ok (.getfield 52, 3) := by decide +kernel
theorem dX6_movePoint_15 : decode cX6_movePoint 15 = .ok (.aload_n 0, 1) := by decide +kernel
theorem dX6_movePoint_16 : decode cX6_movePoint 16 = .ok (.getfield 78, 3) := by decide +kernel
theorem dX6_movePoint_19 : decode cX6_movePoint 19 = .ok (.invokevirtual 132, 3) := by decide +kernel
theorem dX6_movePoint_22 : decode cX6_movePoint 22 = .ok (.invokestatic 162, 3) := by decide +kernel
theorem dX6_movePoint_25 : decode cX6_movePoint 25 = .ok (.ireturn, 1) := by decide +kernel
set_option maxRecDepth 20000 in
theorem ggX6_expect_X5_expect : GoodIn wsX6_expect wsX5_expect := goodIn_r _ [6, 7, 25, 26, 27, 28, 29] (by decide +kernel) (by decide +kernel)
set_option maxRecDepth 20000 in
theorem gX6_expect_X5_expect : GoodIn wsX6_expect (wsV RX6 331 RX5 yX5_expect wsX5_expect) := goodIn_app (goodIn_of _ (by decide +kernel)) ggX6_expect_X5_expect
theorem dX6_expect_0 : decode cX6_expect 0 = .ok (.aload_n 0, 1) := by decide +kernel
theorem dX6_expect_1 : decode cX6_expect 1 = .ok (.getfield 45, 3) := by decide +kernel
theorem dX6_expect_4 : decode cX6_expect 4 = .ok (.iload_n 1, 1) := by decide +kernel
theorem dX6_expect_5 : decode cX6_expect 5 = .ok (.invokevirtual 331, 3) := by decide +kernel
theorem dX6_expect_8 : decode cX6_expect 8 = .ok (.iload_n 1, 1) := by decide +kernel
theorem dX6_expect_9 : decode cX6_expect 9 = .ok (.ireturn, 1) := by decide +kernel
set_option maxRecDepth 20000 in
theorem ggX6_beginStream_X3_has : GoodIn wsX6_beginStream wsX3_has := goodIn_r _ [9, 10, 48, 49, 50, 51, 52, 53] (by decide +kernel) (by decide +kernel)
set_option maxRecDepth 20000 in
theorem gX6_beginStream_X3_has : GoodIn wsX6_beginStream (wsV RX6 123 RX3 yX3_has wsX3_has) := goodIn_app (goodIn_of _ (by decide +kernel)) ggX6_beginStream_X3_has
set_option maxRecDepth 20000 in
theorem ggX6_beginStream_X6_refuse : GoodIn wsX6_beginStream wsX6_refuse := goodIn_r _ [15, 16, 17, 18, 14, 19, 20, 31, 32, 33, 34, 35, 36, 37, 38, 39, 40, 41, 42, 43, 44, 45, 46, 47] (by decide +kernel) (by decide +kernel)
