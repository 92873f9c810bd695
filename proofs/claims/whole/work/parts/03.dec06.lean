theorem dX7_blocksThat_17 : decode cX7_blocksThat 17 = .ok (.aload_n 0, 1) := by decide +kernel
theorem dX7_blocksThat_18 : decode cX7_blocksThat 18 = .ok (.getfield 16, 3) := by decide +kernel
theorem dX7_blocksThat_21 : decode cX7_blocksThat 21 = .ok (.iload_n 3, 1) := by decide +kernel
theorem dX7_blocksThat_22 : decode cX7_blocksThat 22 = .ok (.iaload, 1) := by decide +kernel
theorem dX7_blocksThat_23 : decode cX7_blocksThat 23 = .ok (.goto 19, 3) := by decide +kernel
theorem dX7_blocksThat_26 : decode cX7_blocksThat 26 = .ok (.aload_n 0, 1) := by decide +kernel
theorem dX7_blocksThat_27 : decode cX7_blocksThat 27 = .ok (.getfield 13, 3) := by decide +kernel
theorem dX7_blocksThat_30 : decode cX7_blocksThat 30 = .ok (.iload_n 3, 1) := by decide +kernel
theorem dX7_blocksThat_31 : decode cX7_blocksThat 31 = .ok (.iaload, 1) := by decide +kernel
theorem dX7_blocksThat_32 : decode cX7_blocksThat 32 = .ok (.ldc 77, 2) := by decide +kernel
theorem dX7_blocksThat_34 : decode cX7_blocksThat 34 = .ok (.if_icmp .eq 7, 3) := by decide +kernel
theorem dX7_blocksThat_37 : decode cX7_blocksThat 37 = .ok (.iconst 1, 1) := by decide +kernel
theorem dX7_blocksThat_38 : decode cX7_blocksThat 38 = .ok (.goto 4, 3) := by decide +kernel
theorem dX7_blocksThat_41 : decode cX7_blocksThat 41 = .ok (.iconst 0, 1) := by decide +kernel
theorem dX7_blocksThat_42 : decode cX7_blocksThat 42 = .ok (.iadd, 1) := by decide +kernel
theorem dX7_blocksThat_43 : decode cX7_blocksThat 43 = .ok (.istore_n 2, 1) := by decide +kernel
theorem dX7_blocksThat_44 : decode cX7_blocksThat 44 = .ok (.iinc 3 1, 3) := by decide +kernel
theorem dX7_blocksThat_47 : decode cX7_blocksThat 47 = .ok (.goto (-43), 3) := by decide +kernel
theorem dX7_blocksThat_50 : decode cX7_blocksThat 50 = .ok (.iload_n 2, 1) := by decide +kernel
theorem dX7_blocksThat_51 : decode cX7_blocksThat 51 = .ok (.ireturn, 1) := by decide +kernel
theorem dX7_countPower_0 : decode cX7_countPower 0 = .ok (.iload_n 1, 1) := by decide +kernel
theorem dX7_countPower_1 : decode cX7_countPower 1 = .ok (.tableswitch 84 3 8 #[39, 44, 49, 54, 59, 79], 39) := by decide +kernel
theorem dX7_countPower_40 : decode cX7_countPower 40 = .ok (.aload_n 0, 1) := by decide +kernel
theorem dX7_countPower_41 : decode cX7_countPower 41 = .ok (.getfield 88, 3) := by decide +kernel
theorem dX7_countPower_44 : decode cX7_countPower 44 = .ok (.ireturn, 1) := by decide +kernel
theorem dX7_countPower_45 : decode cX7_countPower 45 = .ok (.aload_n 0, 1) := by decide +kernel
theorem dX7_countPower_46 : decode cX7_countPower 46 = .ok (.getfield 91, 3) := by decide +kernel
theorem dX7_countPower_49 : decode cX7_countPower 49 = .ok (.ireturn, 1) := by decide +kernel
theorem dX7_countPower_50 : decode cX7_countPower 50 = .ok (.aload_n 0, 1) := by decide +kernel
theorem dX7_countPower_51 : decode cX7_countPower 51 = .ok (.getfield 94, 3) := by decide +kernel
theorem dX7_countPower_54 : decode cX7_countPower 54 = .ok (.ireturn, 1) := by decide +kernel
theorem dX7_countPower_55 : decode cX7_countPower 55 = .ok (.aload_n 0, 1) := by decide +kernel
theorem dX7_countPower_56 : decode cX7_countPower 56 = .ok (.getfield 97, 3) := by decide +kernel
theorem dX7_countPower_59 : decode cX7_countPower 59 = .ok (.ireturn, 1) := by decide +kernel
theorem dX7_countPower_60 : decode cX7_countPower 60 = .ok (.aload_n 0, 1) := by decide +kernel
theorem dX7_countPower_61 : decode cX7_countPower 61 = .ok (.getfield 78, 3) := by decide +kernel
theorem dX7_countPower_64 : decode cX7_countPower 64 = .ok (.ifCond .eq 14, 3) := by decide +kernel
theorem dX7_countPower_67 : decode cX7_countPower 67 = .ok (.aload_n 0, 1) := by decide +kernel
theorem dX7_countPower_68 : decode cX7_countPower 68 = .ok (.getfield 100, 3) := by decide +kernel
theorem dX7_countPower_71 : decode cX7_countPower 71 = .ok (.ifCond .eq 7, 3) := by decide +kernel
theorem dX7_countPower_74 : decode cX7_countPower 74 = .ok (.iconst 1, 1) := by decide +kernel
theorem dX7_countPower_75 : decode cX7_countPower 75 = .ok (.goto 4, 3) := by decide +kernel
theorem dX7_countPower_78 : decode cX7_countPower 78 = .ok (.iconst 0, 1) := by decide +kernel
theorem dX7_countPower_79 : decode cX7_countPower 79 = .ok (.ireturn, 1) := by decide +kernel
theorem dX7_countPower_80 : decode cX7_countPower 80 = .ok (.aload_n 0, 1) := by decide +kernel
theorem dX7_countPower_81 : decode cX7_countPower 81 = .ok (.getfield 103, 3) := by decide +kernel
theorem dX7_countPower_84 : decode cX7_countPower 84 = .ok (.ireturn, 1) := by decide +kernel
theorem dX7_countPower_85 : decode cX7_countPower 85 = .ok (.aload_n 0, 1) := by decide +kernel
theorem dX7_countPower_86 : decode cX7_countPower 86 = .ok (.getfield 109, 3) := by decide +kernel
theorem dX7_countPower_89 : decode cX7_countPower 89 = .ok (.ireturn, 1) := by decide +kernel
set_option maxRecDepth 20000 in
theorem ggX7_count_X7_countPower : GoodIn wsX7_count wsX7_countPower := goodIn_r _ [15, 16, 17, 18, 19, 1, 20, 21, 22, 34, 35, 36, 37, 38, 39, 40, 41, 42, 43, 44, 45, 46, 47, 48, 49, 50, 51, 52, 53, 54, 55, 56, 57, 58, 59, 60, 61, 62, 63, 64, 65, 66, 67, 68, 69, 70, 71] (by decide +kernel) (by decide +kernel)
set_option maxRecDepth 20000 in
theorem gX7_count_X7_countPower : GoodIn wsX7_count (wsV RX7 263 RX7 yX7_countPower wsX7_countPower) := goodIn_app (goodIn_of _ (by decide +kernel)) ggX7_count_X7_countPower
set_option maxRecDepth 20000 in
theorem ggX7_count_X7_blocksThat : GoodIn wsX7_count wsX7_blocksThat := goodIn_r _ [26, 3, 27, 28, 29, 34, 35, 36, 37, 38, 39, 40, 41, 42, 43, 44, 45, 46, 47, 48, 49, 50, 51, 52, 53, 54, 55, 56, 57, 58, 59, 60, 61, 62, 63, 64, 65, 66, 67, 68, 69, 70, 71] (by decide +kernel) (by decide +kernel)
set_option maxRecDepth 20000 in
theorem gX7_count_X7_blocksThat : GoodIn wsX7_count (wsV RX7 266 RX7 yX7_blocksThat wsX7_blocksThat) := goodIn_app (goodIn_of _ (by decide +kernel)) ggX7_count_X7_blocksThat
set_option maxRecDepth 20000 in
theorem ggX7_count_X7_isInWindow : GoodIn wsX7_count wsX7_isInWindow := goodIn_r _ [33, 19, 18, 7, 34, 35, 36, 37, 38, 39, 40, 41, 42, 43, 44, 45, 46, 47, 48, 49, 50, 51, 52, 53, 54, 55, 56, 57, 58, 59, 60, 61, 62, 63, 64, 65, 66, 67, 68, 69, 70, 71] (by decide +kernel) (by decide +kernel)
set_option maxRecDepth 20000 in
theorem gX7_count_X7_isInWindow : GoodIn wsX7_count (wsV RX7 212 RX7 yX7_isInWindow wsX7_isInWindow) := goodIn_app (goodIn_of _ (by decide +kernel)) ggX7_count_X7_isInWindow
theorem dX7_count_0 : decode cX7_count 0 = .ok (.aload_n 0, 1) := by decide +kernel
theorem dX7_count_1 : decode cX7_count 1 = .ok (.getfield 78, 3) := by decide +kernel
theorem dX7_count_4 : decode cX7_count 4 = .ok (.ifCond .eq 24, 3) := by decide +kernel
theorem dX7_count_7 : decode cX7_count 7 = .ok (.aload_n 0, 1) := by decide +kernel
theorem dX7_count_8 : decode cX7_count 8 = .ok (.getfield 85, 3) := by decide +kernel
theorem dX7_count_11 : decode cX7_count 11 = .ok (.iconst 5, 1) := by decide +kernel
theorem dX7_count_12 : decode cX7_count 12 = .ok (.if_icmp .eq 12, 3) := by decide +kernel
theorem dX7_count_15 : decode cX7_count 15 = .ok (.aload_n 0, 1) := by decide +kernel
theorem dX7_count_16 : decode cX7_count 16 = .ok (.getfield 85, 3) := by decide +kernel
theorem dX7_count_19 : decode cX7_count 19 = .ok (.bipush 6, 2) := by decide +kernel
theorem dX7_count_21 : decode cX7_count 21 = .ok (.if_icmp .ne 7, 3) := by decide +kernel
theorem dX7_count_24 : decode cX7_count 24 = .ok (.iconst 1, 1) := by decide +kernel
theorem dX7_count_25 : decode cX7_count 25 = .ok (.goto 4, 3) := by decide +kernel
theorem dX7_count_28 : decode cX7_count 28 = .ok (.iconst 0, 1) := by decide +kernel
theorem dX7_count_29 : decode cX7_count 29 = .ok (.istore_n 2, 1) := by decide +kernel
theorem dX7_count_30 : decode cX7_count 30 = .ok (.iload_n 1, 1) := by decide +kernel
theorem dX7_count_31 : decode cX7_count 31 = .ok (.tableswitch 206 0 18 #[89, 94, 99, 116, 116, 116, 116, 116, 116, 122, 116, 127, 133, 138, 143, 148, 173, 187, 193], 89) := by decide +kernel
theorem dX7_count_120 : decode cX7_count 120 = .ok (.aload_n 0, 1) := by decide +kernel
theorem dX7_count_121 : decode cX7_count 121 = .ok (.getfield 52, 3) := by decide +kernel
theorem dX7_count_124 : decode cX7_count 124 = .ok (.ireturn, 1) := by decide +kernel
theorem dX7_count_125 : decode cX7_count 125 = .ok (.aload_n 0, 1) := by decide +kernel
theorem dX7_count_126 : decode cX7_count 126 = .ok (.getfield 56, 3) := by decide +kernel
theorem dX7_count_129 : decode cX7_count 129 = .ok (.ireturn, 1) := by decide +kernel
theorem dX7_count_130 : decode cX7_count 130 = .ok (.aload_n 0, 1) := by decide +kernel
theorem dX7_count_131 : decode cX7_count 131 = .ok (.getfield 78, 3) := by decide +kernel
theorem dX7_count_134 : decode cX7_count 134 = .ok (.ifCond .eq 10, 3) := by decide +kernel
theorem dX7_count_137 : decode cX7_count 137 = .ok (.aload_n 0, 1) := by decide +kernel
theorem dX7_count_138 : decode cX7_count 138 = .ok (.getfield 85, 3) := by decide +kernel
theorem dX7_count_141 : decode cX7_count 141 = .ok (.goto 5, 3) := by decide +kernel
theorem dX7_count_144 : decode cX7_count 144 = .ok (.bipush (-4), 2) := by decide +kernel
theorem dX7_count_146 : decode cX7_count 146 = .ok (.ireturn, 1) := by decide +kernel
theorem dX7_count_147 : decode cX7_count 147 = .ok (.aload_n 0, 1) := by decide +kernel
theorem dX7_count_148 : decode cX7_count 148 = .ok (.iload_n 1, 1) := by decide +kernel
theorem dX7_count_149 : decode cX7_count 149 = .ok (.invokevirtual 263, 3) := by decide +kernel
theorem dX7_count_152 : decode cX7_count 152 = .ok (.ireturn, 1) := by decide +kernel
theorem dX7_count_153 : decode cX7_count 153 = .ok (.aload_n 0, 1) := by decide +kernel
theorem dX7_count_154 : decode cX7_count 154 = .ok (.getfield 68, 3) := by decide +kernel
theorem dX7_count_157 : decode cX7_count 157 = .ok (.ireturn, 1) := by decide +kernel
theorem dX7_count_158 : decode cX7_count 158 = .ok (.aload_n 0, 1) := by decide +kernel
theorem dX7_count_159 : decode cX7_count 159 = .ok (.iconst 1, 1) := by decide +kernel
theorem dX7_count_160 : decode cX7_count 160 = .ok (.invokevirtual 266, 3) := by decide +kernel
theorem dX7_count_163 : decode cX7_count 163 = .ok (.ireturn, 1) := by decide +kernel
theorem dX7_count_164 : decode cX7_count 164 = .ok (.aload_n 0, 1) := by decide +kernel
theorem dX7_count_165 : decode cX7_count 165 = .ok (.getfield 65, 3) := by decide +kernel
theorem dX7_count_168 : decode cX7_count 168 = .ok (.ireturn, 1) := by decide +kernel
theorem dX7_count_169 : decode cX7_count 169 = .ok (.aload_n 0, 1) := by decide +kernel
theorem dX7_count_170 : decode cX7_count 170 = .ok (.getfield 152, 3) := by decide +kernel
theorem dX7_count_173 : decode cX7_count 173 = .ok (.ireturn, 1) := by decide +kernel
theorem dX7_count_174 : decode cX7_count 174 = .ok (.aload_n 0, 1) := by decide +kernel
theorem dX7_count_175 : decode cX7_count 175 = .ok (.getfield 159, 3) := by decide +kernel
theorem dX7_count_178 : decode cX7_count 178 = .ok (.ireturn, 1) := by decide +kernel
theorem dX7_count_179 : decode cX7_count 179 = .ok (.iload_n 2, 1) := by decide +kernel
theorem dX7_count_180 : decode cX7_count 180 = .ok (.ifCond .eq 21, 3) := by decide +kernel
theorem dX7_count_183 : decode cX7_count 183 = .ok (.aload_n 0, 1) := by decide +kernel
theorem dX7_count_184 : decode cX7_count 184 = .ok (.getfield 124, 3) := by decide +kernel
theorem dX7_count_187 : decode cX7_count 187 = .ok (.aload_n 0, 1) := by decide +kernel
theorem dX7_count_188 : decode cX7_count 188 = .ok (.getfield 52, 3) := by decide +kernel
theorem dX7_count_191 : decode cX7_count 191 = .ok (.if_icmp .ge 10, 3) := by decide +kernel
theorem dX7_count_194 : decode cX7_count 194 = .ok (.aload_n 0, 1) := by decide +kernel
theorem dX7_count_195 : decode cX7_count 195 = .ok (.getfield 124, 3) := by decide +kernel
theorem dX7_count_198 : decode cX7_count 198 = .ok (.goto 5, 3) := by decide +kernel
theorem dX7_count_201 : decode cX7_count 201 = .ok (.bipush (-4), 2) := by decide +kernel
theorem dX7_count_203 : decode cX7_count 203 = .ok (.ireturn, 1) := by decide +kernel
theorem dX7_count_204 : decode cX7_count 204 = .ok (.iload_n 2, 1) := by decide +kernel
theorem dX7_count_205 : decode cX7_count 205 = .ok (.ifCond .eq 10, 3) := by decide +kernel
theorem dX7_count_208 : decode cX7_count 208 = .ok (.aload_n 0, 1) := by decide +kernel
theorem dX7_count_209 : decode cX7_count 209 = .ok (.getfield 127, 3) := by decide +kernel
theorem dX7_count_212 : decode cX7_count 212 = .ok (.goto 5, 3) := by decide +kernel
theorem dX7_count_215 : decode cX7_count 215 = .ok (.bipush (-4), 2) := by decide +kernel
theorem dX7_count_217 : decode cX7_count 217 = .ok (.ireturn, 1) := by decide +kernel
theorem dX7_count_218 : decode cX7_count 218 = .ok (.aload_n 0, 1) := by decide +kernel
theorem dX7_count_219 : decode cX7_count 219 = .ok (.iconst 0, 1) := by decide +kernel
theorem dX7_count_220 : decode cX7_count 220 = .ok (.invokevirtual 266, 3) := by decide +kernel
theorem dX7_count_223 : decode cX7_count 223 = .ok (.ireturn, 1) := by decide +kernel
theorem dX7_count_224 : decode cX7_count 224 = .ok (.aload_n 0, 1) := by decide +kernel
theorem dX7_count_225 : decode cX7_count 225 = .ok (.invokevirtual 212, 3) := by decide +kernel
theorem dX7_count_228 : decode cX7_count 228 = .ok (.ifCond .eq 7, 3) := by decide +kernel
theorem dX7_count_231 : decode cX7_count 231 = .ok (.iconst 1, 1) := by decide +kernel
theorem dX7_count_232 : decode cX7_count 232 = .ok (.goto 4, 3) := by decide +kernel
theorem dX7_count_235 : decode cX7_count 235 = .ok (.iconst 0, 1) := by decide +kernel
theorem dX7_count_236 : decode cX7_count 236 = .ok (.ireturn, 1) := by decide +kernel
theorem dX7_count_237 : decode cX7_count 237 = .ok (.iconst (-1), 1) := by decide +kernel
theorem dX7_count_238 : decode cX7_count 238 = .ok (.ireturn, 1) := by decide +kernel
theorem dJ9_floorMod_7cf53_0 : decode cJ9_floorMod_7cf53 0 = .ok (.iload_n 0, 1) := by decide +kernel
theorem dJ9_floorMod_7cf53_1 : decode cJ9_floorMod_7cf53 1 = .ok (.iload_n 1, 1) := by decide +kernel
theorem dJ9_floorMod_7cf53_2 : decode cJ9_floorMod_7cf53 2 = .ok (.irem, 1) := by decide +kernel
theorem dJ9_floorMod_7cf53_3 : decode cJ9_floorMod_7cf53 3 = .ok (.istore_n 2, 1) := by decide +kernel
theorem dJ9_floorMod_7cf53_4 : decode cJ9_floorMod_7cf53 4 = .ok (.iload_n 0, 1) := by decide +kernel
theorem dJ9_floorMod_7cf53_5 : decode cJ9_floorMod_7cf53 5 = .ok (.iload_n 1, 1) := by decide +kernel
theorem dJ9_floorMod_7cf53_6 : decode cJ9_floorMod_7cf53 6 = .ok (.ixor, 1) := by decide +kernel
theorem dJ9_floorMod_7cf53_7 : decode cJ9_floorMod_7cf53 7 = .ok (.ifCond .ge 11, 3) := by decide +kernel
theorem dJ9_floorMod_7cf53_10 : decode cJ9_floorMod_7cf53 10 = .ok (.iload_n 2, 1) := by decide +kernel
theorem dJ9_floorMod_7cf53_11 : decode cJ9_floorMod_7cf53 11 = .ok (.ifCond .eq 7, 3) := by decide +kernel
theorem dJ9_floorMod_7cf53_14 : decode cJ9_floorMod_7cf53 14 = .ok (.iload_n 2, 1) := by decide +kernel
theorem dJ9_floorMod_7cf53_15 : decode cJ9_floorMod_7cf53 15 = .ok (.iload_n 1, 1) := by decide +kernel
theorem dJ9_floorMod_7cf53_16 : decode cJ9_floorMod_7cf53 16 = .ok (.iadd, 1) := by decide +kernel
theorem dJ9_floorMod_7cf53_17 : decode cJ9_floorMod_7cf53 17 = .ok (.ireturn, 1) := by decide +kernel
theorem dJ9_floorMod_7cf53_18 : decode cJ9_floorMod_7cf53 18 = .ok (.iload_n 2, 1) := by decide +kernel
theorem dJ9_floorMod_7cf53_19 : decode cJ9_floorMod_7cf53 19 = .ok (.ireturn, 1) := by decide +kernel
theorem dJ9_max_7cf53_0 : decode cJ9_max_7cf53 0 = .ok (.iload_n 0, 1) := by decide +kernel
theorem dJ9_max_7cf53_1 : decode cJ9_max_7cf53 1 = .ok (.iload_n 1, 1) := by decide +kernel
theorem dJ9_max_7cf53_2 : decode cJ9_max_7cf53 2 = .ok (.if_icmp .lt 7, 3) := by decide +kernel
theorem dJ9_max_7cf53_5 : decode cJ9_max_7cf53 5 = .ok (.iload_n 0, 1) := by decide +kernel
theorem dJ9_max_7cf53_6 : decode cJ9_max_7cf53 6 = .ok (.goto 4, 3) := by decide +kernel
theorem dJ9_max_7cf53_9 : decode cJ9_max_7cf53 9 = .ok (.iload_n 1, 1) := by decide +kernel
theorem dJ9_max_7cf53_10 : decode cJ9_max_7cf53 10 = .ok (.ireturn, 1) := by decide +kernel
theorem dJ9_min_7cf53_0 : decode cJ9_min_7cf53 0 = .ok (.iload_n 0, 1) := by decide +kernel
theorem dJ9_min_7cf53_1 : decode cJ9_min_7cf53 1 = .ok (.iload_n 1, 1) := by decide +kernel
theorem dJ9_min_7cf53_2 : decode cJ9_min_7cf53 2 = .ok (.if_icmp .gt 7, 3) := by decide +kernel
theorem dJ9_min_7cf53_5 : decode cJ9_min_7cf53 5 = .ok (.iload_n 0, 1) := by decide +kernel
theorem dJ9_min_7cf53_6 : decode cJ9_min_7cf53 6 = .ok (.goto 4, 3) := by decide +kernel
theorem dJ9_min_7cf53_9 : decode cJ9_min_7cf53 9 = .ok (.iload_n 1, 1) := by decide +kernel
theorem dJ9_min_7cf53_10 : decode cJ9_min_7cf53 10 = .ok (.ireturn, 1) := by decide +kernel
