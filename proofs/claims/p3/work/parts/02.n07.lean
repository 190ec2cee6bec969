set_option maxRecDepth 20000 in
theorem ggX6_canBe_X6_isAsked : GoodIn wsX6_canBe wsX6_isAsked := goodIn_r _ [18, 19, 31, 32, 33, 34, 35, 36, 37, 38, 39, 40, 41, 42, 43, 44, 45, 46, 47, 48, 49, 50, 51, 52, 53, 54, 55, 56, 57, 58, 59, 60, 61, 62, 63, 64, 65, 66, 67, 68, 69, 70, 71, 72, 73] (by decide +kernel) (by decide +kernel)
set_option maxRecDepth 20000 in
theorem gX6_canBe_X6_isAsked : GoodIn wsX6_canBe (wsV RX6 190 RX6 yX6_isAsked wsX6_isAsked) := goodIn_app (goodIn_of _ (by decide +kernel)) ggX6_canBe_X6_isAsked
set_option maxRecDepth 20000 in
theorem ggX6_canBe_X6_narrows : GoodIn wsX6_canBe wsX6_narrows := goodIn_r _ [23, 2, 5, 24, 25, 26, 27, 28, 29, 30, 31, 32, 33, 34, 35, 36, 37, 38, 39, 40, 41, 42, 43, 44, 45, 46, 47, 48, 49, 50, 51, 52, 53, 54, 55, 56, 57, 58, 59, 60, 61, 62, 63, 64, 65, 66, 67, 68, 69, 70, 71, 72, 73] (by decide +kernel) (by decide +kernel)
set_option maxRecDepth 20000 in
theorem gX6_canBe_X6_narrows : GoodIn wsX6_canBe (wsV RX6 206 RX6 yX6_narrows wsX6_narrows) := goodIn_app (goodIn_of _ (by decide +kernel)) ggX6_canBe_X6_narrows
theorem dX6_canBe_0 : decode cX6_canBe 0 = .ok (.iconst 0, 1) := by decide +kernel
theorem dX6_canBe_1 : decode cX6_canBe 1 = .ok (.istore_n 2, 1) := by decide +kernel
theorem dX6_canBe_2 : decode cX6_canBe 2 = .ok (.iload_n 2, 1) := by decide +kernel
theorem dX6_canBe_3 : decode cX6_canBe 3 = .ok (.aload_n 0, 1) := by decide +kernel
theorem dX6_canBe_4 : decode cX6_canBe 4 = .ok (.getfield 151, 3) := by decide +kernel
theorem dX6_canBe_7 : decode cX6_canBe 7 = .ok (.if_icmp .ge 72, 3) := by decide +kernel
theorem dX6_canBe_10 : decode cX6_canBe 10 = .ok (.aload_n 0, 1) := by decide +kernel
theorem dX6_canBe_11 : decode cX6_canBe 11 = .ok (.getfield 68, 3) := by decide +kernel
theorem dX6_canBe_14 : decode cX6_canBe 14 = .ok (.iload_n 2, 1) := by decide +kernel
theorem dX6_canBe_15 : decode cX6_canBe 15 = .ok (.iload_n 2, 1) := by decide +kernel
theorem dX6_canBe_16 : decode cX6_canBe 16 = .ok (.iload_n 1, 1) := by decide +kernel
theorem dX6_canBe_17 : decode cX6_canBe 17 = .ok (.if_icmp .ge 22, 3) := by decide +kernel
theorem dX6_canBe_20 : decode cX6_canBe 20 = .ok (.aload_n 0, 1) := by decide +kernel
theorem dX6_canBe_21 : decode cX6_canBe 21 = .ok (.getfield 53, 3) := by decide +kernel
theorem dX6_canBe_24 : decode cX6_canBe 24 = .ok (.bipush 20, 2) := by decide +kernel
theorem dX6_canBe_26 : decode cX6_canBe 26 = .ok (.iload_n 2, 1) := by decide +kernel
theorem dX6_canBe_27 : decode cX6_canBe 27 = .ok (.imul, 1) := by decide +kernel
theorem dX6_canBe_28 : decode cX6_canBe 28 = .ok (.aload_n 0, 1) := by decide +kernel
theorem dX6_canBe_29 : decode cX6_canBe 29 = .ok (.getfield 74, 3) := by decide +kernel
theorem dX6_canBe_32 : decode cX6_canBe 32 = .ok (.iload_n 2, 1) := by decide +kernel
theorem dX6_canBe_33 : decode cX6_canBe 33 = .ok (.iaload, 1) := by decide +kernel
theorem dX6_canBe_34 : decode cX6_canBe 34 = .ok (.iadd, 1) := by decide +kernel
theorem dX6_canBe_35 : decode cX6_canBe 35 = .ok (.iaload, 1) := by decide +kernel
theorem dX6_canBe_36 : decode cX6_canBe 36 = .ok (.goto 4, 3) := by decide +kernel
theorem dX6_canBe_39 : decode cX6_canBe 39 = .ok (.iconst 0, 1) := by decide +kernel
theorem dX6_canBe_40 : decode cX6_canBe 40 = .ok (.iastore, 1) := by decide +kernel
theorem dX6_canBe_41 : decode cX6_canBe 41 = .ok (.aload_n 0, 1) := by decide +kernel
theorem dX6_canBe_42 : decode cX6_canBe 42 = .ok (.getfield 71, 3) := by decide +kernel
theorem dX6_canBe_45 : decode cX6_canBe 45 = .ok (.iload_n 2, 1) := by decide +kernel
theorem dX6_canBe_46 : decode cX6_canBe 46 = .ok (.iload_n 2, 1) := by decide +kernel
theorem dX6_canBe_47 : decode cX6_canBe 47 = .ok (.iload_n 1, 1) := by decide +kernel
theorem dX6_canBe_48 : decode cX6_canBe 48 = .ok (.if_icmp .ge 22, 3) := by decide +kernel
theorem dX6_canBe_51 : decode cX6_canBe 51 = .ok (.aload_n 0, 1) := by decide +kernel
theorem dX6_canBe_52 : decode cX6_canBe 52 = .ok (.getfield 56, 3) := by decide +kernel
theorem dX6_canBe_55 : decode cX6_canBe 55 = .ok (.bipush 20, 2) := by decide +kernel
theorem dX6_canBe_57 : decode cX6_canBe 57 = .ok (.iload_n 2, 1) := by decide +kernel
theorem dX6_canBe_58 : decode cX6_canBe 58 = .ok (.imul, 1) := by decide +kernel
theorem dX6_canBe_59 : decode cX6_canBe 59 = .ok (.aload_n 0, 1) := by decide +kernel
theorem dX6_canBe_60 : decode cX6_canBe 60 = .ok (.getfield 74, 3) := by decide +kernel
theorem dX6_canBe_63 : decode cX6_canBe 63 = .ok (.iload_n 2, 1) := by decide +kernel
theorem dX6_canBe_64 : decode cX6_canBe 64 = .ok (.iaload, 1) := by decide +kernel
theorem dX6_canBe_65 : decode cX6_canBe 65 = .ok (.iadd, 1) := by decide +kernel
theorem dX6_canBe_66 : decode cX6_canBe 66 = .ok (.iaload, 1) := by decide +kernel
theorem dX6_canBe_67 : decode cX6_canBe 67 = .ok (.goto 5, 3) := by decide +kernel
theorem dX6_canBe_70 : decode cX6_canBe 70 = .ok (.ldc 154, 2) := by decide +kernel
theorem dX6_canBe_72 : decode cX6_canBe 72 = .ok (.iastore, 1) := by decide +kernel
theorem dX6_canBe_73 : decode cX6_canBe 73 = .ok (.iinc 2 1, 3) := by decide +kernel
theorem dX6_canBe_76 : decode cX6_canBe 76 = .ok (.goto (-74), 3) := by decide +kernel
theorem dX6_canBe_79 : decode cX6_canBe 79 = .ok (.iconst 1, 1) := by decide +kernel
theorem dX6_canBe_80 : decode cX6_canBe 80 = .ok (.istore_n 2, 1) := by decide +kernel
theorem dX6_canBe_81 : decode cX6_canBe 81 = .ok (.iconst 0, 1) := by decide +kernel
theorem dX6_canBe_82 : decode cX6_canBe 82 = .ok (.istore_n 3, 1) := by decide +kernel
theorem dX6_canBe_83 : decode cX6_canBe 83 = .ok (.iload_n 2, 1) := by decide +kernel
theorem dX6_canBe_84 : decode cX6_canBe 84 = .ok (.ifCond .eq 190, 3) := by decide +kernel
theorem dX6_canBe_87 : decode cX6_canBe 87 = .ok (.iload_n 3, 1) := by decide +kernel
theorem dX6_canBe_88 : decode cX6_canBe 88 = .ok (.bipush 9, 2) := by decide +kernel
theorem dX6_canBe_90 : decode cX6_canBe 90 = .ok (.if_icmp .ne 5, 3) := by decide +kernel
theorem dX6_canBe_93 : decode cX6_canBe 93 = .ok (.iconst 0, 1) := by decide +kernel
theorem dX6_canBe_94 : decode cX6_canBe 94 = .ok (.ireturn, 1) := by decide +kernel
theorem dX6_canBe_95 : decode cX6_canBe 95 = .ok (.iinc 3 1, 3) := by decide +kernel
theorem dX6_canBe_98 : decode cX6_canBe 98 = .ok (.iconst 0, 1) := by decide +kernel
theorem dX6_canBe_99 : decode cX6_canBe 99 = .ok (.istore_n 2, 1) := by decide +kernel
theorem dX6_canBe_100 : decode cX6_canBe 100 = .ok (.iconst 0, 1) := by decide +kernel
theorem dX6_canBe_101 : decode cX6_canBe 101 = .ok (.istore 4, 2) := by decide +kernel
theorem dX6_canBe_103 : decode cX6_canBe 103 = .ok (.iload 4, 2) := by decide +kernel
theorem dX6_canBe_105 : decode cX6_canBe 105 = .ok (.aload_n 0, 1) := by decide +kernel
theorem dX6_canBe_106 : decode cX6_canBe 106 = .ok (.getfield 158, 3) := by decide +kernel
theorem dX6_canBe_109 : decode cX6_canBe 109 = .ok (.if_icmp .ge 125, 3) := by decide +kernel
theorem dX6_canBe_112 : decode cX6_canBe 112 = .ok (.aload_n 0, 1) := by decide +kernel
theorem dX6_canBe_113 : decode cX6_canBe 113 = .ok (.iload 4, 2) := by decide +kernel
theorem dX6_canBe_115 : decode cX6_canBe 115 = .ok (.invokevirtual 190, 3) := by decide +kernel
theorem dX6_canBe_118 : decode cX6_canBe 118 = .ok (.ifCond .eq 110, 3) := by decide +kernel
theorem dX6_canBe_121 : decode cX6_canBe 121 = .ok (.aload_n 0, 1) := by decide +kernel
theorem dX6_canBe_122 : decode cX6_canBe 122 = .ok (.getfield 22, 3) := by decide +kernel
theorem dX6_canBe_125 : decode cX6_canBe 125 = .ok (.iload 4, 2) := by decide +kernel
theorem dX6_canBe_127 : decode cX6_canBe 127 = .ok (.iaload, 1) := by decide +kernel
theorem dX6_canBe_128 : decode cX6_canBe 128 = .ok (.bipush 6, 2) := by decide +kernel
theorem dX6_canBe_130 : decode cX6_canBe 130 = .ok (.if_icmp .eq 6, 3) := by decide +kernel
theorem dX6_canBe_133 : decode cX6_canBe 133 = .ok (.goto 95, 3) := by decide +kernel
theorem dX6_canBe_136 : decode cX6_canBe 136 = .ok (.aload_n 0, 1) := by decide +kernel
theorem dX6_canBe_137 : decode cX6_canBe 137 = .ok (.aload_n 0, 1) := by decide +kernel
theorem dX6_canBe_138 : decode cX6_canBe 138 = .ok (.getfield 19, 3) := by decide +kernel
theorem dX6_canBe_141 : decode cX6_canBe 141 = .ok (.iload 4, 2) := by decide +kernel
theorem dX6_canBe_143 : decode cX6_canBe 143 = .ok (.iaload, 1) := by decide +kernel
theorem dX6_canBe_144 : decode cX6_canBe 144 = .ok (.aload_n 0, 1) := by decide +kernel
theorem dX6_canBe_145 : decode cX6_canBe 145 = .ok (.getfield 31, 3) := by decide +kernel
theorem dX6_canBe_148 : decode cX6_canBe 148 = .ok (.iload 4, 2) := by decide +kernel
theorem dX6_canBe_150 : decode cX6_canBe 150 = .ok (.iaload, 1) := by decide +kernel
theorem dX6_canBe_151 : decode cX6_canBe 151 = .ok (.aload_n 0, 1) := by decide +kernel
theorem dX6_canBe_152 : decode cX6_canBe 152 = .ok (.getfield 25, 3) := by decide +kernel
theorem dX6_canBe_155 : decode cX6_canBe 155 = .ok (.iload 4, 2) := by decide +kernel
theorem dX6_canBe_157 : decode cX6_canBe 157 = .ok (.iaload, 1) := by decide +kernel
theorem dX6_canBe_158 : decode cX6_canBe 158 = .ok (.aload_n 0, 1) := by decide +kernel
theorem dX6_canBe_159 : decode cX6_canBe 159 = .ok (.getfield 28, 3) := by decide +kernel
theorem dX6_canBe_162 : decode cX6_canBe 162 = .ok (.iload 4, 2) := by decide +kernel
theorem dX6_canBe_164 : decode cX6_canBe 164 = .ok (.iaload, 1) := by decide +kernel
theorem dX6_canBe_165 : decode cX6_canBe 165 = .ok (.invokevirtual 206, 3) := by decide +kernel
theorem dX6_canBe_168 : decode cX6_canBe 168 = .ok (.ifCond .ne 7, 3) := by decide +kernel
theorem dX6_canBe_171 : decode cX6_canBe 171 = .ok (.iload_n 2, 1) := by decide +kernel
theorem dX6_canBe_172 : decode cX6_canBe 172 = .ok (.ifCond .eq 7, 3) := by decide +kernel
theorem dX6_canBe_175 : decode cX6_canBe 175 = .ok (.iconst 1, 1) := by decide +kernel
theorem dX6_canBe_176 : decode cX6_canBe 176 = .ok (.goto 4, 3) := by decide +kernel
theorem dX6_canBe_179 : decode cX6_canBe 179 = .ok (.iconst 0, 1) := by decide +kernel
theorem dX6_canBe_180 : decode cX6_canBe 180 = .ok (.istore_n 2, 1) := by decide +kernel
theorem dX6_canBe_181 : decode cX6_canBe 181 = .ok (.aload_n 0, 1) := by decide +kernel
theorem dX6_canBe_182 : decode cX6_canBe 182 = .ok (.aload_n 0, 1) := by decide +kernel
theorem dX6_canBe_183 : decode cX6_canBe 183 = .ok (.getfield 31, 3) := by decide +kernel
theorem dX6_canBe_186 : decode cX6_canBe 186 = .ok (.iload 4, 2) := by decide +kernel
theorem dX6_canBe_188 : decode cX6_canBe 188 = .ok (.iaload, 1) := by decide +kernel
theorem dX6_canBe_189 : decode cX6_canBe 189 = .ok (.aload_n 0, 1) := by decide +kernel
theorem dX6_canBe_190 : decode cX6_canBe 190 = .ok (.getfield 19, 3) := by decide +kernel
theorem dX6_canBe_193 : decode cX6_canBe 193 = .ok (.iload 4, 2) := by decide +kernel
theorem dX6_canBe_195 : decode cX6_canBe 195 = .ok (.iaload, 1) := by decide +kernel
theorem dX6_canBe_196 : decode cX6_canBe 196 = .ok (.aload_n 0, 1) := by decide +kernel
theorem dX6_canBe_197 : decode cX6_canBe 197 = .ok (.getfield 28, 3) := by decide +kernel
theorem dX6_canBe_200 : decode cX6_canBe 200 = .ok (.iload 4, 2) := by decide +kernel
theorem dX6_canBe_202 : decode cX6_canBe 202 = .ok (.iaload, 1) := by decide +kernel
theorem dX6_canBe_203 : decode cX6_canBe 203 = .ok (.ineg, 1) := by decide +kernel
theorem dX6_canBe_204 : decode cX6_canBe 204 = .ok (.aload_n 0, 1) := by decide +kernel
theorem dX6_canBe_205 : decode cX6_canBe 205 = .ok (.getfield 25, 3) := by decide +kernel
theorem dX6_canBe_208 : decode cX6_canBe 208 = .ok (.iload 4, 2) := by decide +kernel
theorem dX6_canBe_210 : decode cX6_canBe 210 = .ok (.iaload, 1) := by decide +kernel
theorem dX6_canBe_211 : decode cX6_canBe 211 = .ok (.ineg, 1) := by decide +kernel
theorem dX6_canBe_212 : decode cX6_canBe 212 = .ok (.invokevirtual 206, 3) := by decide +kernel
theorem dX6_canBe_215 : decode cX6_canBe 215 = .ok (.ifCond .ne 7, 3) := by decide +kernel
theorem dX6_canBe_218 : decode cX6_canBe 218 = .ok (.iload_n 2, 1) := by decide +kernel
theorem dX6_canBe_219 : decode cX6_canBe 219 = .ok (.ifCond .eq 7, 3) := by decide +kernel
theorem dX6_canBe_222 : decode cX6_canBe 222 = .ok (.iconst 1, 1) := by decide +kernel
theorem dX6_canBe_223 : decode cX6_canBe 223 = .ok (.goto 4, 3) := by decide +kernel
theorem dX6_canBe_226 : decode cX6_canBe 226 = .ok (.iconst 0, 1) := by decide +kernel
theorem dX6_canBe_227 : decode cX6_canBe 227 = .ok (.istore_n 2, 1) := by decide +kernel
theorem dX6_canBe_228 : decode cX6_canBe 228 = .ok (.iinc 4 1, 3) := by decide +kernel
theorem dX6_canBe_231 : decode cX6_canBe 231 = .ok (.goto (-128), 3) := by decide +kernel
theorem dX6_canBe_234 : decode cX6_canBe 234 = .ok (.iconst 0, 1) := by decide +kernel
theorem dX6_canBe_235 : decode cX6_canBe 235 = .ok (.istore 4, 2) := by decide +kernel
theorem dX6_canBe_237 : decode cX6_canBe 237 = .ok (.iload 4, 2) := by decide +kernel
theorem dX6_canBe_239 : decode cX6_canBe 239 = .ok (.aload_n 0, 1) := by decide +kernel
theorem dX6_canBe_240 : decode cX6_canBe 240 = .ok (.getfield 151, 3) := by decide +kernel
theorem dX6_canBe_243 : decode cX6_canBe 243 = .ok (.if_icmp .ge 28, 3) := by decide +kernel
theorem dX6_canBe_246 : decode cX6_canBe 246 = .ok (.aload_n 0, 1) := by decide +kernel
theorem dX6_canBe_247 : decode cX6_canBe 247 = .ok (.getfield 68, 3) := by decide +kernel
theorem dX6_canBe_250 : decode cX6_canBe 250 = .ok (.iload 4, 2) := by decide +kernel
theorem dX6_canBe_252 : decode cX6_canBe 252 = .ok (.iaload, 1) := by decide +kernel
theorem dX6_canBe_253 : decode cX6_canBe 253 = .ok (.aload_n 0, 1) := by decide +kernel
theorem dX6_canBe_254 : decode cX6_canBe 254 = .ok (.getfield 71, 3) := by decide +kernel
theorem dX6_canBe_257 : decode cX6_canBe 257 = .ok (.iload 4, 2) := by decide +kernel
theorem dX6_canBe_259 : decode cX6_canBe 259 = .ok (.iaload, 1) := by decide +kernel
theorem dX6_canBe_260 : decode cX6_canBe 260 = .ok (.if_icmp .le 5, 3) := by decide +kernel
theorem dX6_canBe_263 : decode cX6_canBe 263 = .ok (.iconst 0, 1) := by decide +kernel
theorem dX6_canBe_264 : decode cX6_canBe 264 = .ok (.ireturn, 1) := by decide +kernel
theorem dX6_canBe_265 : decode cX6_canBe 265 = .ok (.iinc 4 1, 3) := by decide +kernel
theorem dX6_canBe_268 : decode cX6_canBe 268 = .ok (.goto (-31), 3) := by decide +kernel
theorem dX6_canBe_271 : decode cX6_canBe 271 = .ok (.goto (-188), 3) := by decide +kernel
theorem dX6_canBe_274 : decode cX6_canBe 274 = .ok (.iconst 1, 1) := by decide +kernel
theorem dX6_canBe_275 : decode cX6_canBe 275 = .ok (.ireturn, 1) := by decide +kernel
theorem dX6_narrows_0 : decode cX6_narrows 0 = .ok (.aload_n 0, 1) := by decide +kernel
theorem dX6_narrows_1 : decode cX6_narrows 1 = .ok (.getfield 68, 3) := by decide +kernel
theorem dX6_narrows_4 : decode cX6_narrows 4 = .ok (.iload_n 2, 1) := by decide +kernel
theorem dX6_narrows_5 : decode cX6_narrows 5 = .ok (.iaload, 1) := by decide +kernel
theorem dX6_narrows_6 : decode cX6_narrows 6 = .ok (.iload_n 3, 1) := by decide +kernel
theorem dX6_narrows_7 : decode cX6_narrows 7 = .ok (.iadd, 1) := by decide +kernel
theorem dX6_narrows_8 : decode cX6_narrows 8 = .ok (.aload_n 0, 1) := by decide +kernel
theorem dX6_narrows_9 : decode cX6_narrows 9 = .ok (.getfield 68, 3) := by decide +kernel
theorem dX6_narrows_12 : decode cX6_narrows 12 = .ok (.iload_n 1, 1) := by decide +kernel
theorem dX6_narrows_13 : decode cX6_narrows 13 = .ok (.iaload, 1) := by decide +kernel
theorem dX6_narrows_14 : decode cX6_narrows 14 = .ok (.if_icmp .gt 21, 3) := by decide +kernel
theorem dX6_narrows_17 : decode cX6_narrows 17 = .ok (.aload_n 0, 1) := by decide +kernel
theorem dX6_narrows_18 : decode cX6_narrows 18 = .ok (.getfield 71, 3) := by decide +kernel
theorem dX6_narrows_21 : decode cX6_narrows 21 = .ok (.iload_n 2, 1) := by decide +kernel
theorem dX6_narrows_22 : decode cX6_narrows 22 = .ok (.iaload, 1) := by decide +kernel
theorem dX6_narrows_23 : decode cX6_narrows 23 = .ok (.iload 4, 2) := by decide +kernel
theorem dX6_narrows_25 : decode cX6_narrows 25 = .ok (.iadd, 1) := by decide +kernel
theorem dX6_narrows_26 : decode cX6_narrows 26 = .ok (.aload_n 0, 1) := by decide +kernel
theorem dX6_narrows_27 : decode cX6_narrows 27 = .ok (.getfield 71, 3) := by decide +kernel
theorem dX6_narrows_30 : decode cX6_narrows 30 = .ok (.iload_n 1, 1) := by decide +kernel
theorem dX6_narrows_31 : decode cX6_narrows 31 = .ok (.iaload, 1) := by decide +kernel
theorem dX6_narrows_32 : decode cX6_narrows 32 = .ok (.if_icmp .ge 7, 3) := by decide +kernel
theorem dX6_narrows_35 : decode cX6_narrows 35 = .ok (.iconst 1, 1) := by decide +kernel
theorem dX6_narrows_36 : decode cX6_narrows 36 = .ok (.goto 4, 3) := by decide +kernel
theorem dX6_narrows_39 : decode cX6_narrows 39 = .ok (.iconst 0, 1) := by decide +kernel
theorem dX6_narrows_40 : decode cX6_narrows 40 = .ok (.istore 5, 2) := by decide +kernel
theorem dX6_narrows_42 : decode cX6_narrows 42 = .ok (.aload_n 0, 1) := by decide +kernel
theorem dX6_narrows_43 : decode cX6_narrows 43 = .ok (.getfield 68, 3) := by decide +kernel
theorem dX6_narrows_46 : decode cX6_narrows 46 = .ok (.iload_n 1, 1) := by decide +kernel
theorem dX6_narrows_47 : decode cX6_narrows 47 = .ok (.aload_n 0, 1) := by decide +kernel
theorem dX6_narrows_48 : decode cX6_narrows 48 = .ok (.getfield 68, 3) := by decide +kernel
theorem dX6_narrows_51 : decode cX6_narrows 51 = .ok (.iload_n 1, 1) := by decide +kernel
theorem dX6_narrows_52 : decode cX6_narrows 52 = .ok (.iaload, 1) := by decide +kernel
theorem dX6_narrows_53 : decode cX6_narrows 53 = .ok (.aload_n 0, 1) := by decide +kernel
theorem dX6_narrows_54 : decode cX6_narrows 54 = .ok (.getfield 68, 3) := by decide +kernel
theorem dX6_narrows_57 : decode cX6_narrows 57 = .ok (.iload_n 2, 1) := by decide +kernel
theorem dX6_narrows_58 : decode cX6_narrows 58 = .ok (.iaload, 1) := by decide +kernel
theorem dX6_narrows_59 : decode cX6_narrows 59 = .ok (.iload_n 3, 1) := by decide +kernel
theorem dX6_narrows_60 : decode cX6_narrows 60 = .ok (.iadd, 1) := by decide +kernel
theorem dX6_narrows_61 : decode cX6_narrows 61 = .ok (.invokestatic 128, 3) := by decide +kernel
theorem dX6_narrows_64 : decode cX6_narrows 64 = .ok (.iastore, 1) := by decide +kernel
theorem dX6_narrows_65 : decode cX6_narrows 65 = .ok (.aload_n 0, 1) := by decide +kernel
theorem dX6_narrows_66 : decode cX6_narrows 66 = .ok (.getfield 71, 3) := by decide +kernel
theorem dX6_narrows_69 : decode cX6_narrows 69 = .ok (.iload_n 1, 1) := by decide +kernel
theorem dX6_narrows_70 : decode cX6_narrows 70 = .ok (.aload_n 0, 1) := by decide +kernel
theorem dX6_narrows_71 : decode cX6_narrows 71 = .ok (.getfield 71, 3) := by decide +kernel
theorem dX6_narrows_74 : decode cX6_narrows 74 = .ok (.iload_n 1, 1) := by decide +kernel
theorem dX6_narrows_75 : decode cX6_narrows 75 = .ok (.iaload, 1) := by decide +kernel
theorem dX6_narrows_76 : decode cX6_narrows 76 = .ok (.aload_n 0, 1) := by decide +kernel
theorem dX6_narrows_77 : decode cX6_narrows 77 = .ok (.getfield 71, 3) := by decide +kernel
theorem dX6_narrows_80 : decode cX6_narrows 80 = .ok (.iload_n 2, 1) := by decide +kernel
theorem dX6_narrows_81 : decode cX6_narrows 81 = .ok (.iaload, 1) := by decide +kernel
theorem dX6_narrows_82 : decode cX6_narrows 82 = .ok (.iload 4, 2) := by decide +kernel
theorem dX6_narrows_84 : decode cX6_narrows 84 = .ok (.iadd, 1) := by decide +kernel
theorem dX6_narrows_85 : decode cX6_narrows 85 = .ok (.invokestatic 155, 3) := by decide +kernel
theorem dX6_narrows_88 : decode cX6_narrows 88 = .ok (.iastore, 1) := by decide +kernel
theorem dX6_narrows_89 : decode cX6_narrows 89 = .ok (.iload 5, 2) := by decide +kernel
theorem dX6_narrows_91 : decode cX6_narrows 91 = .ok (.ireturn, 1) := by decide +kernel
set_option maxRecDepth 20000 in
theorem ggX6_walks_X6_eventSpans : GoodIn wsX6_walks wsX6_eventSpans := goodIn_r _ [11, 3, 5, 12, 13, 14, 15, 16, 17, 18, 19, 20, 21, 10, 22, 23, 24, 25, 26, 27, 28, 29, 30, 31, 32, 33, 34, 35, 36, 37, 38, 39, 40, 41, 42, 43, 44, 64, 65, 66, 67, 68, 69, 70, 71, 72, 73, 74, 75, 76, 77, 78, 79, 80, 81, 82, 83, 84, 85, 86, 87, 88, 89, 90, 91, 92, 93, 94, 95, 96, 97, 98, 99, 100, 101, 102, 103, 104, 105, 106] (by decide +kernel) (by decide +kernel)
set_option maxRecDepth 20000 in
theorem gX6_walks_X6_eventSpans : GoodIn wsX6_walks (wsV RX6 209 RX6 yX6_eventSpans wsX6_eventSpans) := goodIn_app (goodIn_of _ (by decide +kernel)) ggX6_walks_X6_eventSpans
set_option maxRecDepth 20000 in
theorem ggX6_walks_X6_canBe : GoodIn wsX6_walks wsX6_canBe := goodIn_r _ [48, 3, 49, 12, 2, 50, 13, 14, 15, 17, 16, 51, 52, 53, 19, 20, 21, 10, 22, 23, 54, 55, 56, 57, 30, 31, 32, 33, 35, 36, 37, 64, 65, 66, 67, 68, 69, 70, 71, 72, 73, 74, 75, 76, 77, 78, 79, 80, 81, 82, 83, 84, 85, 86, 87, 88, 89, 90, 91, 92, 93, 94, 95, 96, 97, 98, 99, 100, 101, 102, 103, 104, 105, 106] (by decide +kernel) (by decide +kernel)
set_option maxRecDepth 20000 in
theorem gX6_walks_X6_canBe : GoodIn wsX6_walks (wsV RX6 222 RX6 yX6_canBe wsX6_canBe) := goodIn_app (goodIn_of _ (by decide +kernel)) ggX6_walks_X6_canBe
set_option maxRecDepth 20000 in
theorem ggX6_walks_X6_widens : GoodIn wsX6_walks wsX6_widens := goodIn_r _ [61, 3, 62, 1, 49, 35, 36, 32, 37, 63, 50, 30, 31, 33, 64, 65, 66, 67, 68, 69, 70, 71, 72, 73, 74, 75, 76, 77, 78, 79, 80, 81, 82, 83, 84, 85, 86, 87, 88, 89, 90, 91, 92, 93, 94, 95, 96, 97, 98, 99, 100, 101, 102, 103, 104, 105, 106] (by decide +kernel) (by decide +kernel)
set_option maxRecDepth 20000 in
theorem gX6_walks_X6_widens : GoodIn wsX6_walks (wsV RX6 225 RX6 yX6_widens wsX6_widens) := goodIn_app (goodIn_of _ (by decide +kernel)) ggX6_walks_X6_widens
theorem dX6_walks_0 : decode cX6_walks 0 = .ok (.aload_n 0, 1) := by decide +kernel
theorem dX6_walks_1 : decode cX6_walks 1 = .ok (.invokevirtual 209, 3) := by decide +kernel
theorem dX6_walks_4 : decode cX6_walks 4 = .ok (.aload_n 0, 1) := by decide +kernel
theorem dX6_walks_5 : decode cX6_walks 5 = .ok (.iconst 0, 1) := by decide +kernel
theorem dX6_walks_6 : decode cX6_walks 6 = .ok (.putfield 212, 3) := by decide +kernel
theorem dX6_walks_9 : decode cX6_walks 9 = .ok (.iconst 0, 1) := by decide +kernel
theorem dX6_walks_10 : decode cX6_walks 10 = .ok (.istore_n 2, 1) := by decide +kernel
theorem dX6_walks_11 : decode cX6_walks 11 = .ok (.aload_n 0, 1) := by decide +kernel
theorem dX6_walks_12 : decode cX6_walks 12 = .ok (.getfield 74, 3) := by decide +kernel
theorem dX6_walks_15 : decode cX6_walks 15 = .ok (.iconst 0, 1) := by decide +kernel
theorem dX6_walks_16 : decode cX6_walks 16 = .ok (.iconst (-1), 1) := by decide +kernel
theorem dX6_walks_17 : decode cX6_walks 17 = .ok (.iastore, 1) := by decide +kernel
theorem dX6_walks_18 : decode cX6_walks 18 = .ok (.aload_n 0, 1) := by decide +kernel
theorem dX6_walks_19 : decode cX6_walks 19 = .ok (.getfield 151, 3) := by decide +kernel
theorem dX6_walks_22 : decode cX6_walks 22 = .ok (.ifCond .ne 9, 3) := by decide +kernel
theorem dX6_walks_25 : decode cX6_walks 25 = .ok (.aload_n 0, 1) := by decide +kernel
theorem dX6_walks_26 : decode cX6_walks 26 = .ok (.iconst 1, 1) := by decide +kernel
theorem dX6_walks_27 : decode cX6_walks 27 = .ok (.putfield 212, 3) := by decide +kernel
theorem dX6_walks_30 : decode cX6_walks 30 = .ok (.return_, 1) := by decide +kernel
theorem dX6_walks_31 : decode cX6_walks 31 = .ok (.iload_n 2, 1) := by decide +kernel
theorem dX6_walks_32 : decode cX6_walks 32 = .ok (.ifCond .lt 112, 3) := by decide +kernel
theorem dX6_walks_35 : decode cX6_walks 35 = .ok (.aload_n 0, 1) := by decide +kernel
theorem dX6_walks_36 : decode cX6_walks 36 = .ok (.getfield 216, 3) := by decide +kernel
theorem dX6_walks_39 : decode cX6_walks 39 = .ok (.ifCond .ne 105, 3) := by decide +kernel
theorem dX6_walks_42 : decode cX6_walks 42 = .ok (.aload_n 0, 1) := by decide +kernel
theorem dX6_walks_43 : decode cX6_walks 43 = .ok (.getfield 74, 3) := by decide +kernel
theorem dX6_walks_46 : decode cX6_walks 46 = .ok (.iload_n 2, 1) := by decide +kernel
theorem dX6_walks_47 : decode cX6_walks 47 = .ok (.dup2, 1) := by decide +kernel
theorem dX6_walks_48 : decode cX6_walks 48 = .ok (.iaload, 1) := by decide +kernel
theorem dX6_walks_49 : decode cX6_walks 49 = .ok (.iconst 1, 1) := by decide +kernel
theorem dX6_walks_50 : decode cX6_walks 50 = .ok (.iadd, 1) := by decide +kernel
theorem dX6_walks_51 : decode cX6_walks 51 = .ok (.iastore, 1) := by decide +kernel
theorem dX6_walks_52 : decode cX6_walks 52 = .ok (.aload_n 0, 1) := by decide +kernel
theorem dX6_walks_53 : decode cX6_walks 53 = .ok (.getfield 74, 3) := by decide +kernel
theorem dX6_walks_56 : decode cX6_walks 56 = .ok (.iload_n 2, 1) := by decide +kernel
theorem dX6_walks_57 : decode cX6_walks 57 = .ok (.iaload, 1) := by decide +kernel
theorem dX6_walks_58 : decode cX6_walks 58 = .ok (.aload_n 0, 1) := by decide +kernel
theorem dX6_walks_59 : decode cX6_walks 59 = .ok (.getfield 59, 3) := by decide +kernel
theorem dX6_walks_62 : decode cX6_walks 62 = .ok (.iload_n 2, 1) := by decide +kernel
theorem dX6_walks_63 : decode cX6_walks 63 = .ok (.iaload, 1) := by decide +kernel
theorem dX6_walks_64 : decode cX6_walks 64 = .ok (.if_icmp .lt 9, 3) := by decide +kernel
theorem dX6_walks_67 : decode cX6_walks 67 = .ok (.iinc 2 (-1), 3) := by decide +kernel
theorem dX6_walks_70 : decode cX6_walks 70 = .ok (.goto (-39), 3) := by decide +kernel
theorem dX6_walks_73 : decode cX6_walks 73 = .ok (.aload_n 0, 1) := by decide +kernel
theorem dX6_walks_74 : decode cX6_walks 74 = .ok (.getfield 219, 3) := by decide +kernel
theorem dX6_walks_77 : decode cX6_walks 77 = .ok (.sipush 20000, 3) := by decide +kernel
theorem dX6_walks_80 : decode cX6_walks 80 = .ok (.if_icmp .ne 9, 3) := by decide +kernel
theorem dX6_walks_83 : decode cX6_walks 83 = .ok (.aload_n 0, 1) := by decide +kernel
theorem dX6_walks_84 : decode cX6_walks 84 = .ok (.iconst 1, 1) := by decide +kernel
theorem dX6_walks_85 : decode cX6_walks 85 = .ok (.putfield 216, 3) := by decide +kernel
theorem dX6_walks_88 : decode cX6_walks 88 = .ok (.return_, 1) := by decide +kernel
theorem dX6_walks_89 : decode cX6_walks 89 = .ok (.aload_n 0, 1) := by decide +kernel
theorem dX6_walks_90 : decode cX6_walks 90 = .ok (.dup, 1) := by decide +kernel
theorem dX6_walks_91 : decode cX6_walks 91 = .ok (.getfield 219, 3) := by decide +kernel
theorem dX6_walks_94 : decode cX6_walks 94 = .ok (.iconst 1, 1) := by decide +kernel
theorem dX6_walks_95 : decode cX6_walks 95 = .ok (.iadd, 1) := by decide +kernel
theorem dX6_walks_96 : decode cX6_walks 96 = .ok (.putfield 219, 3) := by decide +kernel
theorem dX6_walks_99 : decode cX6_walks 99 = .ok (.aload_n 0, 1) := by decide +kernel
theorem dX6_walks_100 : decode cX6_walks 100 = .ok (.iload_n 2, 1) := by decide +kernel
theorem dX6_walks_101 : decode cX6_walks 101 = .ok (.iconst 1, 1) := by decide +kernel
theorem dX6_walks_102 : decode cX6_walks 102 = .ok (.iadd, 1) := by decide +kernel
theorem dX6_walks_103 : decode cX6_walks 103 = .ok (.invokevirtual 222, 3) := by decide +kernel
theorem dX6_walks_106 : decode cX6_walks 106 = .ok (.ifCond .ne 6, 3) := by decide +kernel
theorem dX6_walks_109 : decode cX6_walks 109 = .ok (.goto (-78), 3) := by decide +kernel
theorem dX6_walks_112 : decode cX6_walks 112 = .ok (.iload_n 2, 1) := by decide +kernel
theorem dX6_walks_113 : decode cX6_walks 113 = .ok (.iconst 1, 1) := by decide +kernel
theorem dX6_walks_114 : decode cX6_walks 114 = .ok (.iadd, 1) := by decide +kernel
theorem dX6_walks_115 : decode cX6_walks 115 = .ok (.aload_n 0, 1) := by decide +kernel
theorem dX6_walks_116 : decode cX6_walks 116 = .ok (.getfield 151, 3) := by decide +kernel
theorem dX6_walks_119 : decode cX6_walks 119 = .ok (.if_icmp .ge 16, 3) := by decide +kernel
theorem dX6_walks_122 : decode cX6_walks 122 = .ok (.iinc 2 1, 3) := by decide +kernel
theorem dX6_walks_125 : decode cX6_walks 125 = .ok (.aload_n 0, 1) := by decide +kernel
theorem dX6_walks_126 : decode cX6_walks 126 = .ok (.getfield 74, 3) := by decide +kernel
theorem dX6_walks_129 : decode cX6_walks 129 = .ok (.iload_n 2, 1) := by decide +kernel
theorem dX6_walks_130 : decode cX6_walks 130 = .ok (.iconst (-1), 1) := by decide +kernel
theorem dX6_walks_131 : decode cX6_walks 131 = .ok (.iastore, 1) := by decide +kernel
theorem dX6_walks_132 : decode cX6_walks 132 = .ok (.goto (-101), 3) := by decide +kernel
theorem dX6_walks_135 : decode cX6_walks 135 = .ok (.aload_n 0, 1) := by decide +kernel
theorem dX6_walks_136 : decode cX6_walks 136 = .ok (.invokevirtual 225, 3) := by decide +kernel
theorem dX6_walks_139 : decode cX6_walks 139 = .ok (.iload_n 1, 1) := by decide +kernel
theorem dX6_walks_140 : decode cX6_walks 140 = .ok (.ifCond .ne (-109), 3) := by decide +kernel
theorem dX6_walks_143 : decode cX6_walks 143 = .ok (.return_, 1) := by decide +kernel
theorem dX6_walks_144 : decode cX6_walks 144 = .ok (.return_, 1) := by decide +kernel
theorem dX6_widens_0 : decode cX6_widens 0 = .ok (.iconst 0, 1) := by decide +kernel
theorem dX6_widens_1 : decode cX6_widens 1 = .ok (.istore_n 1, 1) := by decide +kernel
theorem dX6_widens_2 : decode cX6_widens 2 = .ok (.iload_n 1, 1) := by decide +kernel
theorem dX6_widens_3 : decode cX6_widens 3 = .ok (.aload_n 0, 1) := by decide +kernel
theorem dX6_widens_4 : decode cX6_widens 4 = .ok (.getfield 151, 3) := by decide +kernel
theorem dX6_widens_7 : decode cX6_widens 7 = .ok (.if_icmp .ge 83, 3) := by decide +kernel
theorem dX6_widens_10 : decode cX6_widens 10 = .ok (.aload_n 0, 1) := by decide +kernel
theorem dX6_widens_11 : decode cX6_widens 11 = .ok (.getfield 77, 3) := by decide +kernel
theorem dX6_widens_14 : decode cX6_widens 14 = .ok (.iload_n 1, 1) := by decide +kernel
theorem dX6_widens_15 : decode cX6_widens 15 = .ok (.aload_n 0, 1) := by decide +kernel
theorem dX6_widens_16 : decode cX6_widens 16 = .ok (.getfield 212, 3) := by decide +kernel
theorem dX6_widens_19 : decode cX6_widens 19 = .ok (.ifCond .eq 21, 3) := by decide +kernel
theorem dX6_widens_22 : decode cX6_widens 22 = .ok (.aload_n 0, 1) := by decide +kernel
theorem dX6_widens_23 : decode cX6_widens 23 = .ok (.getfield 77, 3) := by decide +kernel
theorem dX6_widens_26 : decode cX6_widens 26 = .ok (.iload_n 1, 1) := by decide +kernel
theorem dX6_widens_27 : decode cX6_widens 27 = .ok (.iaload, 1) := by decide +kernel
theorem dX6_widens_28 : decode cX6_widens 28 = .ok (.aload_n 0, 1) := by decide +kernel
theorem dX6_widens_29 : decode cX6_widens 29 = .ok (.getfield 68, 3) := by decide +kernel
theorem dX6_widens_32 : decode cX6_widens 32 = .ok (.iload_n 1, 1) := by decide +kernel
theorem dX6_widens_33 : decode cX6_widens 33 = .ok (.iaload, 1) := by decide +kernel
theorem dX6_widens_34 : decode cX6_widens 34 = .ok (.invokestatic 155, 3) := by decide +kernel
theorem dX6_widens_37 : decode cX6_widens 37 = .ok (.goto 9, 3) := by decide +kernel
theorem dX6_widens_40 : decode cX6_widens 40 = .ok (.aload_n 0, 1) := by decide +kernel
theorem dX6_widens_41 : decode cX6_widens 41 = .ok (.getfield 68, 3) := by decide +kernel
theorem dX6_widens_44 : decode cX6_widens 44 = .ok (.iload_n 1, 1) := by decide +kernel
theorem dX6_widens_45 : decode cX6_widens 45 = .ok (.iaload, 1) := by decide +kernel
theorem dX6_widens_46 : decode cX6_widens 46 = .ok (.iastore, 1) := by decide +kernel
theorem dX6_widens_47 : decode cX6_widens 47 = .ok (.aload_n 0, 1) := by decide +kernel
theorem dX6_widens_48 : decode cX6_widens 48 = .ok (.getfield 80, 3) := by decide +kernel
theorem dX6_widens_51 : decode cX6_widens 51 = .ok (.iload_n 1, 1) := by decide +kernel
theorem dX6_widens_52 : decode cX6_widens 52 = .ok (.aload_n 0, 1) := by decide +kernel
theorem dX6_widens_53 : decode cX6_widens 53 = .ok (.getfield 212, 3) := by decide +kernel
theorem dX6_widens_56 : decode cX6_widens 56 = .ok (.ifCond .eq 21, 3) := by decide +kernel
theorem dX6_widens_59 : decode cX6_widens 59 = .ok (.aload_n 0, 1) := by decide +kernel
theorem dX6_widens_60 : decode cX6_widens 60 = .ok (.getfield 80, 3) := by decide +kernel
theorem dX6_widens_63 : decode cX6_widens 63 = .ok (.iload_n 1, 1) := by decide +kernel
theorem dX6_widens_64 : decode cX6_widens 64 = .ok (.iaload, 1) := by decide +kernel
theorem dX6_widens_65 : decode cX6_widens 65 = .ok (.aload_n 0, 1) := by decide +kernel
theorem dX6_widens_66 : decode cX6_widens 66 = .ok (.getfield 71, 3) := by decide +kernel
theorem dX6_widens_69 : decode cX6_widens 69 = .ok (.iload_n 1, 1) := by decide +kernel
theorem dX6_widens_70 : decode cX6_widens 70 = .ok (.iaload, 1) := by decide +kernel
theorem dX6_widens_71 : decode cX6_widens 71 = .ok (.invokestatic 128, 3) := by decide +kernel
theorem dX6_widens_74 : decode cX6_widens 74 = .ok (.goto 9, 3) := by decide +kernel
theorem dX6_widens_77 : decode cX6_widens 77 = .ok (.aload_n 0, 1) := by decide +kernel
theorem dX6_widens_78 : decode cX6_widens 78 = .ok (.getfield 71, 3) := by decide +kernel
theorem dX6_widens_81 : decode cX6_widens 81 = .ok (.iload_n 1, 1) := by decide +kernel
theorem dX6_widens_82 : decode cX6_widens 82 = .ok (.iaload, 1) := by decide +kernel
theorem dX6_widens_83 : decode cX6_widens 83 = .ok (.iastore, 1) := by decide +kernel
theorem dX6_widens_84 : decode cX6_widens 84 = .ok (.iinc 1 1, 3) := by decide +kernel
theorem dX6_widens_87 : decode cX6_widens 87 = .ok (.goto (-85), 3) := by decide +kernel
theorem dX6_widens_90 : decode cX6_widens 90 = .ok (.aload_n 0, 1) := by decide +kernel
theorem dX6_widens_91 : decode cX6_widens 91 = .ok (.iconst 1, 1) := by decide +kernel
theorem dX6_widens_92 : decode cX6_widens 92 = .ok (.putfield 212, 3) := by decide +kernel
theorem dX6_widens_95 : decode cX6_widens 95 = .ok (.return_, 1) := by decide +kernel
theorem dX6_begins_0 : decode cX6_begins 0 = .ok (.aload_n 0, 1) := by decide +kernel
theorem dX6_begins_1 : decode cX6_begins 1 = .ok (.iconst 0, 1) := by decide +kernel
theorem dX6_begins_2 : decode cX6_begins 2 = .ok (.putfield 219, 3) := by decide +kernel
theorem dX6_begins_5 : decode cX6_begins 5 = .ok (.aload_n 0, 1) := by decide +kernel
theorem dX6_begins_6 : decode cX6_begins 6 = .ok (.iconst 0, 1) := by decide +kernel
theorem dX6_begins_7 : decode cX6_begins 7 = .ok (.putfield 216, 3) := by decide +kernel
theorem dX6_begins_10 : decode cX6_begins 10 = .ok (.aload_n 0, 1) := by decide +kernel
theorem dX6_begins_11 : decode cX6_begins 11 = .ok (.iload_n 1, 1) := by decide +kernel
theorem dX6_begins_12 : decode cX6_begins 12 = .ok (.putfield 187, 3) := by decide +kernel
theorem dX6_begins_15 : decode cX6_begins 15 = .ok (.aload_n 0, 1) := by decide +kernel
theorem dX6_begins_16 : decode cX6_begins 16 = .ok (.iconst (-1), 1) := by decide +kernel
theorem dX6_begins_17 : decode cX6_begins 17 = .ok (.putfield 196, 3) := by decide +kernel
theorem dX6_begins_20 : decode cX6_begins 20 = .ok (.return_, 1) := by decide +kernel
theorem dX6_isEvent_0 : decode cX6_isEvent 0 = .ok (.iload_n 1, 1) := by decide +kernel
theorem dX6_isEvent_1 : decode cX6_isEvent 1 = .ok (.ifCond .lt 15, 3) := by decide +kernel
theorem dX6_isEvent_4 : decode cX6_isEvent 4 = .ok (.iload_n 1, 1) := by decide +kernel
theorem dX6_isEvent_5 : decode cX6_isEvent 5 = .ok (.aload_n 0, 1) := by decide +kernel
theorem dX6_isEvent_6 : decode cX6_isEvent 6 = .ok (.getfield 151, 3) := by decide +kernel
theorem dX6_isEvent_9 : decode cX6_isEvent 9 = .ok (.if_icmp .ge 7, 3) := by decide +kernel
theorem dX6_isEvent_12 : decode cX6_isEvent 12 = .ok (.iconst 1, 1) := by decide +kernel
theorem dX6_isEvent_13 : decode cX6_isEvent 13 = .ok (.goto 4, 3) := by decide +kernel
theorem dX6_isEvent_16 : decode cX6_isEvent 16 = .ok (.iconst 0, 1) := by decide +kernel
theorem dX6_isEvent_17 : decode cX6_isEvent 17 = .ok (.ireturn, 1) := by decide +kernel
set_option maxRecDepth 20000 in
theorem ggX6_first_X6_isEvent : GoodIn wsX6_first wsX6_isEvent := goodIn_r _ [9, 10, 82, 83, 84, 85, 86, 87, 88, 89, 90, 91, 92, 93, 94, 95, 96, 97, 98, 99, 100, 101, 102, 103, 104, 105, 106, 107, 108, 109, 110, 111, 112, 113, 114, 115, 116, 117, 118, 119, 120, 121, 122, 123, 124] (by decide +kernel) (by decide +kernel)
set_option maxRecDepth 20000 in
theorem gX6_first_X6_isEvent : GoodIn wsX6_first (wsV RX6 228 RX6 yX6_isEvent wsX6_isEvent) := goodIn_app (goodIn_of _ (by decide +kernel)) ggX6_first_X6_isEvent
set_option maxRecDepth 20000 in
theorem ggX6_first_X6_takenAll : GoodIn wsX6_first wsX6_takenAll := goodIn_r _ [14, 15, 16, 82, 83, 84, 85, 86, 87, 88, 89, 90, 91, 92, 93, 94, 95, 96, 97, 98, 99, 100, 101, 102, 103, 104, 105, 106, 107, 108, 109, 110, 111, 112, 113, 114, 115, 116, 117, 118, 119, 120, 121, 122, 123, 124] (by decide +kernel) (by decide +kernel)
set_option maxRecDepth 20000 in
theorem gX6_first_X6_takenAll : GoodIn wsX6_first (wsV RX6 231 RX6 yX6_takenAll wsX6_takenAll) := goodIn_app (goodIn_of _ (by decide +kernel)) ggX6_first_X6_takenAll
set_option maxRecDepth 20000 in
theorem ggX6_first_X6_begins : GoodIn wsX6_first wsX6_begins := goodIn_r _ [20, 21, 2, 22, 23, 82, 83, 84, 85, 86, 87, 88, 89, 90, 91, 92, 93, 94, 95, 96, 97, 98, 99, 100, 101, 102, 103, 104, 105, 106, 107, 108, 109, 110, 111, 112, 113, 114, 115, 116, 117, 118, 119, 120, 121, 122, 123, 124] (by decide +kernel) (by decide +kernel)
set_option maxRecDepth 20000 in
theorem gX6_first_X6_begins : GoodIn wsX6_first (wsV RX6 235 RX6 yX6_begins wsX6_begins) := goodIn_app (goodIn_of _ (by decide +kernel)) ggX6_first_X6_begins
set_option maxRecDepth 20000 in
theorem ggX6_first_X6_walks : GoodIn wsX6_first wsX6_walks := goodIn_r _ [27, 3, 28, 10, 2, 29, 21, 30, 31, 32, 8, 33, 34, 35, 36, 15, 37, 38, 23, 39, 40, 41, 42, 22, 43, 44, 45, 46, 47, 48, 49, 50, 51, 52, 53, 54, 55, 56, 57, 58, 59, 60, 61, 62, 63, 64, 65, 66, 67, 68, 69, 70, 71, 72, 73, 74, 75, 76, 77, 78, 79, 80, 4, 81, 82, 83, 84, 85, 86, 87, 88, 89, 90, 91, 92, 93, 94, 95, 96, 97, 98, 99, 100, 101, 102, 103, 104, 105, 106, 107, 108, 109, 110, 111, 112, 113, 114, 115, 116, 117, 118, 119, 120, 121, 122, 123, 124] (by decide +kernel) (by decide +kernel)
set_option maxRecDepth 20000 in
theorem gX6_first_X6_walks : GoodIn wsX6_first (wsV RX6 238 RX6 yX6_walks wsX6_walks) := goodIn_app (goodIn_of _ (by decide +kernel)) ggX6_first_X6_walks
theorem dX6_first_0 : decode cX6_first 0 = .ok (.aload_n 0, 1) := by decide +kernel
theorem dX6_first_1 : decode cX6_first 1 = .ok (.iconst 0, 1) := by decide +kernel
theorem dX6_first_2 : decode cX6_first 2 = .ok (.putfield 98, 3) := by decide +kernel
theorem dX6_first_5 : decode cX6_first 5 = .ok (.aload_n 0, 1) := by decide +kernel
theorem dX6_first_6 : decode cX6_first 6 = .ok (.iload_n 1, 1) := by decide +kernel
theorem dX6_first_7 : decode cX6_first 7 = .ok (.invokevirtual 228, 3) := by decide +kernel
theorem dX6_first_10 : decode cX6_first 10 = .ok (.ifCond .ne 5, 3) := by decide +kernel
theorem dX6_first_13 : decode cX6_first 13 = .ok (.iconst (-1), 1) := by decide +kernel
theorem dX6_first_14 : decode cX6_first 14 = .ok (.ireturn, 1) := by decide +kernel
theorem dX6_first_15 : decode cX6_first 15 = .ok (.aload_n 0, 1) := by decide +kernel
theorem dX6_first_16 : decode cX6_first 16 = .ok (.aload_n 0, 1) := by decide +kernel
theorem dX6_first_17 : decode cX6_first 17 = .ok (.invokevirtual 231, 3) := by decide +kernel
theorem dX6_first_20 : decode cX6_first 20 = .ok (.invokevirtual 235, 3) := by decide +kernel
theorem dX6_first_23 : decode cX6_first 23 = .ok (.aload_n 0, 1) := by decide +kernel
theorem dX6_first_24 : decode cX6_first 24 = .ok (.iconst 1, 1) := by decide +kernel
theorem dX6_first_25 : decode cX6_first 25 = .ok (.invokevirtual 238, 3) := by decide +kernel
theorem dX6_first_28 : decode cX6_first 28 = .ok (.aload_n 0, 1) := by decide +kernel
theorem dX6_first_29 : decode cX6_first 29 = .ok (.getfield 216, 3) := by decide +kernel
theorem dX6_first_32 : decode cX6_first 32 = .ok (.ifCond .eq 8, 3) := by decide +kernel
theorem dX6_first_35 : decode cX6_first 35 = .ok (.bipush (-2), 2) := by decide +kernel
theorem dX6_first_37 : decode cX6_first 37 = .ok (.goto 20, 3) := by decide +kernel
theorem dX6_first_40 : decode cX6_first 40 = .ok (.aload_n 0, 1) := by decide +kernel
theorem dX6_first_41 : decode cX6_first 41 = .ok (.getfield 212, 3) := by decide +kernel
theorem dX6_first_44 : decode cX6_first 44 = .ok (.ifCond .eq 12, 3) := by decide +kernel
theorem dX6_first_47 : decode cX6_first 47 = .ok (.aload_n 0, 1) := by decide +kernel
theorem dX6_first_48 : decode cX6_first 48 = .ok (.getfield 77, 3) := by decide +kernel
theorem dX6_first_51 : decode cX6_first 51 = .ok (.iload_n 1, 1) := by decide +kernel
theorem dX6_first_52 : decode cX6_first 52 = .ok (.iaload, 1) := by decide +kernel
theorem dX6_first_53 : decode cX6_first 53 = .ok (.goto 4, 3) := by decide +kernel
theorem dX6_first_56 : decode cX6_first 56 = .ok (.iconst (-1), 1) := by decide +kernel
theorem dX6_first_57 : decode cX6_first 57 = .ok (.ireturn, 1) := by decide +kernel
set_option maxRecDepth 20000 in
theorem ggX6_last_X6_isEvent : GoodIn wsX6_last wsX6_isEvent := goodIn_r _ [9, 10, 82, 83, 84, 85, 86, 87, 88, 89, 90, 91, 92, 93, 94, 95, 96, 97, 98, 99, 100, 101, 102, 103, 104, 105, 106, 107, 108, 109, 110, 111, 112, 113, 114, 115, 116, 117, 118, 119, 120, 121, 122, 123, 124] (by decide +kernel) (by decide +kernel)
set_option maxRecDepth 20000 in
theorem gX6_last_X6_isEvent : GoodIn wsX6_last (wsV RX6 228 RX6 yX6_isEvent wsX6_isEvent) := goodIn_app (goodIn_of _ (by decide +kernel)) ggX6_last_X6_isEvent
set_option maxRecDepth 20000 in
theorem ggX6_last_X6_takenAll : GoodIn wsX6_last wsX6_takenAll := goodIn_r _ [14, 15, 16, 82, 83, 84, 85, 86, 87, 88, 89, 90, 91, 92, 93, 94, 95, 96, 97, 98, 99, 100, 101, 102, 103, 104, 105, 106, 107, 108, 109, 110, 111, 112, 113, 114, 115, 116, 117, 118, 119, 120, 121, 122, 123, 124] (by decide +kernel) (by decide +kernel)
set_option maxRecDepth 20000 in
theorem gX6_last_X6_takenAll : GoodIn wsX6_last (wsV RX6 231 RX6 yX6_takenAll wsX6_takenAll) := goodIn_app (goodIn_of _ (by decide +kernel)) ggX6_last_X6_takenAll
set_option maxRecDepth 20000 in
theorem ggX6_last_X6_begins : GoodIn wsX6_last wsX6_begins := goodIn_r _ [20, 21, 2, 22, 23, 82, 83, 84, 85, 86, 87, 88, 89, 90, 91, 92, 93, 94, 95, 96, 97, 98, 99, 100, 101, 102, 103, 104, 105, 106, 107, 108, 109, 110, 111, 112, 113, 114, 115, 116, 117, 118, 119, 120, 121, 122, 123, 124] (by decide +kernel) (by decide +kernel)
set_option maxRecDepth 20000 in
theorem gX6_last_X6_begins : GoodIn wsX6_last (wsV RX6 235 RX6 yX6_begins wsX6_begins) := goodIn_app (goodIn_of _ (by decide +kernel)) ggX6_last_X6_begins
set_option maxRecDepth 20000 in
theorem ggX6_last_X6_walks : GoodIn wsX6_last wsX6_walks := goodIn_r _ [27, 3, 28, 10, 2, 29, 21, 30, 31, 32, 8, 33, 34, 35, 36, 15, 37, 38, 23, 39, 40, 41, 42, 22, 43, 44, 45, 46, 47, 48, 49, 50, 51, 52, 53, 54, 55, 56, 57, 58, 59, 60, 61, 62, 63, 64, 65, 66, 67, 68, 69, 70, 71, 72, 73, 74, 75, 76, 77, 78, 79, 80, 81, 4, 82, 83, 84, 85, 86, 87, 88, 89, 90, 91, 92, 93, 94, 95, 96, 97, 98, 99, 100, 101, 102, 103, 104, 105, 106, 107, 108, 109, 110, 111, 112, 113, 114, 115, 116, 117, 118, 119, 120, 121, 122, 123, 124] (by decide +kernel) (by decide +kernel)
set_option maxRecDepth 20000 in
theorem gX6_last_X6_walks : GoodIn wsX6_last (wsV RX6 238 RX6 yX6_walks wsX6_walks) := goodIn_app (goodIn_of _ (by decide +kernel)) ggX6_last_X6_walks
theorem dX6_last_0 : decode cX6_last 0 = .ok (.aload_n 0, 1) := by decide +kernel
theorem dX6_last_1 : decode cX6_last 1 = .ok (.iconst 0, 1) := by decide +kernel
theorem dX6_last_2 : decode cX6_last 2 = .ok (.putfield 98, 3) := by decide +kernel
theorem dX6_last_5 : decode cX6_last 5 = .ok (.aload_n 0, 1) := by decide +kernel
theorem dX6_last_6 : decode cX6_last 6 = .ok (.iload_n 1, 1) := by decide +kernel
theorem dX6_last_7 : decode cX6_last 7 = .ok (.invokevirtual 228, 3) := by decide +kernel
theorem dX6_last_10 : decode cX6_last 10 = .ok (.ifCond .ne 5, 3) := by decide +kernel
theorem dX6_last_13 : decode cX6_last 13 = .ok (.iconst (-1), 1) := by decide +kernel
theorem dX6_last_14 : decode cX6_last 14 = .ok (.ireturn, 1) := by decide +kernel
theorem dX6_last_15 : decode cX6_last 15 = .ok (.aload_n 0, 1) := by decide +kernel
theorem dX6_last_16 : decode cX6_last 16 = .ok (.aload_n 0, 1) := by decide +kernel
theorem dX6_last_17 : decode cX6_last 17 = .ok (.invokevirtual 231, 3) := by decide +kernel
theorem dX6_last_20 : decode cX6_last 20 = .ok (.invokevirtual 235, 3) := by decide +kernel
theorem dX6_last_23 : decode cX6_last 23 = .ok (.aload_n 0, 1) := by decide +kernel
theorem dX6_last_24 : decode cX6_last 24 = .ok (.iconst 1, 1) := by decide +kernel
theorem dX6_last_25 : decode cX6_last 25 = .ok (.invokevirtual 238, 3) := by decide +kernel
theorem dX6_last_28 : decode cX6_last 28 = .ok (.aload_n 0, 1) := by decide +kernel
theorem dX6_last_29 : decode cX6_last 29 = .ok (.getfield 216, 3) := by decide +kernel
theorem dX6_last_32 : decode cX6_last 32 = .ok (.ifCond .eq 8, 3) := by decide +kernel
theorem dX6_last_35 : decode cX6_last 35 = .ok (.bipush (-2), 2) := by decide +kernel
theorem dX6_last_37 : decode cX6_last 37 = .ok (.goto 20, 3) := by decide +kernel
theorem dX6_last_40 : decode cX6_last 40 = .ok (.aload_n 0, 1) := by decide +kernel
theorem dX6_last_41 : decode cX6_last 41 = .ok (.getfield 212, 3) := by decide +kernel
theorem dX6_last_44 : decode cX6_last 44 = .ok (.ifCond .eq 12, 3) := by decide +kernel
theorem dX6_last_47 : decode cX6_last 47 = .ok (.aload_n 0, 1) := by decide +kernel
theorem dX6_last_48 : decode cX6_last 48 = .ok (.getfield 80, 3) := by decide +kernel
theorem dX6_last_51 : decode cX6_last 51 = .ok (.iload_n 1, 1) := by decide +kernel
theorem dX6_last_52 : decode cX6_last 52 = .ok (.iaload, 1) := by decide +kernel
theorem dX6_last_53 : decode cX6_last 53 = .ok (.goto 4, 3) := by decide +kernel
theorem dX6_last_56 : decode cX6_last 56 = .ok (.iconst (-1), 1) := by decide +kernel
theorem dX6_last_57 : decode cX6_last 57 = .ok (.ireturn, 1) := by decide +kernel
set_option maxRecDepth 20000 in
theorem ggX6_can_X6_isEvent : GoodIn wsX6_can wsX6_isEvent := goodIn_r _ [10, 11, 86, 87, 88, 89, 90, 91, 92, 93, 94, 95, 96, 97, 98, 99, 100, 101, 102, 103, 104, 105, 106, 107, 108, 109, 110, 111, 112, 113, 114, 115, 116, 117, 118, 119, 120, 121, 122, 123, 124, 125, 126, 127, 128] (by decide +kernel) (by decide +kernel)
set_option maxRecDepth 20000 in
theorem gX6_can_X6_isEvent : GoodIn wsX6_can (wsV RX6 228 RX6 yX6_isEvent wsX6_isEvent) := goodIn_app (goodIn_of _ (by decide +kernel)) ggX6_can_X6_isEvent
set_option maxRecDepth 20000 in
theorem ggX6_can_X6_isDay : GoodIn wsX6_can wsX6_isDay := goodIn_r _ [14, 15] (by decide +kernel) (by decide +kernel)
set_option maxRecDepth 20000 in
theorem gX6_can_X6_isDay : GoodIn wsX6_can (va_wsS RX6 124 yX6_isDay wsX6_isDay) := goodIn_app (goodIn_of _ (by decide +kernel)) ggX6_can_X6_isDay
set_option maxRecDepth 20000 in
theorem ggX6_can_X6_takenAll : GoodIn wsX6_can wsX6_takenAll := goodIn_r _ [19, 20, 21, 86, 87, 88, 89, 90, 91, 92, 93, 94, 95, 96, 97, 98, 99, 100, 101, 102, 103, 104, 105, 106, 107, 108, 109, 110, 111, 112, 113, 114, 115, 116, 117, 118, 119, 120, 121, 122, 123, 124, 125, 126, 127, 128] (by decide +kernel) (by decide +kernel)
set_option maxRecDepth 20000 in
theorem gX6_can_X6_takenAll : GoodIn wsX6_can (wsV RX6 231 RX6 yX6_takenAll wsX6_takenAll) := goodIn_app (goodIn_of _ (by decide +kernel)) ggX6_can_X6_takenAll
set_option maxRecDepth 20000 in
theorem ggX6_can_X6_begins : GoodIn wsX6_can wsX6_begins := goodIn_r _ [25, 26, 4, 27, 2, 86, 87, 88, 89, 90, 91, 92, 93, 94, 95, 96, 97, 98, 99, 100, 101, 102, 103, 104, 105, 106, 107, 108, 109, 110, 111, 112, 113, 114, 115, 116, 117, 118, 119, 120, 121, 122, 123, 124, 125, 126, 127, 128] (by decide +kernel) (by decide +kernel)
set_option maxRecDepth 20000 in
theorem gX6_can_X6_begins : GoodIn wsX6_can (wsV RX6 235 RX6 yX6_begins wsX6_begins) := goodIn_app (goodIn_of _ (by decide +kernel)) ggX6_can_X6_begins
set_option maxRecDepth 20000 in
theorem ggX6_can_X6_walks : GoodIn wsX6_can wsX6_walks := goodIn_r _ [31, 5, 32, 11, 4, 33, 26, 34, 35, 36, 9, 37, 38, 39, 40, 20, 41, 42, 2, 43, 44, 45, 46, 27, 47, 48, 49, 50, 51, 52, 53, 54, 55, 56, 57, 58, 59, 60, 61, 62, 63, 64, 65, 66, 3, 67, 68, 69, 70, 71, 72, 73, 74, 75, 76, 77, 78, 79, 80, 81, 82, 83, 84, 85, 86, 87, 88, 89, 90, 91, 92, 93, 94, 95, 96, 97, 98, 99, 100, 101, 102, 103, 104, 105, 106, 107, 108, 109, 110, 111, 112, 113, 114, 115, 116, 117, 118, 119, 120, 121, 122, 123, 124, 125, 126, 127, 128] (by decide +kernel) (by decide +kernel)
set_option maxRecDepth 20000 in
theorem gX6_can_X6_walks : GoodIn wsX6_can (wsV RX6 238 RX6 yX6_walks wsX6_walks) := goodIn_app (goodIn_of _ (by decide +kernel)) ggX6_can_X6_walks
theorem dX6_can_0 : decode cX6_can 0 = .ok (.aload_n 0, 1) := by decide +kernel
theorem dX6_can_1 : decode cX6_can 1 = .ok (.iconst 0, 1) := by decide +kernel
theorem dX6_can_2 : decode cX6_can 2 = .ok (.putfield 98, 3) := by decide +kernel
theorem dX6_can_5 : decode cX6_can 5 = .ok (.aload_n 0, 1) := by decide +kernel
theorem dX6_can_6 : decode cX6_can 6 = .ok (.iload_n 1, 1) := by decide +kernel
theorem dX6_can_7 : decode cX6_can 7 = .ok (.invokevirtual 228, 3) := by decide +kernel
theorem dX6_can_10 : decode cX6_can 10 = .ok (.ifCond .eq 10, 3) := by decide +kernel
theorem dX6_can_13 : decode cX6_can 13 = .ok (.iload_n 2, 1) := by decide +kernel
theorem dX6_can_14 : decode cX6_can 14 = .ok (.invokestatic 124, 3) := by decide +kernel
theorem dX6_can_17 : decode cX6_can 17 = .ok (.ifCond .ne 5, 3) := by decide +kernel
theorem dX6_can_20 : decode cX6_can 20 = .ok (.iconst (-1), 1) := by decide +kernel
theorem dX6_can_21 : decode cX6_can 21 = .ok (.ireturn, 1) := by decide +kernel
theorem dX6_can_22 : decode cX6_can 22 = .ok (.aload_n 0, 1) := by decide +kernel
theorem dX6_can_23 : decode cX6_can 23 = .ok (.aload_n 0, 1) := by decide +kernel
theorem dX6_can_24 : decode cX6_can 24 = .ok (.invokevirtual 231, 3) := by decide +kernel
theorem dX6_can_27 : decode cX6_can 27 = .ok (.invokevirtual 235, 3) := by decide +kernel
theorem dX6_can_30 : decode cX6_can 30 = .ok (.aload_n 0, 1) := by decide +kernel
theorem dX6_can_31 : decode cX6_can 31 = .ok (.iload_n 1, 1) := by decide +kernel
theorem dX6_can_32 : decode cX6_can 32 = .ok (.putfield 196, 3) := by decide +kernel
theorem dX6_can_35 : decode cX6_can 35 = .ok (.aload_n 0, 1) := by decide +kernel
theorem dX6_can_36 : decode cX6_can 36 = .ok (.iload_n 2, 1) := by decide +kernel
theorem dX6_can_37 : decode cX6_can 37 = .ok (.putfield 203, 3) := by decide +kernel
theorem dX6_can_40 : decode cX6_can 40 = .ok (.aload_n 0, 1) := by decide +kernel
theorem dX6_can_41 : decode cX6_can 41 = .ok (.iconst 0, 1) := by decide +kernel
theorem dX6_can_42 : decode cX6_can 42 = .ok (.invokevirtual 238, 3) := by decide +kernel
theorem dX6_can_45 : decode cX6_can 45 = .ok (.aload_n 0, 1) := by decide +kernel
theorem dX6_can_46 : decode cX6_can 46 = .ok (.getfield 216, 3) := by decide +kernel
theorem dX6_can_49 : decode cX6_can 49 = .ok (.ifCond .eq 8, 3) := by decide +kernel
theorem dX6_can_52 : decode cX6_can 52 = .ok (.bipush (-2), 2) := by decide +kernel
theorem dX6_can_54 : decode cX6_can 54 = .ok (.goto 15, 3) := by decide +kernel
theorem dX6_can_57 : decode cX6_can 57 = .ok (.aload_n 0, 1) := by decide +kernel
theorem dX6_can_58 : decode cX6_can 58 = .ok (.getfield 212, 3) := by decide +kernel
theorem dX6_can_61 : decode cX6_can 61 = .ok (.ifCond .eq 7, 3) := by decide +kernel
theorem dX6_can_64 : decode cX6_can 64 = .ok (.iconst 1, 1) := by decide +kernel
theorem dX6_can_65 : decode cX6_can 65 = .ok (.goto 4, 3) := by decide +kernel
theorem dX6_can_68 : decode cX6_can 68 = .ok (.iconst 0, 1) := by decide +kernel
theorem dX6_can_69 : decode cX6_can 69 = .ok (.ireturn, 1) := by decide +kernel
set_option maxRecDepth 20000 in
theorem ggX6_agrees_X6_takenAll : GoodIn wsX6_agrees wsX6_takenAll := goodIn_r _ [8, 9, 10, 78, 79, 80, 81, 82, 83, 84, 85, 86, 87, 88, 89, 90, 91, 92, 93, 94, 95, 96, 97, 98, 99, 100, 101, 102, 103, 104, 105, 106, 107, 108, 109, 110, 111, 112, 113, 114, 115, 116, 117, 118, 119, 120] (by decide +kernel) (by decide +kernel)
set_option maxRecDepth 20000 in
theorem gX6_agrees_X6_takenAll : GoodIn wsX6_agrees (wsV RX6 231 RX6 yX6_takenAll wsX6_takenAll) := goodIn_app (goodIn_of _ (by decide +kernel)) ggX6_agrees_X6_takenAll
set_option maxRecDepth 20000 in
theorem ggX6_agrees_X6_begins : GoodIn wsX6_agrees wsX6_begins := goodIn_r _ [14, 15, 2, 16, 17, 78, 79, 80, 81, 82, 83, 84, 85, 86, 87, 88, 89, 90, 91, 92, 93, 94, 95, 96, 97, 98, 99, 100, 101, 102, 103, 104, 105, 106, 107, 108, 109, 110, 111, 112, 113, 114, 115, 116, 117, 118, 119, 120] (by decide +kernel) (by decide +kernel)
set_option maxRecDepth 20000 in
theorem gX6_agrees_X6_begins : GoodIn wsX6_agrees (wsV RX6 235 RX6 yX6_begins wsX6_begins) := goodIn_app (goodIn_of _ (by decide +kernel)) ggX6_agrees_X6_begins
set_option maxRecDepth 20000 in
theorem ggX6_agrees_X6_walks : GoodIn wsX6_agrees wsX6_walks := goodIn_r _ [21, 3, 22, 23, 2, 24, 15, 25, 26, 27, 7, 28, 29, 30, 31, 9, 32, 33, 17, 34, 35, 36, 37, 16, 38, 39, 40, 41, 42, 43, 44, 45, 46, 47, 48, 49, 50, 51, 52, 53, 54, 55, 56, 57, 58, 59, 60, 61, 62, 63, 64, 65, 66, 67, 68, 69, 70, 71, 72, 73, 74, 75, 76, 77, 78, 79, 80, 81, 82, 83, 84, 85, 86, 87, 88, 89, 90, 91, 92, 93, 94, 95, 96, 97, 98, 99, 100, 101, 102, 103, 104, 105, 106, 107, 108, 109, 110, 111, 112, 113, 114, 115, 116, 117, 118, 119, 120] (by decide +kernel) (by decide +kernel)
set_option maxRecDepth 20000 in
theorem gX6_agrees_X6_walks : GoodIn wsX6_agrees (wsV RX6 238 RX6 yX6_walks wsX6_walks) := goodIn_app (goodIn_of _ (by decide +kernel)) ggX6_agrees_X6_walks
theorem dX6_agrees_0 : decode cX6_agrees 0 = .ok (.aload_n 0, 1) := by decide +kernel
theorem dX6_agrees_1 : decode cX6_agrees 1 = .ok (.iconst 0, 1) := by decide +kernel
theorem dX6_agrees_2 : decode cX6_agrees 2 = .ok (.putfield 98, 3) := by decide +kernel
theorem dX6_agrees_5 : decode cX6_agrees 5 = .ok (.aload_n 0, 1) := by decide +kernel
theorem dX6_agrees_6 : decode cX6_agrees 6 = .ok (.aload_n 0, 1) := by decide +kernel
theorem dX6_agrees_7 : decode cX6_agrees 7 = .ok (.invokevirtual 231, 3) := by decide +kernel
theorem dX6_agrees_10 : decode cX6_agrees 10 = .ok (.invokevirtual 235, 3) := by decide +kernel
theorem dX6_agrees_13 : decode cX6_agrees 13 = .ok (.aload_n 0, 1) := by decide +kernel
theorem dX6_agrees_14 : decode cX6_agrees 14 = .ok (.iconst 0, 1) := by decide +kernel
theorem dX6_agrees_15 : decode cX6_agrees 15 = .ok (.invokevirtual 238, 3) := by decide +kernel
theorem dX6_agrees_18 : decode cX6_agrees 18 = .ok (.aload_n 0, 1) := by decide +kernel
theorem dX6_agrees_19 : decode cX6_agrees 19 = .ok (.getfield 216, 3) := by decide +kernel
theorem dX6_agrees_22 : decode cX6_agrees 22 = .ok (.ifCond .eq 8, 3) := by decide +kernel
theorem dX6_agrees_25 : decode cX6_agrees 25 = .ok (.bipush (-2), 2) := by decide +kernel
theorem dX6_agrees_27 : decode cX6_agrees 27 = .ok (.goto 15, 3) := by decide +kernel
theorem dX6_agrees_30 : decode cX6_agrees 30 = .ok (.aload_n 0, 1) := by decide +kernel
theorem dX6_agrees_31 : decode cX6_agrees 31 = .ok (.getfield 212, 3) := by decide +kernel
theorem dX6_agrees_34 : decode cX6_agrees 34 = .ok (.ifCond .eq 7, 3) := by decide +kernel
theorem dX6_agrees_37 : decode cX6_agrees 37 = .ok (.iconst 1, 1) := by decide +kernel
theorem dX6_agrees_38 : decode cX6_agrees 38 = .ok (.goto 4, 3) := by decide +kernel
theorem dX6_agrees_41 : decode cX6_agrees 41 = .ok (.iconst 0, 1) := by decide +kernel
theorem dX6_agrees_42 : decode cX6_agrees 42 = .ok (.ireturn, 1) := by decide +kernel
theorem dX6_bitsOf_0 : decode cX6_bitsOf 0 = .ok (.iconst 0, 1) := by decide +kernel
theorem dX6_bitsOf_1 : decode cX6_bitsOf 1 = .ok (.istore_n 1, 1) := by decide +kernel
theorem dX6_bitsOf_2 : decode cX6_bitsOf 2 = .ok (.iload_n 0, 1) := by decide +kernel
theorem dX6_bitsOf_3 : decode cX6_bitsOf 3 = .ok (.istore_n 2, 1) := by decide +kernel
theorem dX6_bitsOf_4 : decode cX6_bitsOf 4 = .ok (.iload_n 2, 1) := by decide +kernel
theorem dX6_bitsOf_5 : decode cX6_bitsOf 5 = .ok (.ifCond .le 16, 3) := by decide +kernel
theorem dX6_bitsOf_8 : decode cX6_bitsOf 8 = .ok (.iload_n 1, 1) := by decide +kernel
theorem dX6_bitsOf_9 : decode cX6_bitsOf 9 = .ok (.iload_n 2, 1) := by decide +kernel
theorem dX6_bitsOf_10 : decode cX6_bitsOf 10 = .ok (.iconst 1, 1) := by decide +kernel
theorem dX6_bitsOf_11 : decode cX6_bitsOf 11 = .ok (.iand, 1) := by decide +kernel
theorem dX6_bitsOf_12 : decode cX6_bitsOf 12 = .ok (.iadd, 1) := by decide +kernel
theorem dX6_bitsOf_13 : decode cX6_bitsOf 13 = .ok (.istore_n 1, 1) := by decide +kernel
theorem dX6_bitsOf_14 : decode cX6_bitsOf 14 = .ok (.iload_n 2, 1) := by decide +kernel
theorem dX6_bitsOf_15 : decode cX6_bitsOf 15 = .ok (.iconst 1, 1) := by decide +kernel
theorem dX6_bitsOf_16 : decode cX6_bitsOf 16 = .ok (.ishr, 1) := by decide +kernel
theorem dX6_bitsOf_17 : decode cX6_bitsOf 17 = .ok (.istore_n 2, 1) := by decide +kernel
theorem dX6_bitsOf_18 : decode cX6_bitsOf 18 = .ok (.goto (-14), 3) := by decide +kernel
theorem dX6_bitsOf_21 : decode cX6_bitsOf 21 = .ok (.iload_n 1, 1) := by decide +kernel
theorem dX6_bitsOf_22 : decode cX6_bitsOf 22 = .ok (.ireturn, 1) := by decide +kernel
theorem dX6_isAhead_0 : decode cX6_isAhead 0 = .ok (.iload_n 0, 1) := by decide +kernel
theorem dX6_isAhead_1 : decode cX6_isAhead 1 = .ok (.iload_n 1, 1) := by decide +kernel
theorem dX6_isAhead_2 : decode cX6_isAhead 2 = .ok (.ixor, 1) := by decide +kernel
theorem dX6_isAhead_3 : decode cX6_isAhead 3 = .ok (.istore_n 2, 1) := by decide +kernel
theorem dX6_isAhead_4 : decode cX6_isAhead 4 = .ok (.iload_n 0, 1) := by decide +kernel
theorem dX6_isAhead_5 : decode cX6_isAhead 5 = .ok (.iload_n 2, 1) := by decide +kernel
theorem dX6_isAhead_6 : decode cX6_isAhead 6 = .ok (.iand, 1) := by decide +kernel
theorem dX6_isAhead_7 : decode cX6_isAhead 7 = .ok (.iload_n 2, 1) := by decide +kernel
theorem dX6_isAhead_8 : decode cX6_isAhead 8 = .ok (.ineg, 1) := by decide +kernel
theorem dX6_isAhead_9 : decode cX6_isAhead 9 = .ok (.iand, 1) := by decide +kernel
theorem dX6_isAhead_10 : decode cX6_isAhead 10 = .ok (.ifCond .eq 7, 3) := by decide +kernel
theorem dX6_isAhead_13 : decode cX6_isAhead 13 = .ok (.iconst 1, 1) := by decide +kernel
theorem dX6_isAhead_14 : decode cX6_isAhead 14 = .ok (.goto 4, 3) := by decide +kernel
theorem dX6_isAhead_17 : decode cX6_isAhead 17 = .ok (.iconst 0, 1) := by decide +kernel
theorem dX6_isAhead_18 : decode cX6_isAhead 18 = .ok (.ireturn, 1) := by decide +kernel
set_option maxRecDepth 20000 in
theorem ggX6_quarrel_X6_takenAll : GoodIn wsX6_quarrel wsX6_takenAll := goodIn_r _ [9, 10, 11, 88, 89, 90, 91, 92, 93, 94, 95, 96, 97, 98, 99, 100, 101, 102, 103, 104, 105, 106, 107, 108, 109, 110, 111, 112, 113, 114, 115, 116, 117, 118, 119, 120, 121, 122, 123, 124, 125, 126, 127, 128, 129, 130] (by decide +kernel) (by decide +kernel)
set_option maxRecDepth 20000 in
theorem gX6_quarrel_X6_takenAll : GoodIn wsX6_quarrel (wsV RX6 231 RX6 yX6_takenAll wsX6_takenAll) := goodIn_app (goodIn_of _ (by decide +kernel)) ggX6_quarrel_X6_takenAll
set_option maxRecDepth 20000 in
theorem ggX6_quarrel_X6_begins : GoodIn wsX6_quarrel wsX6_begins := goodIn_r _ [15, 16, 2, 4, 17, 88, 89, 90, 91, 92, 93, 94, 95, 96, 97, 98, 99, 100, 101, 102, 103, 104, 105, 106, 107, 108, 109, 110, 111, 112, 113, 114, 115, 116, 117, 118, 119, 120, 121, 122, 123, 124, 125, 126, 127, 128, 129, 130] (by decide +kernel) (by decide +kernel)
set_option maxRecDepth 20000 in
theorem gX6_quarrel_X6_begins : GoodIn wsX6_quarrel (wsV RX6 235 RX6 yX6_begins wsX6_begins) := goodIn_app (goodIn_of _ (by decide +kernel)) ggX6_quarrel_X6_begins
set_option maxRecDepth 20000 in
theorem ggX6_quarrel_X6_walks : GoodIn wsX6_quarrel wsX6_walks := goodIn_r _ [21, 3, 22, 23, 2, 24, 16, 25, 26, 27, 8, 28, 29, 30, 31, 10, 32, 33, 17, 34, 35, 36, 37, 4, 38, 39, 40, 41, 42, 43, 44, 45, 46, 47, 48, 49, 50, 51, 52, 53, 54, 55, 56, 57, 58, 59, 60, 61, 62, 63, 64, 65, 66, 67, 68, 69, 70, 71, 72, 73, 74, 75, 76, 77, 88, 89, 90, 91, 92, 93, 94, 95, 96, 97, 98, 99, 100, 101, 102, 103, 104, 105, 106, 107, 108, 109, 110, 111, 112, 113, 114, 115, 116, 117, 118, 119, 120, 121, 122, 123, 124, 125, 126, 127, 128, 129, 130] (by decide +kernel) (by decide +kernel)
set_option maxRecDepth 20000 in
theorem gX6_quarrel_X6_walks : GoodIn wsX6_quarrel (wsV RX6 238 RX6 yX6_walks wsX6_walks) := goodIn_app (goodIn_of _ (by decide +kernel)) ggX6_quarrel_X6_walks
set_option maxRecDepth 20000 in
theorem ggX6_quarrel_X6_nextOf : GoodIn wsX6_quarrel wsX6_nextOf := goodIn_r _ [81, 10, 82, 83, 8, 84, 85, 86, 87, 88, 89, 90, 91, 92, 93, 94, 95, 96, 97, 98, 99, 100, 101, 102, 103, 104, 105, 106, 107, 108, 109, 110, 111, 112, 113, 114, 115, 116, 117, 118, 119, 120, 121, 122, 123, 124, 125, 126, 127, 128, 129, 130] (by decide +kernel) (by decide +kernel)
set_option maxRecDepth 20000 in
theorem gX6_quarrel_X6_nextOf : GoodIn wsX6_quarrel (wsV RX6 242 RX6 yX6_nextOf wsX6_nextOf) := goodIn_app (goodIn_of _ (by decide +kernel)) ggX6_quarrel_X6_nextOf
theorem dX6_quarrel_0 : decode cX6_quarrel 0 = .ok (.aload_n 0, 1) := by decide +kernel
theorem dX6_quarrel_1 : decode cX6_quarrel 1 = .ok (.iconst 0, 1) := by decide +kernel
theorem dX6_quarrel_2 : decode cX6_quarrel 2 = .ok (.putfield 98, 3) := by decide +kernel
theorem dX6_quarrel_5 : decode cX6_quarrel 5 = .ok (.aload_n 0, 1) := by decide +kernel
theorem dX6_quarrel_6 : decode cX6_quarrel 6 = .ok (.invokevirtual 231, 3) := by decide +kernel
theorem dX6_quarrel_9 : decode cX6_quarrel 9 = .ok (.istore_n 1, 1) := by decide +kernel
theorem dX6_quarrel_10 : decode cX6_quarrel 10 = .ok (.aload_n 0, 1) := by decide +kernel
theorem dX6_quarrel_11 : decode cX6_quarrel 11 = .ok (.iload_n 1, 1) := by decide +kernel
theorem dX6_quarrel_12 : decode cX6_quarrel 12 = .ok (.invokevirtual 235, 3) := by decide +kernel
theorem dX6_quarrel_15 : decode cX6_quarrel 15 = .ok (.aload_n 0, 1) := by decide +kernel
theorem dX6_quarrel_16 : decode cX6_quarrel 16 = .ok (.iconst 0, 1) := by decide +kernel
theorem dX6_quarrel_17 : decode cX6_quarrel 17 = .ok (.invokevirtual 238, 3) := by decide +kernel
theorem dX6_quarrel_20 : decode cX6_quarrel 20 = .ok (.aload_n 0, 1) := by decide +kernel
theorem dX6_quarrel_21 : decode cX6_quarrel 21 = .ok (.getfield 216, 3) := by decide +kernel
theorem dX6_quarrel_24 : decode cX6_quarrel 24 = .ok (.ifCond .eq 6, 3) := by decide +kernel
theorem dX6_quarrel_27 : decode cX6_quarrel 27 = .ok (.bipush (-2), 2) := by decide +kernel
theorem dX6_quarrel_29 : decode cX6_quarrel 29 = .ok (.ireturn, 1) := by decide +kernel
theorem dX6_quarrel_30 : decode cX6_quarrel 30 = .ok (.aload_n 0, 1) := by decide +kernel
theorem dX6_quarrel_31 : decode cX6_quarrel 31 = .ok (.getfield 212, 3) := by decide +kernel
theorem dX6_quarrel_34 : decode cX6_quarrel 34 = .ok (.ifCond .eq 5, 3) := by decide +kernel
theorem dX6_quarrel_37 : decode cX6_quarrel 37 = .ok (.iconst 0, 1) := by decide +kernel
theorem dX6_quarrel_38 : decode cX6_quarrel 38 = .ok (.ireturn, 1) := by decide +kernel
theorem dX6_quarrel_39 : decode cX6_quarrel 39 = .ok (.iconst 1, 1) := by decide +kernel
theorem dX6_quarrel_40 : decode cX6_quarrel 40 = .ok (.istore_n 2, 1) := by decide +kernel
theorem dX6_quarrel_41 : decode cX6_quarrel 41 = .ok (.iload_n 2, 1) := by decide +kernel
theorem dX6_quarrel_42 : decode cX6_quarrel 42 = .ok (.bipush 12, 2) := by decide +kernel
theorem dX6_quarrel_44 : decode cX6_quarrel 44 = .ok (.if_icmp .gt 61, 3) := by decide +kernel
theorem dX6_quarrel_47 : decode cX6_quarrel 47 = .ok (.aload_n 0, 1) := by decide +kernel
theorem dX6_quarrel_48 : decode cX6_quarrel 48 = .ok (.iload_n 1, 1) := by decide +kernel
theorem dX6_quarrel_49 : decode cX6_quarrel 49 = .ok (.iload_n 2, 1) := by decide +kernel
theorem dX6_quarrel_50 : decode cX6_quarrel 50 = .ok (.iconst 0, 1) := by decide +kernel
theorem dX6_quarrel_51 : decode cX6_quarrel 51 = .ok (.invokevirtual 242, 3) := by decide +kernel
theorem dX6_quarrel_54 : decode cX6_quarrel 54 = .ok (.istore_n 3, 1) := by decide +kernel
theorem dX6_quarrel_55 : decode cX6_quarrel 55 = .ok (.iload_n 3, 1) := by decide +kernel
theorem dX6_quarrel_56 : decode cX6_quarrel 56 = .ok (.ifCond .eq 43, 3) := by decide +kernel
theorem dX6_quarrel_59 : decode cX6_quarrel 59 = .ok (.aload_n 0, 1) := by decide +kernel
theorem dX6_quarrel_60 : decode cX6_quarrel 60 = .ok (.iload_n 3, 1) := by decide +kernel
theorem dX6_quarrel_61 : decode cX6_quarrel 61 = .ok (.putfield 187, 3) := by decide +kernel
theorem dX6_quarrel_64 : decode cX6_quarrel 64 = .ok (.aload_n 0, 1) := by decide +kernel
theorem dX6_quarrel_65 : decode cX6_quarrel 65 = .ok (.iconst 0, 1) := by decide +kernel
theorem dX6_quarrel_66 : decode cX6_quarrel 66 = .ok (.invokevirtual 238, 3) := by decide +kernel
theorem dX6_quarrel_69 : decode cX6_quarrel 69 = .ok (.aload_n 0, 1) := by decide +kernel
theorem dX6_quarrel_70 : decode cX6_quarrel 70 = .ok (.getfield 216, 3) := by decide +kernel
theorem dX6_quarrel_73 : decode cX6_quarrel 73 = .ok (.ifCond .eq 6, 3) := by decide +kernel
theorem dX6_quarrel_76 : decode cX6_quarrel 76 = .ok (.bipush (-2), 2) := by decide +kernel
theorem dX6_quarrel_78 : decode cX6_quarrel 78 = .ok (.ireturn, 1) := by decide +kernel
theorem dX6_quarrel_79 : decode cX6_quarrel 79 = .ok (.aload_n 0, 1) := by decide +kernel
theorem dX6_quarrel_80 : decode cX6_quarrel 80 = .ok (.getfield 212, 3) := by decide +kernel
theorem dX6_quarrel_83 : decode cX6_quarrel 83 = .ok (.ifCond .ne 5, 3) := by decide +kernel
theorem dX6_quarrel_86 : decode cX6_quarrel 86 = .ok (.iload_n 3, 1) := by decide +kernel
theorem dX6_quarrel_87 : decode cX6_quarrel 87 = .ok (.ireturn, 1) := by decide +kernel
theorem dX6_quarrel_88 : decode cX6_quarrel 88 = .ok (.aload_n 0, 1) := by decide +kernel
theorem dX6_quarrel_89 : decode cX6_quarrel 89 = .ok (.iload_n 1, 1) := by decide +kernel
theorem dX6_quarrel_90 : decode cX6_quarrel 90 = .ok (.iload_n 2, 1) := by decide +kernel
theorem dX6_quarrel_91 : decode cX6_quarrel 91 = .ok (.iload_n 3, 1) := by decide +kernel
theorem dX6_quarrel_92 : decode cX6_quarrel 92 = .ok (.invokevirtual 242, 3) := by decide +kernel
theorem dX6_quarrel_95 : decode cX6_quarrel 95 = .ok (.istore_n 3, 1) := by decide +kernel
theorem dX6_quarrel_96 : decode cX6_quarrel 96 = .ok (.goto (-41), 3) := by decide +kernel
theorem dX6_quarrel_99 : decode cX6_quarrel 99 = .ok (.iinc 2 1, 3) := by decide +kernel
theorem dX6_quarrel_102 : decode cX6_quarrel 102 = .ok (.goto (-61), 3) := by decide +kernel
theorem dX6_quarrel_105 : decode cX6_quarrel 105 = .ok (.iconst 0, 1) := by decide +kernel
theorem dX6_quarrel_106 : decode cX6_quarrel 106 = .ok (.ireturn, 1) := by decide +kernel
set_option maxRecDepth 20000 in
theorem ggX6_nextOf_X6_bitsOf : GoodIn wsX6_nextOf wsX6_bitsOf := goodIn_r _ [5] (by decide +kernel) (by decide +kernel)
set_option maxRecDepth 20000 in
theorem gX6_nextOf_X6_bitsOf : GoodIn wsX6_nextOf (va_wsS RX6 245 yX6_bitsOf wsX6_bitsOf) := goodIn_app (goodIn_of _ (by decide +kernel)) ggX6_nextOf_X6_bitsOf
set_option maxRecDepth 20000 in
theorem ggX6_nextOf_X6_isAhead : GoodIn wsX6_nextOf wsX6_isAhead := goodIn_r _ [8] (by decide +kernel) (by decide +kernel)
set_option maxRecDepth 20000 in
theorem gX6_nextOf_X6_isAhead : GoodIn wsX6_nextOf (va_wsS RX6 248 yX6_isAhead wsX6_isAhead) := goodIn_app (goodIn_of _ (by decide +kernel)) ggX6_nextOf_X6_isAhead
theorem dX6_nextOf_0 : decode cX6_nextOf 0 = .ok (.iconst 0, 1) := by decide +kernel
theorem dX6_nextOf_1 : decode cX6_nextOf 1 = .ok (.istore 4, 2) := by decide +kernel
theorem dX6_nextOf_3 : decode cX6_nextOf 3 = .ok (.iconst 1, 1) := by decide +kernel
theorem dX6_nextOf_4 : decode cX6_nextOf 4 = .ok (.istore 5, 2) := by decide +kernel
theorem dX6_nextOf_6 : decode cX6_nextOf 6 = .ok (.iload 5, 2) := by decide +kernel
theorem dX6_nextOf_8 : decode cX6_nextOf 8 = .ok (.iconst 1, 1) := by decide +kernel
theorem dX6_nextOf_9 : decode cX6_nextOf 9 = .ok (.aload_n 0, 1) := by decide +kernel
theorem dX6_nextOf_10 : decode cX6_nextOf 10 = .ok (.getfield 158, 3) := by decide +kernel
theorem dX6_nextOf_13 : decode cX6_nextOf 13 = .ok (.ishl, 1) := by decide +kernel
theorem dX6_nextOf_14 : decode cX6_nextOf 14 = .ok (.if_icmp .ge 68, 3) := by decide +kernel
theorem dX6_nextOf_17 : decode cX6_nextOf 17 = .ok (.iload 5, 2) := by decide +kernel
theorem dX6_nextOf_19 : decode cX6_nextOf 19 = .ok (.iload_n 1, 1) := by decide +kernel
theorem dX6_nextOf_20 : decode cX6_nextOf 20 = .ok (.iconst (-1), 1) := by decide +kernel
theorem dX6_nextOf_21 : decode cX6_nextOf 21 = .ok (.ixor, 1) := by decide +kernel
theorem dX6_nextOf_22 : decode cX6_nextOf 22 = .ok (.iand, 1) := by decide +kernel
theorem dX6_nextOf_23 : decode cX6_nextOf 23 = .ok (.ifCond .ne 53, 3) := by decide +kernel
theorem dX6_nextOf_26 : decode cX6_nextOf 26 = .ok (.iload 5, 2) := by decide +kernel
theorem dX6_nextOf_28 : decode cX6_nextOf 28 = .ok (.invokestatic 245, 3) := by decide +kernel
theorem dX6_nextOf_31 : decode cX6_nextOf 31 = .ok (.iload_n 2, 1) := by decide +kernel
theorem dX6_nextOf_32 : decode cX6_nextOf 32 = .ok (.if_icmp .ne 44, 3) := by decide +kernel
theorem dX6_nextOf_35 : decode cX6_nextOf 35 = .ok (.iload_n 3, 1) := by decide +kernel
theorem dX6_nextOf_36 : decode cX6_nextOf 36 = .ok (.ifCond .eq 12, 3) := by decide +kernel
theorem dX6_nextOf_39 : decode cX6_nextOf 39 = .ok (.iload_n 3, 1) := by decide +kernel
theorem dX6_nextOf_40 : decode cX6_nextOf 40 = .ok (.iload 5, 2) := by decide +kernel
theorem dX6_nextOf_42 : decode cX6_nextOf 42 = .ok (.invokestatic 248, 3) := by decide +kernel
theorem dX6_nextOf_45 : decode cX6_nextOf 45 = .ok (.ifCond .eq 31, 3) := by decide +kernel
theorem dX6_nextOf_48 : decode cX6_nextOf 48 = .ok (.iload_n 3, 1) := by decide +kernel
theorem dX6_nextOf_49 : decode cX6_nextOf 49 = .ok (.iload 5, 2) := by decide +kernel
theorem dX6_nextOf_51 : decode cX6_nextOf 51 = .ok (.if_icmp .ne 6, 3) := by decide +kernel
theorem dX6_nextOf_54 : decode cX6_nextOf 54 = .ok (.goto 22, 3) := by decide +kernel
theorem dX6_nextOf_57 : decode cX6_nextOf 57 = .ok (.iload 4, 2) := by decide +kernel
theorem dX6_nextOf_59 : decode cX6_nextOf 59 = .ok (.ifCond .eq 13, 3) := by decide +kernel
theorem dX6_nextOf_62 : decode cX6_nextOf 62 = .ok (.iload 5, 2) := by decide +kernel
theorem dX6_nextOf_64 : decode cX6_nextOf 64 = .ok (.iload 4, 2) := by decide +kernel
theorem dX6_nextOf_66 : decode cX6_nextOf 66 = .ok (.invokestatic 248, 3) := by decide +kernel
theorem dX6_nextOf_69 : decode cX6_nextOf 69 = .ok (.ifCond .eq 7, 3) := by decide +kernel
theorem dX6_nextOf_72 : decode cX6_nextOf 72 = .ok (.iload 5, 2) := by decide +kernel
theorem dX6_nextOf_74 : decode cX6_nextOf 74 = .ok (.istore 4, 2) := by decide +kernel
theorem dX6_nextOf_76 : decode cX6_nextOf 76 = .ok (.iinc 5 1, 3) := by decide +kernel
theorem dX6_nextOf_79 : decode cX6_nextOf 79 = .ok (.goto (-73), 3) := by decide +kernel
theorem dX6_nextOf_82 : decode cX6_nextOf 82 = .ok (.iload 4, 2) := by decide +kernel
theorem dX6_nextOf_84 : decode cX6_nextOf 84 = .ok (.ireturn, 1) := by decide +kernel
