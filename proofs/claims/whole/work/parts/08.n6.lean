set_option maxRecDepth 20000 in
theorem ggX6_init_X6_multiplied : GoodIn wsX6_init wsX6_multiplied := goodIn_r _ [22] (by decide +kernel) (by decide +kernel)
set_option maxRecDepth 20000 in
theorem gX6_init_X6_multiplied : GoodIn wsX6_init (va_wsS RX6 48 yX6_multiplied wsX6_multiplied) := goodIn_app (goodIn_of _ (by decide +kernel)) ggX6_init_X6_multiplied
set_option maxRecDepth 20000 in
theorem ggX6_init_X6_prepares : GoodIn wsX6_init wsX6_prepares := goodIn_r _ [26, 27, 12, 5, 14, 13, 28, 29, 21, 30, 31, 32, 33, 34, 35, 36, 37, 38, 39, 40, 41, 42, 43, 44, 45, 46, 47] (by decide +kernel) (by decide +kernel)
set_option maxRecDepth 20000 in
theorem gX6_init_X6_prepares : GoodIn wsX6_init (wsV RX6 52 RX6 yX6_prepares wsX6_prepares) := goodIn_app (goodIn_of _ (by decide +kernel)) ggX6_init_X6_prepares
theorem dX6_init_0 : decode cX6_init 0 = .ok (.aload_n 0, 1) := by decide +kernel
theorem dX6_init_1 : decode cX6_init 1 = .ok (.invokespecial 1, 3) := by decide +kernel
theorem dX6_init_4 : decode cX6_init 4 = .ok (.aload_n 0, 1) := by decide +kernel
theorem dX6_init_5 : decode cX6_init 5 = .ok (.bipush 21, 2) := by decide +kernel
theorem dX6_init_7 : decode cX6_init 7 = .ok (.newarray .int, 2) := by decide +kernel
theorem dX6_init_9 : decode cX6_init 9 = .ok (.putfield 7, 3) := by decide +kernel
theorem dX6_init_12 : decode cX6_init 12 = .ok (.aload_n 0, 1) := by decide +kernel
theorem dX6_init_13 : decode cX6_init 13 = .ok (.bipush 126, 2) := by decide +kernel
theorem dX6_init_15 : decode cX6_init 15 = .ok (.newarray .int, 2) := by decide +kernel
theorem dX6_init_17 : decode cX6_init 17 = .ok (.putfield 13, 3) := by decide +kernel
theorem dX6_init_20 : decode cX6_init 20 = .ok (.aload_n 0, 1) := by decide +kernel
theorem dX6_init_21 : decode cX6_init 21 = .ok (.iconst 4, 1) := by decide +kernel
theorem dX6_init_22 : decode cX6_init 22 = .ok (.newarray .int, 2) := by decide +kernel
theorem dX6_init_24 : decode cX6_init 24 = .ok (.putfield 16, 3) := by decide +kernel
theorem dX6_init_27 : decode cX6_init 27 = .ok (.aload_n 0, 1) := by decide +kernel
theorem dX6_init_28 : decode cX6_init 28 = .ok (.sipush 256, 3) := by decide +kernel
theorem dX6_init_31 : decode cX6_init 31 = .ok (.newarray .int, 2) := by decide +kernel
theorem dX6_init_33 : decode cX6_init 33 = .ok (.putfield 19, 3) := by decide +kernel
theorem dX6_init_36 : decode cX6_init 36 = .ok (.aload_n 0, 1) := by decide +kernel
theorem dX6_init_37 : decode cX6_init 37 = .ok (.ldc 22, 2) := by decide +kernel
theorem dX6_init_39 : decode cX6_init 39 = .ok (.newarray .byte, 2) := by decide +kernel
theorem dX6_init_41 : decode cX6_init 41 = .ok (.putfield 23, 3) := by decide +kernel
theorem dX6_init_44 : decode cX6_init 44 = .ok (.aload_n 0, 1) := by decide +kernel
theorem dX6_init_45 : decode cX6_init 45 = .ok (.bipush 16, 2) := by decide +kernel
theorem dX6_init_47 : decode cX6_init 47 = .ok (.newarray .int, 2) := by decide +kernel
theorem dX6_init_49 : decode cX6_init 49 = .ok (.putfield 27, 3) := by decide +kernel
theorem dX6_init_52 : decode cX6_init 52 = .ok (.aload_n 0, 1) := by decide +kernel
theorem dX6_init_53 : decode cX6_init 53 = .ok (.sipush 1024, 3) := by decide +kernel
theorem dX6_init_56 : decode cX6_init 56 = .ok (.newarray .int, 2) := by decide +kernel
theorem dX6_init_58 : decode cX6_init 58 = .ok (.putfield 30, 3) := by decide +kernel
theorem dX6_init_61 : decode cX6_init 61 = .ok (.aload_n 0, 1) := by decide +kernel
theorem dX6_init_62 : decode cX6_init 62 = .ok (.sipush 1024, 3) := by decide +kernel
theorem dX6_init_65 : decode cX6_init 65 = .ok (.newarray .int, 2) := by decide +kernel
theorem dX6_init_67 : decode cX6_init 67 = .ok (.putfield 33, 3) := by decide +kernel
theorem dX6_init_70 : decode cX6_init 70 = .ok (.aload_n 0, 1) := by decide +kernel
theorem dX6_init_71 : decode cX6_init 71 = .ok (.bipush 12, 2) := by decide +kernel
theorem dX6_init_73 : decode cX6_init 73 = .ok (.newarray .int, 2) := by decide +kernel
theorem dX6_init_75 : decode cX6_init 75 = .ok (.putfield 36, 3) := by decide +kernel
theorem dX6_init_78 : decode cX6_init 78 = .ok (.aload_n 0, 1) := by decide +kernel
theorem dX6_init_79 : decode cX6_init 79 = .ok (.bipush 12, 2) := by decide +kernel
theorem dX6_init_81 : decode cX6_init 81 = .ok (.newarray .int, 2) := by decide +kernel
theorem dX6_init_83 : decode cX6_init 83 = .ok (.putfield 39, 3) := by decide +kernel
theorem dX6_init_86 : decode cX6_init 86 = .ok (.aload_n 0, 1) := by decide +kernel
theorem dX6_init_87 : decode cX6_init 87 = .ok (.bipush 12, 2) := by decide +kernel
theorem dX6_init_89 : decode cX6_init 89 = .ok (.newarray .int, 2) := by decide +kernel
theorem dX6_init_91 : decode cX6_init 91 = .ok (.putfield 42, 3) := by decide +kernel
theorem dX6_init_94 : decode cX6_init 94 = .ok (.aload_n 0, 1) := by decide +kernel
theorem dX6_init_95 : decode cX6_init 95 = .ok (.bipush 12, 2) := by decide +kernel
theorem dX6_init_97 : decode cX6_init 97 = .ok (.newarray .int, 2) := by decide +kernel
theorem dX6_init_99 : decode cX6_init 99 = .ok (.putfield 45, 3) := by decide +kernel
theorem dX6_init_102 : decode cX6_init 102 = .ok (.iconst 0, 1) := by decide +kernel
theorem dX6_init_103 : decode cX6_init 103 = .ok (.istore_n 1, 1) := by decide +kernel
theorem dX6_init_104 : decode cX6_init 104 = .ok (.iload_n 1, 1) := by decide +kernel
theorem dX6_init_105 : decode cX6_init 105 = .ok (.sipush 256, 3) := by decide +kernel
theorem dX6_init_108 : decode cX6_init 108 = .ok (.if_icmp .ge 26, 3) := by decide +kernel
theorem dX6_init_111 : decode cX6_init 111 = .ok (.aload_n 0, 1) := by decide +kernel
theorem dX6_init_112 : decode cX6_init 112 = .ok (.getfield 19, 3) := by decide +kernel
theorem dX6_init_115 : decode cX6_init 115 = .ok (.iload_n 1, 1) := by decide +kernel
theorem dX6_init_116 : decode cX6_init 116 = .ok (.iload_n 1, 1) := by decide +kernel
theorem dX6_init_117 : decode cX6_init 117 = .ok (.bipush 16, 2) := by decide +kernel
theorem dX6_init_119 : decode cX6_init 119 = .ok (.idiv, 1) := by decide +kernel
theorem dX6_init_120 : decode cX6_init 120 = .ok (.iload_n 1, 1) := by decide +kernel
theorem dX6_init_121 : decode cX6_init 121 = .ok (.bipush 16, 2) := by decide +kernel
theorem dX6_init_123 : decode cX6_init 123 = .ok (.irem, 1) := by decide +kernel
theorem dX6_init_124 : decode cX6_init 124 = .ok (.invokestatic 48, 3) := by decide +kernel
theorem dX6_init_127 : decode cX6_init 127 = .ok (.iastore, 1) := by decide +kernel
theorem dX6_init_128 : decode cX6_init 128 = .ok (.iinc 1 1, 3) := by decide +kernel
theorem dX6_init_131 : decode cX6_init 131 = .ok (.goto (-27), 3) := by decide +kernel
theorem dX6_init_134 : decode cX6_init 134 = .ok (.iconst 0, 1) := by decide +kernel
theorem dX6_init_135 : decode cX6_init 135 = .ok (.istore_n 1, 1) := by decide +kernel
theorem dX6_init_136 : decode cX6_init 136 = .ok (.iload_n 1, 1) := by decide +kernel
theorem dX6_init_137 : decode cX6_init 137 = .ok (.sipush 4096, 3) := by decide +kernel
theorem dX6_init_140 : decode cX6_init 140 = .ok (.if_icmp .ge 87, 3) := by decide +kernel
theorem dX6_init_143 : decode cX6_init 143 = .ok (.iconst 0, 1) := by decide +kernel
theorem dX6_init_144 : decode cX6_init 144 = .ok (.istore_n 2, 1) := by decide +kernel
theorem dX6_init_145 : decode cX6_init 145 = .ok (.iload_n 2, 1) := by decide +kernel
theorem dX6_init_146 : decode cX6_init 146 = .ok (.bipush 12, 2) := by decide +kernel
theorem dX6_init_148 : decode cX6_init 148 = .ok (.if_icmp .ge 73, 3) := by decide +kernel
theorem dX6_init_151 : decode cX6_init 151 = .ok (.iload_n 2, 1) := by decide +kernel
theorem dX6_init_152 : decode cX6_init 152 = .ok (.iconst 1, 1) := by decide +kernel
theorem dX6_init_153 : decode cX6_init 153 = .ok (.iadd, 1) := by decide +kernel
theorem dX6_init_154 : decode cX6_init 154 = .ok (.istore_n 3, 1) := by decide +kernel
theorem dX6_init_155 : decode cX6_init 155 = .ok (.aload_n 0, 1) := by decide +kernel
theorem dX6_init_156 : decode cX6_init 156 = .ok (.getfield 23, 3) := by decide +kernel
theorem dX6_init_159 : decode cX6_init 159 = .ok (.bipush 12, 2) := by decide +kernel
theorem dX6_init_161 : decode cX6_init 161 = .ok (.iload_n 1, 1) := by decide +kernel
theorem dX6_init_162 : decode cX6_init 162 = .ok (.imul, 1) := by decide +kernel
theorem dX6_init_163 : decode cX6_init 163 = .ok (.iload_n 2, 1) := by decide +kernel
theorem dX6_init_164 : decode cX6_init 164 = .ok (.iadd, 1) := by decide +kernel
theorem dX6_init_165 : decode cX6_init 165 = .ok (.iload_n 1, 1) := by decide +kernel
theorem dX6_init_166 : decode cX6_init 166 = .ok (.bipush 16, 2) := by decide +kernel
theorem dX6_init_168 : decode cX6_init 168 = .ok (.irem, 1) := by decide +kernel
theorem dX6_init_169 : decode cX6_init 169 = .ok (.aload_n 0, 1) := by decide +kernel
theorem dX6_init_170 : decode cX6_init 170 = .ok (.getfield 19, 3) := by decide +kernel
theorem dX6_init_173 : decode cX6_init 173 = .ok (.bipush 16, 2) := by decide +kernel
theorem dX6_init_175 : decode cX6_init 175 = .ok (.iload_n 1, 1) := by decide +kernel
theorem dX6_init_176 : decode cX6_init 176 = .ok (.bipush 16, 2) := by decide +kernel
theorem dX6_init_178 : decode cX6_init 178 = .ok (.idiv, 1) := by decide +kernel
theorem dX6_init_179 : decode cX6_init 179 = .ok (.bipush 16, 2) := by decide +kernel
theorem dX6_init_181 : decode cX6_init 181 = .ok (.irem, 1) := by decide +kernel
theorem dX6_init_182 : decode cX6_init 182 = .ok (.imul, 1) := by decide +kernel
theorem dX6_init_183 : decode cX6_init 183 = .ok (.iload_n 3, 1) := by decide +kernel
theorem dX6_init_184 : decode cX6_init 184 = .ok (.iadd, 1) := by decide +kernel
theorem dX6_init_185 : decode cX6_init 185 = .ok (.iaload, 1) := by decide +kernel
theorem dX6_init_186 : decode cX6_init 186 = .ok (.ixor, 1) := by decide +kernel
theorem dX6_init_187 : decode cX6_init 187 = .ok (.aload_n 0, 1) := by decide +kernel
theorem dX6_init_188 : decode cX6_init 188 = .ok (.getfield 19, 3) := by decide +kernel
theorem dX6_init_191 : decode cX6_init 191 = .ok (.bipush 16, 2) := by decide +kernel
theorem dX6_init_193 : decode cX6_init 193 = .ok (.iload_n 1, 1) := by decide +kernel
theorem dX6_init_194 : decode cX6_init 194 = .ok (.sipush 256, 3) := by decide +kernel
theorem dX6_init_197 : decode cX6_init 197 = .ok (.idiv, 1) := by decide +kernel
theorem dX6_init_198 : decode cX6_init 198 = .ok (.imul, 1) := by decide +kernel
theorem dX6_init_199 : decode cX6_init 199 = .ok (.aload_n 0, 1) := by decide +kernel
theorem dX6_init_200 : decode cX6_init 200 = .ok (.getfield 19, 3) := by decide +kernel
theorem dX6_init_203 : decode cX6_init 203 = .ok (.bipush 16, 2) := by decide +kernel
theorem dX6_init_205 : decode cX6_init 205 = .ok (.iload_n 3, 1) := by decide +kernel
theorem dX6_init_206 : decode cX6_init 206 = .ok (.imul, 1) := by decide +kernel
theorem dX6_init_207 : decode cX6_init 207 = .ok (.iload_n 3, 1) := by decide +kernel
theorem dX6_init_208 : decode cX6_init 208 = .ok (.iadd, 1) := by decide +kernel
theorem dX6_init_209 : decode cX6_init 209 = .ok (.iaload, 1) := by decide +kernel
theorem dX6_init_210 : decode cX6_init 210 = .ok (.iadd, 1) := by decide +kernel
theorem dX6_init_211 : decode cX6_init 211 = .ok (.iaload, 1) := by decide +kernel
theorem dX6_init_212 : decode cX6_init 212 = .ok (.ixor, 1) := by decide +kernel
theorem dX6_init_213 : decode cX6_init 213 = .ok (.i2b, 1) := by decide +kernel
theorem dX6_init_214 : decode cX6_init 214 = .ok (.bastore, 1) := by decide +kernel
theorem dX6_init_215 : decode cX6_init 215 = .ok (.iinc 2 1, 3) := by decide +kernel
theorem dX6_init_218 : decode cX6_init 218 = .ok (.goto (-73), 3) := by decide +kernel
theorem dX6_init_221 : decode cX6_init 221 = .ok (.iinc 1 1, 3) := by decide +kernel
theorem dX6_init_224 : decode cX6_init 224 = .ok (.goto (-88), 3) := by decide +kernel
theorem dX6_init_227 : decode cX6_init 227 = .ok (.aload_n 0, 1) := by decide +kernel
theorem dX6_init_228 : decode cX6_init 228 = .ok (.getfield 7, 3) := by decide +kernel
theorem dX6_init_231 : decode cX6_init 231 = .ok (.iconst 0, 1) := by decide +kernel
theorem dX6_init_232 : decode cX6_init 232 = .ok (.bipush 8, 2) := by decide +kernel
theorem dX6_init_234 : decode cX6_init 234 = .ok (.iastore, 1) := by decide +kernel
theorem dX6_init_235 : decode cX6_init 235 = .ok (.aload_n 0, 1) := by decide +kernel
theorem dX6_init_236 : decode cX6_init 236 = .ok (.getfield 7, 3) := by decide +kernel
theorem dX6_init_239 : decode cX6_init 239 = .ok (.iconst 1, 1) := by decide +kernel
theorem dX6_init_240 : decode cX6_init 240 = .ok (.iconst 3, 1) := by decide +kernel
theorem dX6_init_241 : decode cX6_init 241 = .ok (.iastore, 1) := by decide +kernel
theorem dX6_init_242 : decode cX6_init 242 = .ok (.aload_n 0, 1) := by decide +kernel
theorem dX6_init_243 : decode cX6_init 243 = .ok (.getfield 7, 3) := by decide +kernel
theorem dX6_init_246 : decode cX6_init 246 = .ok (.iconst 2, 1) := by decide +kernel
theorem dX6_init_247 : decode cX6_init 247 = .ok (.bipush 7, 2) := by decide +kernel
theorem dX6_init_249 : decode cX6_init 249 = .ok (.iastore, 1) := by decide +kernel
theorem dX6_init_250 : decode cX6_init 250 = .ok (.aload_n 0, 1) := by decide +kernel
theorem dX6_init_251 : decode cX6_init 251 = .ok (.getfield 7, 3) := by decide +kernel
theorem dX6_init_254 : decode cX6_init 254 = .ok (.iconst 3, 1) := by decide +kernel
theorem dX6_init_255 : decode cX6_init 255 = .ok (.bipush 49, 2) := by decide +kernel
theorem dX6_init_257 : decode cX6_init 257 = .ok (.iastore, 1) := by decide +kernel
theorem dX6_init_258 : decode cX6_init 258 = .ok (.aload_n 0, 1) := by decide +kernel
theorem dX6_init_259 : decode cX6_init 259 = .ok (.getfield 7, 3) := by decide +kernel
theorem dX6_init_262 : decode cX6_init 262 = .ok (.iconst 4, 1) := by decide +kernel
theorem dX6_init_263 : decode cX6_init 263 = .ok (.bipush 82, 2) := by decide +kernel
theorem dX6_init_265 : decode cX6_init 265 = .ok (.iastore, 1) := by decide +kernel
theorem dX6_init_266 : decode cX6_init 266 = .ok (.aload_n 0, 1) := by decide +kernel
theorem dX6_init_267 : decode cX6_init 267 = .ok (.getfield 7, 3) := by decide +kernel
theorem dX6_init_270 : decode cX6_init 270 = .ok (.iconst 5, 1) := by decide +kernel
theorem dX6_init_271 : decode cX6_init 271 = .ok (.bipush 100, 2) := by decide +kernel
theorem dX6_init_273 : decode cX6_init 273 = .ok (.iastore, 1) := by decide +kernel
theorem dX6_init_274 : decode cX6_init 274 = .ok (.aload_n 0, 1) := by decide +kernel
theorem dX6_init_275 : decode cX6_init 275 = .ok (.getfield 7, 3) := by decide +kernel
theorem dX6_init_278 : decode cX6_init 278 = .ok (.bipush 6, 2) := by decide +kernel
theorem dX6_init_280 : decode cX6_init 280 = .ok (.bipush 120, 2) := by decide +kernel
theorem dX6_init_282 : decode cX6_init 282 = .ok (.iastore, 1) := by decide +kernel
theorem dX6_init_283 : decode cX6_init 283 = .ok (.aload_n 0, 1) := by decide +kernel
theorem dX6_init_284 : decode cX6_init 284 = .ok (.invokevirtual 52, 3) := by decide +kernel
theorem dX6_init_287 : decode cX6_init 287 = .ok (.return_, 1) := by decide +kernel
theorem dX6_in_0 : decode cX6_in 0 = .ok (.iload_n 0, 1) := by decide +kernel
theorem dX6_in_1 : decode cX6_in 1 = .ok (.iload_n 1, 1) := by decide +kernel
theorem dX6_in_2 : decode cX6_in 2 = .ok (.if_icmp .lt 12, 3) := by decide +kernel
theorem dX6_in_5 : decode cX6_in 5 = .ok (.iload_n 0, 1) := by decide +kernel
theorem dX6_in_6 : decode cX6_in 6 = .ok (.iload_n 2, 1) := by decide +kernel
theorem dX6_in_7 : decode cX6_in 7 = .ok (.if_icmp .gt 7, 3) := by decide +kernel
theorem dX6_in_10 : decode cX6_in 10 = .ok (.iconst 1, 1) := by decide +kernel
theorem dX6_in_11 : decode cX6_in 11 = .ok (.goto 4, 3) := by decide +kernel
theorem dX6_in_14 : decode cX6_in 14 = .ok (.iconst 0, 1) := by decide +kernel
theorem dX6_in_15 : decode cX6_in 15 = .ok (.ireturn, 1) := by decide +kernel
theorem dX6_multiplied_0 : decode cX6_multiplied 0 = .ok (.iconst 0, 1) := by decide +kernel
theorem dX6_multiplied_1 : decode cX6_multiplied 1 = .ok (.istore_n 2, 1) := by decide +kernel
theorem dX6_multiplied_2 : decode cX6_multiplied 2 = .ok (.iconst 0, 1) := by decide +kernel
theorem dX6_multiplied_3 : decode cX6_multiplied 3 = .ok (.istore_n 3, 1) := by decide +kernel
theorem dX6_multiplied_4 : decode cX6_multiplied 4 = .ok (.iload_n 3, 1) := by decide +kernel
theorem dX6_multiplied_5 : decode cX6_multiplied 5 = .ok (.iconst 4, 1) := by decide +kernel
theorem dX6_multiplied_6 : decode cX6_multiplied 6 = .ok (.if_icmp .ge 28, 3) := by decide +kernel
theorem dX6_multiplied_9 : decode cX6_multiplied 9 = .ok (.iload_n 2, 1) := by decide +kernel
theorem dX6_multiplied_10 : decode cX6_multiplied 10 = .ok (.iload_n 1, 1) := by decide +kernel
theorem dX6_multiplied_11 : decode cX6_multiplied 11 = .ok (.iload_n 3, 1) := by decide +kernel
theorem dX6_multiplied_12 : decode cX6_multiplied 12 = .ok (.ishr, 1) := by decide +kernel
theorem dX6_multiplied_13 : decode cX6_multiplied 13 = .ok (.iconst 1, 1) := by decide +kernel
theorem dX6_multiplied_14 : decode cX6_multiplied 14 = .ok (.iand, 1) := by decide +kernel
theorem dX6_multiplied_15 : decode cX6_multiplied 15 = .ok (.iconst 1, 1) := by decide +kernel
theorem dX6_multiplied_16 : decode cX6_multiplied 16 = .ok (.if_icmp .ne 9, 3) := by decide +kernel
theorem dX6_multiplied_19 : decode cX6_multiplied 19 = .ok (.iload_n 0, 1) := by decide +kernel
theorem dX6_multiplied_20 : decode cX6_multiplied 20 = .ok (.iload_n 3, 1) := by decide +kernel
theorem dX6_multiplied_21 : decode cX6_multiplied 21 = .ok (.ishl, 1) := by decide +kernel
theorem dX6_multiplied_22 : decode cX6_multiplied 22 = .ok (.goto 4, 3) := by decide +kernel
theorem dX6_multiplied_25 : decode cX6_multiplied 25 = .ok (.iconst 0, 1) := by decide +kernel
theorem dX6_multiplied_26 : decode cX6_multiplied 26 = .ok (.ixor, 1) := by decide +kernel
theorem dX6_multiplied_27 : decode cX6_multiplied 27 = .ok (.istore_n 2, 1) := by decide +kernel
theorem dX6_multiplied_28 : decode cX6_multiplied 28 = .ok (.iinc 3 1, 3) := by decide +kernel
theorem dX6_multiplied_31 : decode cX6_multiplied 31 = .ok (.goto (-27), 3) := by decide +kernel
theorem dX6_multiplied_34 : decode cX6_multiplied 34 = .ok (.bipush 6, 2) := by decide +kernel
theorem dX6_multiplied_36 : decode cX6_multiplied 36 = .ok (.istore_n 3, 1) := by decide +kernel
theorem dX6_multiplied_37 : decode cX6_multiplied 37 = .ok (.iload_n 3, 1) := by decide +kernel
theorem dX6_multiplied_38 : decode cX6_multiplied 38 = .ok (.iconst 3, 1) := by decide +kernel
theorem dX6_multiplied_39 : decode cX6_multiplied 39 = .ok (.if_icmp .le 31, 3) := by decide +kernel
theorem dX6_multiplied_42 : decode cX6_multiplied 42 = .ok (.iload_n 2, 1) := by decide +kernel
theorem dX6_multiplied_43 : decode cX6_multiplied 43 = .ok (.iload_n 2, 1) := by decide +kernel
theorem dX6_multiplied_44 : decode cX6_multiplied 44 = .ok (.iload_n 3, 1) := by decide +kernel
theorem dX6_multiplied_45 : decode cX6_multiplied 45 = .ok (.ishr, 1) := by decide +kernel
theorem dX6_multiplied_46 : decode cX6_multiplied 46 = .ok (.iconst 1, 1) := by decide +kernel
theorem dX6_multiplied_47 : decode cX6_multiplied 47 = .ok (.iand, 1) := by decide +kernel
theorem dX6_multiplied_48 : decode cX6_multiplied 48 = .ok (.iconst 1, 1) := by decide +kernel
theorem dX6_multiplied_49 : decode cX6_multiplied 49 = .ok (.if_icmp .ne 12, 3) := by decide +kernel
theorem dX6_multiplied_52 : decode cX6_multiplied 52 = .ok (.bipush 19, 2) := by decide +kernel
theorem dX6_multiplied_54 : decode cX6_multiplied 54 = .ok (.iload_n 3, 1) := by decide +kernel
theorem dX6_multiplied_55 : decode cX6_multiplied 55 = .ok (.iconst 4, 1) := by decide +kernel
theorem dX6_multiplied_56 : decode cX6_multiplied 56 = .ok (.isub, 1) := by decide +kernel
theorem dX6_multiplied_57 : decode cX6_multiplied 57 = .ok (.ishl, 1) := by decide +kernel
theorem dX6_multiplied_58 : decode cX6_multiplied 58 = .ok (.goto 4, 3) := by decide +kernel
theorem dX6_multiplied_61 : decode cX6_multiplied 61 = .ok (.iconst 0, 1) := by decide +kernel
theorem dX6_multiplied_62 : decode cX6_multiplied 62 = .ok (.ixor, 1) := by decide +kernel
theorem dX6_multiplied_63 : decode cX6_multiplied 63 = .ok (.istore_n 2, 1) := by decide +kernel
theorem dX6_multiplied_64 : decode cX6_multiplied 64 = .ok (.iinc 3 (-1), 3) := by decide +kernel
theorem dX6_multiplied_67 : decode cX6_multiplied 67 = .ok (.goto (-30), 3) := by decide +kernel
theorem dX6_multiplied_70 : decode cX6_multiplied 70 = .ok (.iload_n 2, 1) := by decide +kernel
theorem dX6_multiplied_71 : decode cX6_multiplied 71 = .ok (.ireturn, 1) := by decide +kernel
theorem dX6_ones_0 : decode cX6_ones 0 = .ok (.iconst 0, 1) := by decide +kernel
theorem dX6_ones_1 : decode cX6_ones 1 = .ok (.istore_n 1, 1) := by decide +kernel
theorem dX6_ones_2 : decode cX6_ones 2 = .ok (.iload_n 0, 1) := by decide +kernel
theorem dX6_ones_3 : decode cX6_ones 3 = .ok (.istore_n 2, 1) := by decide +kernel
theorem dX6_ones_4 : decode cX6_ones 4 = .ok (.iload_n 2, 1) := by decide +kernel
theorem dX6_ones_5 : decode cX6_ones 5 = .ok (.ifCond .eq 15, 3) := by decide +kernel
theorem dX6_ones_8 : decode cX6_ones 8 = .ok (.iinc 1 1, 3) := by decide +kernel
theorem dX6_ones_11 : decode cX6_ones 11 = .ok (.iload_n 2, 1) := by decide +kernel
theorem dX6_ones_12 : decode cX6_ones 12 = .ok (.iload_n 2, 1) := by decide +kernel
theorem dX6_ones_13 : decode cX6_ones 13 = .ok (.iconst 1, 1) := by decide +kernel
theorem dX6_ones_14 : decode cX6_ones 14 = .ok (.isub, 1) := by decide +kernel
theorem dX6_ones_15 : decode cX6_ones 15 = .ok (.iand, 1) := by decide +kernel
theorem dX6_ones_16 : decode cX6_ones 16 = .ok (.istore_n 2, 1) := by decide +kernel
theorem dX6_ones_17 : decode cX6_ones 17 = .ok (.goto (-13), 3) := by decide +kernel
theorem dX6_ones_20 : decode cX6_ones 20 = .ok (.iload_n 1, 1) := by decide +kernel
theorem dX6_ones_21 : decode cX6_ones 21 = .ok (.ireturn, 1) := by decide +kernel
set_option maxRecDepth 20000 in
theorem ggX6_prepares_X6_ones : GoodIn wsX6_prepares wsX6_ones := goodIn_r _ [9] (by decide +kernel) (by decide +kernel)
set_option maxRecDepth 20000 in
theorem gX6_prepares_X6_ones : GoodIn wsX6_prepares (va_wsS RX6 59 yX6_ones wsX6_ones) := goodIn_app (goodIn_of _ (by decide +kernel)) ggX6_prepares_X6_ones
theorem dX6_prepares_0 : decode cX6_prepares 0 = .ok (.aload_n 0, 1) := by decide +kernel
theorem dX6_prepares_1 : decode cX6_prepares 1 = .ok (.bipush 99, 2) := by decide +kernel
theorem dX6_prepares_3 : decode cX6_prepares 3 = .ok (.putfield 55, 3) := by decide +kernel
theorem dX6_prepares_6 : decode cX6_prepares 6 = .ok (.iconst 0, 1) := by decide +kernel
theorem dX6_prepares_7 : decode cX6_prepares 7 = .ok (.istore_n 1, 1) := by decide +kernel
theorem dX6_prepares_8 : decode cX6_prepares 8 = .ok (.iload_n 1, 1) := by decide +kernel
theorem dX6_prepares_9 : decode cX6_prepares 9 = .ok (.bipush 16, 2) := by decide +kernel
theorem dX6_prepares_11 : decode cX6_prepares 11 = .ok (.if_icmp .ge 99, 3) := by decide +kernel
theorem dX6_prepares_14 : decode cX6_prepares 14 = .ok (.aload_n 0, 1) := by decide +kernel
theorem dX6_prepares_15 : decode cX6_prepares 15 = .ok (.getfield 27, 3) := by decide +kernel
theorem dX6_prepares_18 : decode cX6_prepares 18 = .ok (.iload_n 1, 1) := by decide +kernel
theorem dX6_prepares_19 : decode cX6_prepares 19 = .ok (.iconst 0, 1) := by decide +kernel
theorem dX6_prepares_20 : decode cX6_prepares 20 = .ok (.iastore, 1) := by decide +kernel
theorem dX6_prepares_21 : decode cX6_prepares 21 = .ok (.iconst 0, 1) := by decide +kernel
theorem dX6_prepares_22 : decode cX6_prepares 22 = .ok (.istore_n 2, 1) := by decide +kernel
theorem dX6_prepares_23 : decode cX6_prepares 23 = .ok (.iload_n 2, 1) := by decide +kernel
theorem dX6_prepares_24 : decode cX6_prepares 24 = .ok (.iconst 4, 1) := by decide +kernel
theorem dX6_prepares_25 : decode cX6_prepares 25 = .ok (.if_icmp .ge 39, 3) := by decide +kernel
theorem dX6_prepares_28 : decode cX6_prepares 28 = .ok (.aload_n 0, 1) := by decide +kernel
theorem dX6_prepares_29 : decode cX6_prepares 29 = .ok (.getfield 27, 3) := by decide +kernel
theorem dX6_prepares_32 : decode cX6_prepares 32 = .ok (.iload_n 1, 1) := by decide +kernel
theorem dX6_prepares_33 : decode cX6_prepares 33 = .ok (.dup2, 1) := by decide +kernel
theorem dX6_prepares_34 : decode cX6_prepares 34 = .ok (.iaload, 1) := by decide +kernel
theorem dX6_prepares_35 : decode cX6_prepares 35 = .ok (.iload_n 1, 1) := by decide +kernel
theorem dX6_prepares_36 : decode cX6_prepares 36 = .ok (.iload_n 2, 1) := by decide +kernel
theorem dX6_prepares_37 : decode cX6_prepares 37 = .ok (.ishr, 1) := by decide +kernel
theorem dX6_prepares_38 : decode cX6_prepares 38 = .ok (.iconst 1, 1) := by decide +kernel
theorem dX6_prepares_39 : decode cX6_prepares 39 = .ok (.iand, 1) := by decide +kernel
theorem dX6_prepares_40 : decode cX6_prepares 40 = .ok (.iconst 1, 1) := by decide +kernel
theorem dX6_prepares_41 : decode cX6_prepares 41 = .ok (.if_icmp .ne 14, 3) := by decide +kernel
theorem dX6_prepares_44 : decode cX6_prepares 44 = .ok (.aload_n 0, 1) := by decide +kernel
theorem dX6_prepares_45 : decode cX6_prepares 45 = .ok (.getfield 7, 3) := by decide +kernel
theorem dX6_prepares_48 : decode cX6_prepares 48 = .ok (.iconst 3, 1) := by decide +kernel
theorem dX6_prepares_49 : decode cX6_prepares 49 = .ok (.iload_n 2, 1) := by decide +kernel
theorem dX6_prepares_50 : decode cX6_prepares 50 = .ok (.iadd, 1) := by decide +kernel
theorem dX6_prepares_51 : decode cX6_prepares 51 = .ok (.iaload, 1) := by decide +kernel
theorem dX6_prepares_52 : decode cX6_prepares 52 = .ok (.goto 4, 3) := by decide +kernel
theorem dX6_prepares_55 : decode cX6_prepares 55 = .ok (.iconst 0, 1) := by decide +kernel
theorem dX6_prepares_56 : decode cX6_prepares 56 = .ok (.ixor, 1) := by decide +kernel
theorem dX6_prepares_57 : decode cX6_prepares 57 = .ok (.iastore, 1) := by decide +kernel
theorem dX6_prepares_58 : decode cX6_prepares 58 = .ok (.iinc 2 1, 3) := by decide +kernel
theorem dX6_prepares_61 : decode cX6_prepares 61 = .ok (.goto (-38), 3) := by decide +kernel
theorem dX6_prepares_64 : decode cX6_prepares 64 = .ok (.aload_n 0, 1) := by decide +kernel
theorem dX6_prepares_65 : decode cX6_prepares 65 = .ok (.iload_n 1, 1) := by decide +kernel
theorem dX6_prepares_66 : decode cX6_prepares 66 = .ok (.ifCond .le 31, 3) := by decide +kernel
theorem dX6_prepares_69 : decode cX6_prepares 69 = .ok (.aload_n 0, 1) := by decide +kernel
theorem dX6_prepares_70 : decode cX6_prepares 70 = .ok (.getfield 27, 3) := by decide +kernel
theorem dX6_prepares_73 : decode cX6_prepares 73 = .ok (.iload_n 1, 1) := by decide +kernel
theorem dX6_prepares_74 : decode cX6_prepares 74 = .ok (.iaload, 1) := by decide +kernel
theorem dX6_prepares_75 : decode cX6_prepares 75 = .ok (.invokestatic 59, 3) := by decide +kernel
theorem dX6_prepares_78 : decode cX6_prepares 78 = .ok (.aload_n 0, 1) := by decide +kernel
theorem dX6_prepares_79 : decode cX6_prepares 79 = .ok (.getfield 55, 3) := by decide +kernel
theorem dX6_prepares_82 : decode cX6_prepares 82 = .ok (.if_icmp .ge 15, 3) := by decide +kernel
theorem dX6_prepares_85 : decode cX6_prepares 85 = .ok (.aload_n 0, 1) := by decide +kernel
theorem dX6_prepares_86 : decode cX6_prepares 86 = .ok (.getfield 27, 3) := by decide +kernel
theorem dX6_prepares_89 : decode cX6_prepares 89 = .ok (.iload_n 1, 1) := by decide +kernel
theorem dX6_prepares_90 : decode cX6_prepares 90 = .ok (.iaload, 1) := by decide +kernel
theorem dX6_prepares_91 : decode cX6_prepares 91 = .ok (.invokestatic 59, 3) := by decide +kernel
theorem dX6_prepares_94 : decode cX6_prepares 94 = .ok (.goto 7, 3) := by decide +kernel
theorem dX6_prepares_97 : decode cX6_prepares 97 = .ok (.aload_n 0, 1) := by decide +kernel
theorem dX6_prepares_98 : decode cX6_prepares 98 = .ok (.getfield 55, 3) := by decide +kernel
theorem dX6_prepares_101 : decode cX6_prepares 101 = .ok (.putfield 55, 3) := by decide +kernel
theorem dX6_prepares_104 : decode cX6_prepares 104 = .ok (.iinc 1 1, 3) := by decide +kernel
theorem dX6_prepares_107 : decode cX6_prepares 107 = .ok (.goto (-99), 3) := by decide +kernel
theorem dX6_prepares_110 : decode cX6_prepares 110 = .ok (.iconst 0, 1) := by decide +kernel
theorem dX6_prepares_111 : decode cX6_prepares 111 = .ok (.istore_n 1, 1) := by decide +kernel
theorem dX6_prepares_112 : decode cX6_prepares 112 = .ok (.iload_n 1, 1) := by decide +kernel
theorem dX6_prepares_113 : decode cX6_prepares 113 = .ok (.iconst 1, 1) := by decide +kernel
theorem dX6_prepares_114 : decode cX6_prepares 114 = .ok (.aload_n 0, 1) := by decide +kernel
theorem dX6_prepares_115 : decode cX6_prepares 115 = .ok (.getfield 7, 3) := by decide +kernel
theorem dX6_prepares_118 : decode cX6_prepares 118 = .ok (.iconst 2, 1) := by decide +kernel
theorem dX6_prepares_119 : decode cX6_prepares 119 = .ok (.iaload, 1) := by decide +kernel
theorem dX6_prepares_120 : decode cX6_prepares 120 = .ok (.ishl, 1) := by decide +kernel
theorem dX6_prepares_121 : decode cX6_prepares 121 = .ok (.if_icmp .ge 67, 3) := by decide +kernel
theorem dX6_prepares_124 : decode cX6_prepares 124 = .ok (.aload_n 0, 1) := by decide +kernel
theorem dX6_prepares_125 : decode cX6_prepares 125 = .ok (.getfield 33, 3) := by decide +kernel
theorem dX6_prepares_128 : decode cX6_prepares 128 = .ok (.iload_n 1, 1) := by decide +kernel
theorem dX6_prepares_129 : decode cX6_prepares 129 = .ok (.bipush 99, 2) := by decide +kernel
theorem dX6_prepares_131 : decode cX6_prepares 131 = .ok (.iastore, 1) := by decide +kernel
theorem dX6_prepares_132 : decode cX6_prepares 132 = .ok (.iconst 0, 1) := by decide +kernel
theorem dX6_prepares_133 : decode cX6_prepares 133 = .ok (.istore_n 2, 1) := by decide +kernel
theorem dX6_prepares_134 : decode cX6_prepares 134 = .ok (.iload_n 2, 1) := by decide +kernel
theorem dX6_prepares_135 : decode cX6_prepares 135 = .ok (.bipush 16, 2) := by decide +kernel
theorem dX6_prepares_137 : decode cX6_prepares 137 = .ok (.if_icmp .ge 45, 3) := by decide +kernel
theorem dX6_prepares_140 : decode cX6_prepares 140 = .ok (.iload_n 1, 1) := by decide +kernel
theorem dX6_prepares_141 : decode cX6_prepares 141 = .ok (.aload_n 0, 1) := by decide +kernel
theorem dX6_prepares_142 : decode cX6_prepares 142 = .ok (.getfield 27, 3) := by decide +kernel
theorem dX6_prepares_145 : decode cX6_prepares 145 = .ok (.iload_n 2, 1) := by decide +kernel
theorem dX6_prepares_146 : decode cX6_prepares 146 = .ok (.iaload, 1) := by decide +kernel
theorem dX6_prepares_147 : decode cX6_prepares 147 = .ok (.ixor, 1) := by decide +kernel
theorem dX6_prepares_148 : decode cX6_prepares 148 = .ok (.invokestatic 59, 3) := by decide +kernel
theorem dX6_prepares_151 : decode cX6_prepares 151 = .ok (.istore_n 3, 1) := by decide +kernel
theorem dX6_prepares_152 : decode cX6_prepares 152 = .ok (.iload_n 3, 1) := by decide +kernel
theorem dX6_prepares_153 : decode cX6_prepares 153 = .ok (.aload_n 0, 1) := by decide +kernel
theorem dX6_prepares_154 : decode cX6_prepares 154 = .ok (.getfield 33, 3) := by decide +kernel
theorem dX6_prepares_157 : decode cX6_prepares 157 = .ok (.iload_n 1, 1) := by decide +kernel
theorem dX6_prepares_158 : decode cX6_prepares 158 = .ok (.iaload, 1) := by decide +kernel
theorem dX6_prepares_159 : decode cX6_prepares 159 = .ok (.if_icmp .ge 17, 3) := by decide +kernel
theorem dX6_prepares_162 : decode cX6_prepares 162 = .ok (.aload_n 0, 1) := by decide +kernel
theorem dX6_prepares_163 : decode cX6_prepares 163 = .ok (.getfield 33, 3) := by decide +kernel
theorem dX6_prepares_166 : decode cX6_prepares 166 = .ok (.iload_n 1, 1) := by decide +kernel
theorem dX6_prepares_167 : decode cX6_prepares 167 = .ok (.iload_n 3, 1) := by decide +kernel
theorem dX6_prepares_168 : decode cX6_prepares 168 = .ok (.iastore, 1) := by decide +kernel
theorem dX6_prepares_169 : decode cX6_prepares 169 = .ok (.aload_n 0, 1) := by decide +kernel
theorem dX6_prepares_170 : decode cX6_prepares 170 = .ok (.getfield 30, 3) := by decide +kernel
theorem dX6_prepares_173 : decode cX6_prepares 173 = .ok (.iload_n 1, 1) := by decide +kernel
theorem dX6_prepares_174 : decode cX6_prepares 174 = .ok (.iload_n 2, 1) := by decide +kernel
theorem dX6_prepares_175 : decode cX6_prepares 175 = .ok (.iastore, 1) := by decide +kernel
theorem dX6_prepares_176 : decode cX6_prepares 176 = .ok (.iinc 2 1, 3) := by decide +kernel
theorem dX6_prepares_179 : decode cX6_prepares 179 = .ok (.goto (-45), 3) := by decide +kernel
theorem dX6_prepares_182 : decode cX6_prepares 182 = .ok (.iinc 1 1, 3) := by decide +kernel
theorem dX6_prepares_185 : decode cX6_prepares 185 = .ok (.goto (-73), 3) := by decide +kernel
theorem dX6_prepares_188 : decode cX6_prepares 188 = .ok (.return_, 1) := by decide +kernel
set_option maxRecDepth 20000 in
theorem ggX6_isBlock_X6_in : GoodIn wsX6_isBlock wsX6_in := goodIn_r _ [5] (by decide +kernel) (by decide +kernel)
set_option maxRecDepth 20000 in
theorem gX6_isBlock_X6_in : GoodIn wsX6_isBlock (va_wsS RX6 63 yX6_in wsX6_in) := goodIn_app (goodIn_of _ (by decide +kernel)) ggX6_isBlock_X6_in
theorem dX6_isBlock_0 : decode cX6_isBlock 0 = .ok (.iload_n 1, 1) := by decide +kernel
theorem dX6_isBlock_1 : decode cX6_isBlock 1 = .ok (.iconst 0, 1) := by decide +kernel
theorem dX6_isBlock_2 : decode cX6_isBlock 2 = .ok (.aload_n 0, 1) := by decide +kernel
theorem dX6_isBlock_3 : decode cX6_isBlock 3 = .ok (.getfield 7, 3) := by decide +kernel
theorem dX6_isBlock_6 : decode cX6_isBlock 6 = .ok (.iconst 0, 1) := by decide +kernel
theorem dX6_isBlock_7 : decode cX6_isBlock 7 = .ok (.iaload, 1) := by decide +kernel
theorem dX6_isBlock_8 : decode cX6_isBlock 8 = .ok (.iconst 1, 1) := by decide +kernel
theorem dX6_isBlock_9 : decode cX6_isBlock 9 = .ok (.isub, 1) := by decide +kernel
theorem dX6_isBlock_10 : decode cX6_isBlock 10 = .ok (.invokestatic 63, 3) := by decide +kernel
theorem dX6_isBlock_13 : decode cX6_isBlock 13 = .ok (.ireturn, 1) := by decide +kernel
theorem dX6_isLost_0 : decode cX6_isLost 0 = .ok (.aload_n 0, 1) := by decide +kernel
theorem dX6_isLost_1 : decode cX6_isLost 1 = .ok (.getfield 7, 3) := by decide +kernel
theorem dX6_isLost_4 : decode cX6_isLost 4 = .ok (.bipush 7, 2) := by decide +kernel
theorem dX6_isLost_6 : decode cX6_isLost 6 = .ok (.iaload, 1) := by decide +kernel
theorem dX6_isLost_7 : decode cX6_isLost 7 = .ok (.iload_n 1, 1) := by decide +kernel
theorem dX6_isLost_8 : decode cX6_isLost 8 = .ok (.ishr, 1) := by decide +kernel
theorem dX6_isLost_9 : decode cX6_isLost 9 = .ok (.iconst 1, 1) := by decide +kernel
theorem dX6_isLost_10 : decode cX6_isLost 10 = .ok (.iand, 1) := by decide +kernel
theorem dX6_isLost_11 : decode cX6_isLost 11 = .ok (.iconst 1, 1) := by decide +kernel
theorem dX6_isLost_12 : decode cX6_isLost 12 = .ok (.if_icmp .ne 7, 3) := by decide +kernel
theorem dX6_isLost_15 : decode cX6_isLost 15 = .ok (.iconst 1, 1) := by decide +kernel
theorem dX6_isLost_16 : decode cX6_isLost 16 = .ok (.goto 4, 3) := by decide +kernel
theorem dX6_isLost_19 : decode cX6_isLost 19 = .ok (.iconst 0, 1) := by decide +kernel
theorem dX6_isLost_20 : decode cX6_isLost 20 = .ok (.ireturn, 1) := by decide +kernel
theorem dX6_messages_0 : decode cX6_messages 0 = .ok (.iconst 1, 1) := by decide +kernel
theorem dX6_messages_1 : decode cX6_messages 1 = .ok (.iconst 4, 1) := by decide +kernel
theorem dX6_messages_2 : decode cX6_messages 2 = .ok (.aload_n 0, 1) := by decide +kernel
theorem dX6_messages_3 : decode cX6_messages 3 = .ok (.getfield 7, 3) := by decide +kernel
theorem dX6_messages_6 : decode cX6_messages 6 = .ok (.iconst 1, 1) := by decide +kernel
theorem dX6_messages_7 : decode cX6_messages 7 = .ok (.iaload, 1) := by decide +kernel
theorem dX6_messages_8 : decode cX6_messages 8 = .ok (.imul, 1) := by decide +kernel
theorem dX6_messages_9 : decode cX6_messages 9 = .ok (.ishl, 1) := by decide +kernel
theorem dX6_messages_10 : decode cX6_messages 10 = .ok (.ireturn, 1) := by decide +kernel
set_option maxRecDepth 20000 in
theorem ggX6_isMessage_X6_messages : GoodIn wsX6_isMessage wsX6_messages := goodIn_r _ [5, 6, 10, 11, 12, 13, 14, 15, 16, 17, 18, 19, 20, 21, 22, 23, 24, 25, 26] (by decide +kernel) (by decide +kernel)
set_option maxRecDepth 20000 in
theorem gX6_isMessage_X6_messages : GoodIn wsX6_isMessage (wsV RX6 67 RX6 yX6_messages wsX6_messages) := goodIn_app (goodIn_of _ (by decide +kernel)) ggX6_isMessage_X6_messages
set_option maxRecDepth 20000 in
theorem ggX6_isMessage_X6_in : GoodIn wsX6_isMessage wsX6_in := goodIn_r _ [9] (by decide +kernel) (by decide +kernel)
set_option maxRecDepth 20000 in
theorem gX6_isMessage_X6_in : GoodIn wsX6_isMessage (va_wsS RX6 63 yX6_in wsX6_in) := goodIn_app (goodIn_of _ (by decide +kernel)) ggX6_isMessage_X6_in
theorem dX6_isMessage_0 : decode cX6_isMessage 0 = .ok (.iload_n 1, 1) := by decide +kernel
theorem dX6_isMessage_1 : decode cX6_isMessage 1 = .ok (.iconst 0, 1) := by decide +kernel
theorem dX6_isMessage_2 : decode cX6_isMessage 2 = .ok (.aload_n 0, 1) := by decide +kernel
theorem dX6_isMessage_3 : decode cX6_isMessage 3 = .ok (.invokevirtual 67, 3) := by decide +kernel
theorem dX6_isMessage_6 : decode cX6_isMessage 6 = .ok (.iconst 1, 1) := by decide +kernel
theorem dX6_isMessage_7 : decode cX6_isMessage 7 = .ok (.isub, 1) := by decide +kernel
theorem dX6_isMessage_8 : decode cX6_isMessage 8 = .ok (.invokestatic 63, 3) := by decide +kernel
theorem dX6_isMessage_11 : decode cX6_isMessage 11 = .ok (.ireturn, 1) := by decide +kernel
theorem dX6_distance_0 : decode cX6_distance 0 = .ok (.aload_n 0, 1) := by decide +kernel
theorem dX6_distance_1 : decode cX6_distance 1 = .ok (.getfield 7, 3) := by decide +kernel
theorem dX6_distance_4 : decode cX6_distance 4 = .ok (.iconst 0, 1) := by decide +kernel
theorem dX6_distance_5 : decode cX6_distance 5 = .ok (.iaload, 1) := by decide +kernel
theorem dX6_distance_6 : decode cX6_distance 6 = .ok (.aload_n 0, 1) := by decide +kernel
theorem dX6_distance_7 : decode cX6_distance 7 = .ok (.getfield 7, 3) := by decide +kernel
theorem dX6_distance_10 : decode cX6_distance 10 = .ok (.iconst 1, 1) := by decide +kernel
theorem dX6_distance_11 : decode cX6_distance 11 = .ok (.iaload, 1) := by decide +kernel
theorem dX6_distance_12 : decode cX6_distance 12 = .ok (.isub, 1) := by decide +kernel
theorem dX6_distance_13 : decode cX6_distance 13 = .ok (.iconst 1, 1) := by decide +kernel
theorem dX6_distance_14 : decode cX6_distance 14 = .ok (.iadd, 1) := by decide +kernel
theorem dX6_distance_15 : decode cX6_distance 15 = .ok (.ireturn, 1) := by decide +kernel
theorem dX6_records_0 : decode cX6_records 0 = .ok (.aload_n 0, 1) := by decide +kernel
theorem dX6_records_1 : decode cX6_records 1 = .ok (.getfield 71, 3) := by decide +kernel
theorem dX6_records_4 : decode cX6_records 4 = .ok (.bipush 6, 2) := by decide +kernel
theorem dX6_records_6 : decode cX6_records 6 = .ok (.if_icmp .ne 42, 3) := by decide +kernel
theorem dX6_records_9 : decode cX6_records 9 = .ok (.iconst 0, 1) := by decide +kernel
theorem dX6_records_10 : decode cX6_records 10 = .ok (.istore_n 1, 1) := by decide +kernel
theorem dX6_records_11 : decode cX6_records 11 = .ok (.iload_n 1, 1) := by decide +kernel
theorem dX6_records_12 : decode cX6_records 12 = .ok (.bipush 105, 2) := by decide +kernel
theorem dX6_records_14 : decode cX6_records 14 = .ok (.if_icmp .ge 24, 3) := by decide +kernel
theorem dX6_records_17 : decode cX6_records 17 = .ok (.aload_n 0, 1) := by decide +kernel
theorem dX6_records_18 : decode cX6_records 18 = .ok (.getfield 13, 3) := by decide +kernel
theorem dX6_records_21 : decode cX6_records 21 = .ok (.iload_n 1, 1) := by decide +kernel
theorem dX6_records_22 : decode cX6_records 22 = .ok (.aload_n 0, 1) := by decide +kernel
theorem dX6_records_23 : decode cX6_records 23 = .ok (.getfield 13, 3) := by decide +kernel
theorem dX6_records_26 : decode cX6_records 26 = .ok (.iload_n 1, 1) := by decide +kernel
theorem dX6_records_27 : decode cX6_records 27 = .ok (.bipush 21, 2) := by decide +kernel
theorem dX6_records_29 : decode cX6_records 29 = .ok (.iadd, 1) := by decide +kernel
theorem dX6_records_30 : decode cX6_records 30 = .ok (.iaload, 1) := by decide +kernel
theorem dX6_records_31 : decode cX6_records 31 = .ok (.iastore, 1) := by decide +kernel
theorem dX6_records_32 : decode cX6_records 32 = .ok (.iinc 1 1, 3) := by decide +kernel
theorem dX6_records_35 : decode cX6_records 35 = .ok (.goto (-24), 3) := by decide +kernel
theorem dX6_records_38 : decode cX6_records 38 = .ok (.aload_n 0, 1) := by decide +kernel
theorem dX6_records_39 : decode cX6_records 39 = .ok (.dup, 1) := by decide +kernel
theorem dX6_records_40 : decode cX6_records 40 = .ok (.getfield 71, 3) := by decide +kernel
theorem dX6_records_43 : decode cX6_records 43 = .ok (.iconst 1, 1) := by decide +kernel
theorem dX6_records_44 : decode cX6_records 44 = .ok (.isub, 1) := by decide +kernel
theorem dX6_records_45 : decode cX6_records 45 = .ok (.putfield 71, 3) := by decide +kernel
theorem dX6_records_48 : decode cX6_records 48 = .ok (.iconst 0, 1) := by decide +kernel
theorem dX6_records_49 : decode cX6_records 49 = .ok (.istore_n 1, 1) := by decide +kernel
theorem dX6_records_50 : decode cX6_records 50 = .ok (.iload_n 1, 1) := by decide +kernel
theorem dX6_records_51 : decode cX6_records 51 = .ok (.bipush 21, 2) := by decide +kernel
theorem dX6_records_53 : decode cX6_records 53 = .ok (.if_icmp .ge 29, 3) := by decide +kernel
theorem dX6_records_56 : decode cX6_records 56 = .ok (.aload_n 0, 1) := by decide +kernel
theorem dX6_records_57 : decode cX6_records 57 = .ok (.getfield 13, 3) := by decide +kernel
theorem dX6_records_60 : decode cX6_records 60 = .ok (.bipush 21, 2) := by decide +kernel
theorem dX6_records_62 : decode cX6_records 62 = .ok (.aload_n 0, 1) := by decide +kernel
theorem dX6_records_63 : decode cX6_records 63 = .ok (.getfield 71, 3) := by decide +kernel
theorem dX6_records_66 : decode cX6_records 66 = .ok (.imul, 1) := by decide +kernel
theorem dX6_records_67 : decode cX6_records 67 = .ok (.iload_n 1, 1) := by decide +kernel
theorem dX6_records_68 : decode cX6_records 68 = .ok (.iadd, 1) := by decide +kernel
theorem dX6_records_69 : decode cX6_records 69 = .ok (.aload_n 0, 1) := by decide +kernel
theorem dX6_records_70 : decode cX6_records 70 = .ok (.getfield 7, 3) := by decide +kernel
theorem dX6_records_73 : decode cX6_records 73 = .ok (.iload_n 1, 1) := by decide +kernel
theorem dX6_records_74 : decode cX6_records 74 = .ok (.iaload, 1) := by decide +kernel
theorem dX6_records_75 : decode cX6_records 75 = .ok (.iastore, 1) := by decide +kernel
theorem dX6_records_76 : decode cX6_records 76 = .ok (.iinc 1 1, 3) := by decide +kernel
theorem dX6_records_79 : decode cX6_records 79 = .ok (.goto (-29), 3) := by decide +kernel
theorem dX6_records_82 : decode cX6_records 82 = .ok (.aload_n 0, 1) := by decide +kernel
theorem dX6_records_83 : decode cX6_records 83 = .ok (.dup, 1) := by decide +kernel
theorem dX6_records_84 : decode cX6_records 84 = .ok (.getfield 71, 3) := by decide +kernel
theorem dX6_records_87 : decode cX6_records 87 = .ok (.iconst 1, 1) := by decide +kernel
theorem dX6_records_88 : decode cX6_records 88 = .ok (.iadd, 1) := by decide +kernel
theorem dX6_records_89 : decode cX6_records 89 = .ok (.putfield 71, 3) := by decide +kernel
theorem dX6_records_92 : decode cX6_records 92 = .ok (.return_, 1) := by decide +kernel
theorem dX6_empties_0 : decode cX6_empties 0 = .ok (.iconst 0, 1) := by decide +kernel
theorem dX6_empties_1 : decode cX6_empties 1 = .ok (.istore_n 1, 1) := by decide +kernel
theorem dX6_empties_2 : decode cX6_empties 2 = .ok (.iload_n 1, 1) := by decide +kernel
theorem dX6_empties_3 : decode cX6_empties 3 = .ok (.bipush 12, 2) := by decide +kernel
theorem dX6_empties_5 : decode cX6_empties 5 = .ok (.if_icmp .ge 19, 3) := by decide +kernel
theorem dX6_empties_8 : decode cX6_empties 8 = .ok (.aload_n 0, 1) := by decide +kernel
theorem dX6_empties_9 : decode cX6_empties 9 = .ok (.getfield 7, 3) := by decide +kernel
theorem dX6_empties_12 : decode cX6_empties 12 = .ok (.bipush 9, 2) := by decide +kernel
theorem dX6_empties_14 : decode cX6_empties 14 = .ok (.iload_n 1, 1) := by decide +kernel
theorem dX6_empties_15 : decode cX6_empties 15 = .ok (.iadd, 1) := by decide +kernel
theorem dX6_empties_16 : decode cX6_empties 16 = .ok (.iconst 0, 1) := by decide +kernel
theorem dX6_empties_17 : decode cX6_empties 17 = .ok (.iastore, 1) := by decide +kernel
theorem dX6_empties_18 : decode cX6_empties 18 = .ok (.iinc 1 1, 3) := by decide +kernel
theorem dX6_empties_21 : decode cX6_empties 21 = .ok (.goto (-19), 3) := by decide +kernel
theorem dX6_empties_24 : decode cX6_empties 24 = .ok (.aload_n 0, 1) := by decide +kernel
theorem dX6_empties_25 : decode cX6_empties 25 = .ok (.getfield 7, 3) := by decide +kernel
theorem dX6_empties_28 : decode cX6_empties 28 = .ok (.bipush 7, 2) := by decide +kernel
theorem dX6_empties_30 : decode cX6_empties 30 = .ok (.iconst 0, 1) := by decide +kernel
theorem dX6_empties_31 : decode cX6_empties 31 = .ok (.iastore, 1) := by decide +kernel
theorem dX6_empties_32 : decode cX6_empties 32 = .ok (.aload_n 0, 1) := by decide +kernel
theorem dX6_empties_33 : decode cX6_empties 33 = .ok (.getfield 7, 3) := by decide +kernel
theorem dX6_empties_36 : decode cX6_empties 36 = .ok (.bipush 8, 2) := by decide +kernel
theorem dX6_empties_38 : decode cX6_empties 38 = .ok (.iconst 0, 1) := by decide +kernel
theorem dX6_empties_39 : decode cX6_empties 39 = .ok (.iastore, 1) := by decide +kernel
theorem dX6_empties_40 : decode cX6_empties 40 = .ok (.return_, 1) := by decide +kernel
set_option maxRecDepth 20000 in
theorem ggX6_setOuter_X6_in : GoodIn wsX6_setOuter wsX6_in := goodIn_r _ [5] (by decide +kernel) (by decide +kernel)
set_option maxRecDepth 20000 in
theorem gX6_setOuter_X6_in : GoodIn wsX6_setOuter (va_wsS RX6 63 yX6_in wsX6_in) := goodIn_app (goodIn_of _ (by decide +kernel)) ggX6_setOuter_X6_in
set_option maxRecDepth 20000 in
theorem ggX6_setOuter_X6_records : GoodIn wsX6_setOuter wsX6_records := goodIn_r _ [9, 10, 11, 1, 16, 17, 18, 19, 20, 21, 22, 23, 24, 25, 26, 27, 28, 29, 30, 31, 32] (by decide +kernel) (by decide +kernel)
set_option maxRecDepth 20000 in
theorem gX6_setOuter_X6_records : GoodIn wsX6_setOuter (wsV RX6 74 RX6 yX6_records wsX6_records) := goodIn_app (goodIn_of _ (by decide +kernel)) ggX6_setOuter_X6_records
set_option maxRecDepth 20000 in
theorem ggX6_setOuter_X6_empties : GoodIn wsX6_setOuter wsX6_empties := goodIn_r _ [15, 1, 16, 17, 18, 19, 20, 21, 22, 23, 24, 25, 26, 27, 28, 29, 30, 31, 32] (by decide +kernel) (by decide +kernel)
set_option maxRecDepth 20000 in
theorem gX6_setOuter_X6_empties : GoodIn wsX6_setOuter (wsV RX6 77 RX6 yX6_empties wsX6_empties) := goodIn_app (goodIn_of _ (by decide +kernel)) ggX6_setOuter_X6_empties
theorem dX6_setOuter_0 : decode cX6_setOuter 0 = .ok (.iload_n 1, 1) := by decide +kernel
theorem dX6_setOuter_1 : decode cX6_setOuter 1 = .ok (.iconst 3, 1) := by decide +kernel
theorem dX6_setOuter_2 : decode cX6_setOuter 2 = .ok (.bipush 12, 2) := by decide +kernel
theorem dX6_setOuter_4 : decode cX6_setOuter 4 = .ok (.invokestatic 63, 3) := by decide +kernel
theorem dX6_setOuter_7 : decode cX6_setOuter 7 = .ok (.ifCond .eq 17, 3) := by decide +kernel
theorem dX6_setOuter_10 : decode cX6_setOuter 10 = .ok (.iload_n 2, 1) := by decide +kernel
theorem dX6_setOuter_11 : decode cX6_setOuter 11 = .ok (.iconst 1, 1) := by decide +kernel
theorem dX6_setOuter_12 : decode cX6_setOuter 12 = .ok (.iconst 3, 1) := by decide +kernel
theorem dX6_setOuter_13 : decode cX6_setOuter 13 = .ok (.invokestatic 63, 3) := by decide +kernel
theorem dX6_setOuter_16 : decode cX6_setOuter 16 = .ok (.ifCond .eq 8, 3) := by decide +kernel
theorem dX6_setOuter_19 : decode cX6_setOuter 19 = .ok (.iload_n 2, 1) := by decide +kernel
theorem dX6_setOuter_20 : decode cX6_setOuter 20 = .ok (.iload_n 1, 1) := by decide +kernel
theorem dX6_setOuter_21 : decode cX6_setOuter 21 = .ok (.if_icmp .lt 7, 3) := by decide +kernel
theorem dX6_setOuter_24 : decode cX6_setOuter 24 = .ok (.sipush (-1001), 3) := by decide +kernel
theorem dX6_setOuter_27 : decode cX6_setOuter 27 = .ok (.ireturn, 1) := by decide +kernel
theorem dX6_setOuter_28 : decode cX6_setOuter 28 = .ok (.aload_n 0, 1) := by decide +kernel
theorem dX6_setOuter_29 : decode cX6_setOuter 29 = .ok (.invokevirtual 74, 3) := by decide +kernel
theorem dX6_setOuter_32 : decode cX6_setOuter 32 = .ok (.bipush 10, 2) := by decide +kernel
theorem dX6_setOuter_34 : decode cX6_setOuter 34 = .ok (.aload_n 0, 1) := by decide +kernel
theorem dX6_setOuter_35 : decode cX6_setOuter 35 = .ok (.getfield 7, 3) := by decide +kernel
theorem dX6_setOuter_38 : decode cX6_setOuter 38 = .ok (.iconst 0, 1) := by decide +kernel
theorem dX6_setOuter_39 : decode cX6_setOuter 39 = .ok (.iaload, 1) := by decide +kernel
theorem dX6_setOuter_40 : decode cX6_setOuter 40 = .ok (.imul, 1) := by decide +kernel
theorem dX6_setOuter_41 : decode cX6_setOuter 41 = .ok (.aload_n 0, 1) := by decide +kernel
theorem dX6_setOuter_42 : decode cX6_setOuter 42 = .ok (.getfield 7, 3) := by decide +kernel
theorem dX6_setOuter_45 : decode cX6_setOuter 45 = .ok (.iconst 1, 1) := by decide +kernel
theorem dX6_setOuter_46 : decode cX6_setOuter 46 = .ok (.iaload, 1) := by decide +kernel
theorem dX6_setOuter_47 : decode cX6_setOuter 47 = .ok (.iadd, 1) := by decide +kernel
theorem dX6_setOuter_48 : decode cX6_setOuter 48 = .ok (.istore_n 3, 1) := by decide +kernel
theorem dX6_setOuter_49 : decode cX6_setOuter 49 = .ok (.aload_n 0, 1) := by decide +kernel
theorem dX6_setOuter_50 : decode cX6_setOuter 50 = .ok (.getfield 7, 3) := by decide +kernel
theorem dX6_setOuter_53 : decode cX6_setOuter 53 = .ok (.iconst 0, 1) := by decide +kernel
theorem dX6_setOuter_54 : decode cX6_setOuter 54 = .ok (.iload_n 1, 1) := by decide +kernel
theorem dX6_setOuter_55 : decode cX6_setOuter 55 = .ok (.iastore, 1) := by decide +kernel
theorem dX6_setOuter_56 : decode cX6_setOuter 56 = .ok (.aload_n 0, 1) := by decide +kernel
theorem dX6_setOuter_57 : decode cX6_setOuter 57 = .ok (.getfield 7, 3) := by decide +kernel
theorem dX6_setOuter_60 : decode cX6_setOuter 60 = .ok (.iconst 1, 1) := by decide +kernel
theorem dX6_setOuter_61 : decode cX6_setOuter 61 = .ok (.iload_n 2, 1) := by decide +kernel
theorem dX6_setOuter_62 : decode cX6_setOuter 62 = .ok (.iastore, 1) := by decide +kernel
theorem dX6_setOuter_63 : decode cX6_setOuter 63 = .ok (.aload_n 0, 1) := by decide +kernel
theorem dX6_setOuter_64 : decode cX6_setOuter 64 = .ok (.invokevirtual 77, 3) := by decide +kernel
theorem dX6_setOuter_67 : decode cX6_setOuter 67 = .ok (.iload_n 3, 1) := by decide +kernel
theorem dX6_setOuter_68 : decode cX6_setOuter 68 = .ok (.ireturn, 1) := by decide +kernel
set_option maxRecDepth 20000 in
theorem ggX6_generator_X6_in : GoodIn wsX6_generator wsX6_in := goodIn_r _ [6] (by decide +kernel) (by decide +kernel)
set_option maxRecDepth 20000 in
theorem gX6_generator_X6_in : GoodIn wsX6_generator (va_wsS RX6 63 yX6_in wsX6_in) := goodIn_app (goodIn_of _ (by decide +kernel)) ggX6_generator_X6_in
theorem dX6_generator_0 : decode cX6_generator 0 = .ok (.iload_n 1, 1) := by decide +kernel
theorem dX6_generator_1 : decode cX6_generator 1 = .ok (.iconst 1, 1) := by decide +kernel
theorem dX6_generator_2 : decode cX6_generator 2 = .ok (.sipush 1023, 3) := by decide +kernel
theorem dX6_generator_5 : decode cX6_generator 5 = .ok (.invokestatic 63, 3) := by decide +kernel
theorem dX6_generator_8 : decode cX6_generator 8 = .ok (.ifCond .ne 7, 3) := by decide +kernel
theorem dX6_generator_11 : decode cX6_generator 11 = .ok (.sipush (-1001), 3) := by decide +kernel
theorem dX6_generator_14 : decode cX6_generator 14 = .ok (.ireturn, 1) := by decide +kernel
theorem dX6_generator_15 : decode cX6_generator 15 = .ok (.aload_n 0, 1) := by decide +kernel
theorem dX6_generator_16 : decode cX6_generator 16 = .ok (.getfield 80, 3) := by decide +kernel
theorem dX6_generator_19 : decode cX6_generator 19 = .ok (.iconst 4, 1) := by decide +kernel
theorem dX6_generator_20 : decode cX6_generator 20 = .ok (.if_icmp .ne 7, 3) := by decide +kernel
theorem dX6_generator_23 : decode cX6_generator 23 = .ok (.sipush (-1003), 3) := by decide +kernel
theorem dX6_generator_26 : decode cX6_generator 26 = .ok (.ireturn, 1) := by decide +kernel
theorem dX6_generator_27 : decode cX6_generator 27 = .ok (.aload_n 0, 1) := by decide +kernel
theorem dX6_generator_28 : decode cX6_generator 28 = .ok (.getfield 16, 3) := by decide +kernel
theorem dX6_generator_31 : decode cX6_generator 31 = .ok (.aload_n 0, 1) := by decide +kernel
theorem dX6_generator_32 : decode cX6_generator 32 = .ok (.getfield 80, 3) := by decide +kernel
theorem dX6_generator_35 : decode cX6_generator 35 = .ok (.iload_n 1, 1) := by decide +kernel
theorem dX6_generator_36 : decode cX6_generator 36 = .ok (.iastore, 1) := by decide +kernel
theorem dX6_generator_37 : decode cX6_generator 37 = .ok (.aload_n 0, 1) := by decide +kernel
theorem dX6_generator_38 : decode cX6_generator 38 = .ok (.dup, 1) := by decide +kernel
theorem dX6_generator_39 : decode cX6_generator 39 = .ok (.getfield 80, 3) := by decide +kernel
theorem dX6_generator_42 : decode cX6_generator 42 = .ok (.iconst 1, 1) := by decide +kernel
theorem dX6_generator_43 : decode cX6_generator 43 = .ok (.iadd, 1) := by decide +kernel
theorem dX6_generator_44 : decode cX6_generator 44 = .ok (.putfield 80, 3) := by decide +kernel
theorem dX6_generator_47 : decode cX6_generator 47 = .ok (.aload_n 0, 1) := by decide +kernel
theorem dX6_generator_48 : decode cX6_generator 48 = .ok (.getfield 80, 3) := by decide +kernel
theorem dX6_generator_51 : decode cX6_generator 51 = .ok (.ireturn, 1) := by decide +kernel
theorem dX6_clearGenerators_0 : decode cX6_clearGenerators 0 = .ok (.aload_n 0, 1) := by decide +kernel
theorem dX6_clearGenerators_1 : decode cX6_clearGenerators 1 = .ok (.getfield 80, 3) := by decide +kernel
theorem dX6_clearGenerators_4 : decode cX6_clearGenerators 4 = .ok (.istore_n 1, 1) := by decide +kernel
theorem dX6_clearGenerators_5 : decode cX6_clearGenerators 5 = .ok (.aload_n 0, 1) := by decide +kernel
theorem dX6_clearGenerators_6 : decode cX6_clearGenerators 6 = .ok (.iconst 0, 1) := by decide +kernel
theorem dX6_clearGenerators_7 : decode cX6_clearGenerators 7 = .ok (.putfield 80, 3) := by decide +kernel
theorem dX6_clearGenerators_10 : decode cX6_clearGenerators 10 = .ok (.iload_n 1, 1) := by decide +kernel
theorem dX6_clearGenerators_11 : decode cX6_clearGenerators 11 = .ok (.ireturn, 1) := by decide +kernel
theorem dX6_areGenerators_0 : decode cX6_areGenerators 0 = .ok (.aload_n 0, 1) := by decide +kernel
theorem dX6_areGenerators_1 : decode cX6_areGenerators 1 = .ok (.getfield 80, 3) := by decide +kernel
theorem dX6_areGenerators_4 : decode cX6_areGenerators 4 = .ok (.iconst 4, 1) := by decide +kernel
theorem dX6_areGenerators_5 : decode cX6_areGenerators 5 = .ok (.if_icmp .ne 7, 3) := by decide +kernel
theorem dX6_areGenerators_8 : decode cX6_areGenerators 8 = .ok (.iconst 1, 1) := by decide +kernel
theorem dX6_areGenerators_9 : decode cX6_areGenerators 9 = .ok (.goto 4, 3) := by decide +kernel
theorem dX6_areGenerators_12 : decode cX6_areGenerators 12 = .ok (.iconst 0, 1) := by decide +kernel
theorem dX6_areGenerators_13 : decode cX6_areGenerators 13 = .ok (.istore_n 2, 1) := by decide +kernel
theorem dX6_areGenerators_14 : decode cX6_areGenerators 14 = .ok (.iconst 1, 1) := by decide +kernel
theorem dX6_areGenerators_15 : decode cX6_areGenerators 15 = .ok (.istore_n 3, 1) := by decide +kernel
theorem dX6_areGenerators_16 : decode cX6_areGenerators 16 = .ok (.iload_n 3, 1) := by decide +kernel
theorem dX6_areGenerators_17 : decode cX6_areGenerators 17 = .ok (.bipush 16, 2) := by decide +kernel
theorem dX6_areGenerators_19 : decode cX6_areGenerators 19 = .ok (.if_icmp .ge 95, 3) := by decide +kernel
theorem dX6_areGenerators_22 : decode cX6_areGenerators 22 = .ok (.iload_n 2, 1) := by decide +kernel
theorem dX6_areGenerators_23 : decode cX6_areGenerators 23 = .ok (.ifCond .eq 91, 3) := by decide +kernel
theorem dX6_areGenerators_26 : decode cX6_areGenerators 26 = .ok (.iconst 0, 1) := by decide +kernel
theorem dX6_areGenerators_27 : decode cX6_areGenerators 27 = .ok (.istore 4, 2) := by decide +kernel
theorem dX6_areGenerators_29 : decode cX6_areGenerators 29 = .ok (.iconst 0, 1) := by decide +kernel
theorem dX6_areGenerators_30 : decode cX6_areGenerators 30 = .ok (.istore 5, 2) := by decide +kernel
theorem dX6_areGenerators_32 : decode cX6_areGenerators 32 = .ok (.iload 5, 2) := by decide +kernel
theorem dX6_areGenerators_34 : decode cX6_areGenerators 34 = .ok (.iconst 4, 1) := by decide +kernel
theorem dX6_areGenerators_35 : decode cX6_areGenerators 35 = .ok (.if_icmp .ge 58, 3) := by decide +kernel
theorem dX6_areGenerators_38 : decode cX6_areGenerators 38 = .ok (.iload 4, 2) := by decide +kernel
theorem dX6_areGenerators_40 : decode cX6_areGenerators 40 = .ok (.iload_n 3, 1) := by decide +kernel
theorem dX6_areGenerators_41 : decode cX6_areGenerators 41 = .ok (.iload 5, 2) := by decide +kernel
theorem dX6_areGenerators_43 : decode cX6_areGenerators 43 = .ok (.ishr, 1) := by decide +kernel
theorem dX6_areGenerators_44 : decode cX6_areGenerators 44 = .ok (.iconst 1, 1) := by decide +kernel
theorem dX6_areGenerators_45 : decode cX6_areGenerators 45 = .ok (.iand, 1) := by decide +kernel
theorem dX6_areGenerators_46 : decode cX6_areGenerators 46 = .ok (.iconst 1, 1) := by decide +kernel
theorem dX6_areGenerators_47 : decode cX6_areGenerators 47 = .ok (.if_icmp .ne 13, 3) := by decide +kernel
theorem dX6_areGenerators_50 : decode cX6_areGenerators 50 = .ok (.aload_n 0, 1) := by decide +kernel
theorem dX6_areGenerators_51 : decode cX6_areGenerators 51 = .ok (.getfield 16, 3) := by decide +kernel
theorem dX6_areGenerators_54 : decode cX6_areGenerators 54 = .ok (.iload 5, 2) := by decide +kernel
theorem dX6_areGenerators_56 : decode cX6_areGenerators 56 = .ok (.iaload, 1) := by decide +kernel
theorem dX6_areGenerators_57 : decode cX6_areGenerators 57 = .ok (.goto 4, 3) := by decide +kernel
theorem dX6_areGenerators_60 : decode cX6_areGenerators 60 = .ok (.iconst 0, 1) := by decide +kernel
theorem dX6_areGenerators_61 : decode cX6_areGenerators 61 = .ok (.ixor, 1) := by decide +kernel
theorem dX6_areGenerators_62 : decode cX6_areGenerators 62 = .ok (.istore 4, 2) := by decide +kernel
theorem dX6_areGenerators_64 : decode cX6_areGenerators 64 = .ok (.iload_n 2, 1) := by decide +kernel
theorem dX6_areGenerators_65 : decode cX6_areGenerators 65 = .ok (.ifCond .eq 20, 3) := by decide +kernel
theorem dX6_areGenerators_68 : decode cX6_areGenerators 68 = .ok (.aload_n 0, 1) := by decide +kernel
theorem dX6_areGenerators_69 : decode cX6_areGenerators 69 = .ok (.getfield 16, 3) := by decide +kernel
theorem dX6_areGenerators_72 : decode cX6_areGenerators 72 = .ok (.iload 5, 2) := by decide +kernel
theorem dX6_areGenerators_74 : decode cX6_areGenerators 74 = .ok (.iaload, 1) := by decide +kernel
theorem dX6_areGenerators_75 : decode cX6_areGenerators 75 = .ok (.iconst 1, 1) := by decide +kernel
theorem dX6_areGenerators_76 : decode cX6_areGenerators 76 = .ok (.iload_n 1, 1) := by decide +kernel
theorem dX6_areGenerators_77 : decode cX6_areGenerators 77 = .ok (.ishl, 1) := by decide +kernel
theorem dX6_areGenerators_78 : decode cX6_areGenerators 78 = .ok (.if_icmp .ge 7, 3) := by decide +kernel
theorem dX6_areGenerators_81 : decode cX6_areGenerators 81 = .ok (.iconst 1, 1) := by decide +kernel
theorem dX6_areGenerators_82 : decode cX6_areGenerators 82 = .ok (.goto 4, 3) := by decide +kernel
theorem dX6_areGenerators_85 : decode cX6_areGenerators 85 = .ok (.iconst 0, 1) := by decide +kernel
theorem dX6_areGenerators_86 : decode cX6_areGenerators 86 = .ok (.istore_n 2, 1) := by decide +kernel
theorem dX6_areGenerators_87 : decode cX6_areGenerators 87 = .ok (.iinc 5 1, 3) := by decide +kernel
theorem dX6_areGenerators_90 : decode cX6_areGenerators 90 = .ok (.goto (-58), 3) := by decide +kernel
theorem dX6_areGenerators_93 : decode cX6_areGenerators 93 = .ok (.iload_n 2, 1) := by decide +kernel
theorem dX6_areGenerators_94 : decode cX6_areGenerators 94 = .ok (.ifCond .eq 12, 3) := by decide +kernel
theorem dX6_areGenerators_97 : decode cX6_areGenerators 97 = .ok (.iload 4, 2) := by decide +kernel
theorem dX6_areGenerators_99 : decode cX6_areGenerators 99 = .ok (.ifCond .eq 7, 3) := by decide +kernel
theorem dX6_areGenerators_102 : decode cX6_areGenerators 102 = .ok (.iconst 1, 1) := by decide +kernel
theorem dX6_areGenerators_103 : decode cX6_areGenerators 103 = .ok (.goto 4, 3) := by decide +kernel
theorem dX6_areGenerators_106 : decode cX6_areGenerators 106 = .ok (.iconst 0, 1) := by decide +kernel
theorem dX6_areGenerators_107 : decode cX6_areGenerators 107 = .ok (.istore_n 2, 1) := by decide +kernel
theorem dX6_areGenerators_108 : decode cX6_areGenerators 108 = .ok (.iinc 3 1, 3) := by decide +kernel
theorem dX6_areGenerators_111 : decode cX6_areGenerators 111 = .ok (.goto (-95), 3) := by decide +kernel
theorem dX6_areGenerators_114 : decode cX6_areGenerators 114 = .ok (.iload_n 2, 1) := by decide +kernel
theorem dX6_areGenerators_115 : decode cX6_areGenerators 115 = .ok (.ireturn, 1) := by decide +kernel
set_option maxRecDepth 20000 in
theorem ggX6_setInner_X6_in : GoodIn wsX6_setInner wsX6_in := goodIn_r _ [8] (by decide +kernel) (by decide +kernel)
set_option maxRecDepth 20000 in
theorem gX6_setInner_X6_in : GoodIn wsX6_setInner (va_wsS RX6 63 yX6_in wsX6_in) := goodIn_app (goodIn_of _ (by decide +kernel)) ggX6_setInner_X6_in
set_option maxRecDepth 20000 in
theorem ggX6_setInner_X6_areGenerators : GoodIn wsX6_setInner wsX6_areGenerators := goodIn_r _ [12, 3, 2, 33, 34, 35, 36, 37, 38, 39, 40, 41, 42, 43, 44, 45, 46, 47, 48, 49] (by decide +kernel) (by decide +kernel)
set_option maxRecDepth 20000 in
theorem gX6_setInner_X6_areGenerators : GoodIn wsX6_setInner (wsV RX6 83 RX6 yX6_areGenerators wsX6_areGenerators) := goodIn_app (goodIn_of _ (by decide +kernel)) ggX6_setInner_X6_areGenerators
set_option maxRecDepth 20000 in
theorem ggX6_setInner_X6_records : GoodIn wsX6_setInner wsX6_records := goodIn_r _ [16, 17, 18, 1, 33, 34, 35, 36, 37, 38, 39, 40, 41, 42, 43, 44, 45, 46, 47, 48, 49] (by decide +kernel) (by decide +kernel)
set_option maxRecDepth 20000 in
theorem gX6_setInner_X6_records : GoodIn wsX6_setInner (wsV RX6 74 RX6 yX6_records wsX6_records) := goodIn_app (goodIn_of _ (by decide +kernel)) ggX6_setInner_X6_records
set_option maxRecDepth 20000 in
theorem ggX6_setInner_X6_empties : GoodIn wsX6_setInner wsX6_empties := goodIn_r _ [22, 1, 33, 34, 35, 36, 37, 38, 39, 40, 41, 42, 43, 44, 45, 46, 47, 48, 49] (by decide +kernel) (by decide +kernel)
set_option maxRecDepth 20000 in
theorem gX6_setInner_X6_empties : GoodIn wsX6_setInner (wsV RX6 77 RX6 yX6_empties wsX6_empties) := goodIn_app (goodIn_of _ (by decide +kernel)) ggX6_setInner_X6_empties
set_option maxRecDepth 20000 in
theorem ggX6_setInner_X6_prepares : GoodIn wsX6_setInner wsX6_prepares := goodIn_r _ [26, 4, 27, 1, 28, 29, 30, 31, 7, 32, 33, 34, 35, 36, 37, 38, 39, 40, 41, 42, 43, 44, 45, 46, 47, 48, 49] (by decide +kernel) (by decide +kernel)
set_option maxRecDepth 20000 in
theorem gX6_setInner_X6_prepares : GoodIn wsX6_setInner (wsV RX6 52 RX6 yX6_prepares wsX6_prepares) := goodIn_app (goodIn_of _ (by decide +kernel)) ggX6_setInner_X6_prepares
theorem dX6_setInner_0 : decode cX6_setInner 0 = .ok (.iload_n 1, 1) := by decide +kernel
theorem dX6_setInner_1 : decode cX6_setInner 1 = .ok (.iconst 4, 1) := by decide +kernel
theorem dX6_setInner_2 : decode cX6_setInner 2 = .ok (.bipush 10, 2) := by decide +kernel
theorem dX6_setInner_4 : decode cX6_setInner 4 = .ok (.invokestatic 63, 3) := by decide +kernel
theorem dX6_setInner_7 : decode cX6_setInner 7 = .ok (.ifCond .ne 7, 3) := by decide +kernel
theorem dX6_setInner_10 : decode cX6_setInner 10 = .ok (.sipush (-1001), 3) := by decide +kernel
theorem dX6_setInner_13 : decode cX6_setInner 13 = .ok (.ireturn, 1) := by decide +kernel
theorem dX6_setInner_14 : decode cX6_setInner 14 = .ok (.aload_n 0, 1) := by decide +kernel
theorem dX6_setInner_15 : decode cX6_setInner 15 = .ok (.iload_n 1, 1) := by decide +kernel
theorem dX6_setInner_16 : decode cX6_setInner 16 = .ok (.invokevirtual 83, 3) := by decide +kernel
theorem dX6_setInner_19 : decode cX6_setInner 19 = .ok (.ifCond .ne 7, 3) := by decide +kernel
theorem dX6_setInner_22 : decode cX6_setInner 22 = .ok (.sipush (-1002), 3) := by decide +kernel
theorem dX6_setInner_25 : decode cX6_setInner 25 = .ok (.ireturn, 1) := by decide +kernel
theorem dX6_setInner_26 : decode cX6_setInner 26 = .ok (.aload_n 0, 1) := by decide +kernel
theorem dX6_setInner_27 : decode cX6_setInner 27 = .ok (.invokevirtual 74, 3) := by decide +kernel
theorem dX6_setInner_30 : decode cX6_setInner 30 = .ok (.aload_n 0, 1) := by decide +kernel
theorem dX6_setInner_31 : decode cX6_setInner 31 = .ok (.getfield 7, 3) := by decide +kernel
theorem dX6_setInner_34 : decode cX6_setInner 34 = .ok (.iconst 2, 1) := by decide +kernel
theorem dX6_setInner_35 : decode cX6_setInner 35 = .ok (.iload_n 1, 1) := by decide +kernel
theorem dX6_setInner_36 : decode cX6_setInner 36 = .ok (.iastore, 1) := by decide +kernel
theorem dX6_setInner_37 : decode cX6_setInner 37 = .ok (.iconst 0, 1) := by decide +kernel
theorem dX6_setInner_38 : decode cX6_setInner 38 = .ok (.istore_n 2, 1) := by decide +kernel
theorem dX6_setInner_39 : decode cX6_setInner 39 = .ok (.iload_n 2, 1) := by decide +kernel
theorem dX6_setInner_40 : decode cX6_setInner 40 = .ok (.iconst 4, 1) := by decide +kernel
theorem dX6_setInner_41 : decode cX6_setInner 41 = .ok (.if_icmp .ge 23, 3) := by decide +kernel
theorem dX6_setInner_44 : decode cX6_setInner 44 = .ok (.aload_n 0, 1) := by decide +kernel
theorem dX6_setInner_45 : decode cX6_setInner 45 = .ok (.getfield 7, 3) := by decide +kernel
theorem dX6_setInner_48 : decode cX6_setInner 48 = .ok (.iconst 3, 1) := by decide +kernel
theorem dX6_setInner_49 : decode cX6_setInner 49 = .ok (.iload_n 2, 1) := by decide +kernel
theorem dX6_setInner_50 : decode cX6_setInner 50 = .ok (.iadd, 1) := by decide +kernel
theorem dX6_setInner_51 : decode cX6_setInner 51 = .ok (.aload_n 0, 1) := by decide +kernel
theorem dX6_setInner_52 : decode cX6_setInner 52 = .ok (.getfield 16, 3) := by decide +kernel
theorem dX6_setInner_55 : decode cX6_setInner 55 = .ok (.iload_n 2, 1) := by decide +kernel
theorem dX6_setInner_56 : decode cX6_setInner 56 = .ok (.iaload, 1) := by decide +kernel
theorem dX6_setInner_57 : decode cX6_setInner 57 = .ok (.iastore, 1) := by decide +kernel
theorem dX6_setInner_58 : decode cX6_setInner 58 = .ok (.iinc 2 1, 3) := by decide +kernel
theorem dX6_setInner_61 : decode cX6_setInner 61 = .ok (.goto (-22), 3) := by decide +kernel
theorem dX6_setInner_64 : decode cX6_setInner 64 = .ok (.aload_n 0, 1) := by decide +kernel
theorem dX6_setInner_65 : decode cX6_setInner 65 = .ok (.iconst 0, 1) := by decide +kernel
theorem dX6_setInner_66 : decode cX6_setInner 66 = .ok (.putfield 80, 3) := by decide +kernel
theorem dX6_setInner_69 : decode cX6_setInner 69 = .ok (.aload_n 0, 1) := by decide +kernel
theorem dX6_setInner_70 : decode cX6_setInner 70 = .ok (.invokevirtual 77, 3) := by decide +kernel
theorem dX6_setInner_73 : decode cX6_setInner 73 = .ok (.aload_n 0, 1) := by decide +kernel
theorem dX6_setInner_74 : decode cX6_setInner 74 = .ok (.invokevirtual 52, 3) := by decide +kernel
theorem dX6_setInner_77 : decode cX6_setInner 77 = .ok (.aload_n 0, 1) := by decide +kernel
theorem dX6_setInner_78 : decode cX6_setInner 78 = .ok (.getfield 55, 3) := by decide +kernel
theorem dX6_setInner_81 : decode cX6_setInner 81 = .ok (.ireturn, 1) := by decide +kernel
set_option maxRecDepth 20000 in
theorem ggX6_undo_X6_prepares : GoodIn wsX6_undo wsX6_prepares := goodIn_r _ [8, 9, 10, 2, 11, 12, 13, 14, 7, 15, 16, 17, 18, 19, 20, 21, 22, 23, 24, 25, 26, 27, 28, 29, 30, 31, 32] (by decide +kernel) (by decide +kernel)
set_option maxRecDepth 20000 in
theorem gX6_undo_X6_prepares : GoodIn wsX6_undo (wsV RX6 52 RX6 yX6_prepares wsX6_prepares) := goodIn_app (goodIn_of _ (by decide +kernel)) ggX6_undo_X6_prepares
theorem dX6_undo_0 : decode cX6_undo 0 = .ok (.aload_n 0, 1) := by decide +kernel
theorem dX6_undo_1 : decode cX6_undo 1 = .ok (.getfield 71, 3) := by decide +kernel
theorem dX6_undo_4 : decode cX6_undo 4 = .ok (.ifCond .ne 7, 3) := by decide +kernel
theorem dX6_undo_7 : decode cX6_undo 7 = .ok (.sipush (-1002), 3) := by decide +kernel
theorem dX6_undo_10 : decode cX6_undo 10 = .ok (.ireturn, 1) := by decide +kernel
theorem dX6_undo_11 : decode cX6_undo 11 = .ok (.aload_n 0, 1) := by decide +kernel
theorem dX6_undo_12 : decode cX6_undo 12 = .ok (.dup, 1) := by decide +kernel
theorem dX6_undo_13 : decode cX6_undo 13 = .ok (.getfield 71, 3) := by decide +kernel
theorem dX6_undo_16 : decode cX6_undo 16 = .ok (.iconst 1, 1) := by decide +kernel
theorem dX6_undo_17 : decode cX6_undo 17 = .ok (.isub, 1) := by decide +kernel
theorem dX6_undo_18 : decode cX6_undo 18 = .ok (.putfield 71, 3) := by decide +kernel
theorem dX6_undo_21 : decode cX6_undo 21 = .ok (.iconst 0, 1) := by decide +kernel
theorem dX6_undo_22 : decode cX6_undo 22 = .ok (.istore_n 1, 1) := by decide +kernel
theorem dX6_undo_23 : decode cX6_undo 23 = .ok (.iload_n 1, 1) := by decide +kernel
theorem dX6_undo_24 : decode cX6_undo 24 = .ok (.bipush 21, 2) := by decide +kernel
theorem dX6_undo_26 : decode cX6_undo 26 = .ok (.if_icmp .ge 29, 3) := by decide +kernel
theorem dX6_undo_29 : decode cX6_undo 29 = .ok (.aload_n 0, 1) := by decide +kernel
theorem dX6_undo_30 : decode cX6_undo 30 = .ok (.getfield 7, 3) := by decide +kernel
theorem dX6_undo_33 : decode cX6_undo 33 = .ok (.iload_n 1, 1) := by decide +kernel
theorem dX6_undo_34 : decode cX6_undo 34 = .ok (.aload_n 0, 1) := by decide +kernel
theorem dX6_undo_35 : decode cX6_undo 35 = .ok (.getfield 13, 3) := by decide +kernel
theorem dX6_undo_38 : decode cX6_undo 38 = .ok (.bipush 21, 2) := by decide +kernel
theorem dX6_undo_40 : decode cX6_undo 40 = .ok (.aload_n 0, 1) := by decide +kernel
theorem dX6_undo_41 : decode cX6_undo 41 = .ok (.getfield 71, 3) := by decide +kernel
theorem dX6_undo_44 : decode cX6_undo 44 = .ok (.imul, 1) := by decide +kernel
theorem dX6_undo_45 : decode cX6_undo 45 = .ok (.iload_n 1, 1) := by decide +kernel
theorem dX6_undo_46 : decode cX6_undo 46 = .ok (.iadd, 1) := by decide +kernel
theorem dX6_undo_47 : decode cX6_undo 47 = .ok (.iaload, 1) := by decide +kernel
theorem dX6_undo_48 : decode cX6_undo 48 = .ok (.iastore, 1) := by decide +kernel
theorem dX6_undo_49 : decode cX6_undo 49 = .ok (.iinc 1 1, 3) := by decide +kernel
theorem dX6_undo_52 : decode cX6_undo 52 = .ok (.goto (-29), 3) := by decide +kernel
theorem dX6_undo_55 : decode cX6_undo 55 = .ok (.aload_n 0, 1) := by decide +kernel
theorem dX6_undo_56 : decode cX6_undo 56 = .ok (.invokevirtual 52, 3) := by decide +kernel
theorem dX6_undo_59 : decode cX6_undo 59 = .ok (.aload_n 0, 1) := by decide +kernel
theorem dX6_undo_60 : decode cX6_undo 60 = .ok (.getfield 71, 3) := by decide +kernel
theorem dX6_undo_63 : decode cX6_undo 63 = .ok (.ireturn, 1) := by decide +kernel
set_option maxRecDepth 20000 in
theorem ggX6_wrongBits_X6_isLost : GoodIn wsX6_wrongBits wsX6_isLost := goodIn_r _ [8, 1, 12, 13, 14, 15, 16, 17, 18, 19, 20, 21, 22, 23, 24, 25, 26, 27, 28] (by decide +kernel) (by decide +kernel)
set_option maxRecDepth 20000 in
theorem gX6_wrongBits_X6_isLost : GoodIn wsX6_wrongBits (wsV RX6 87 RX6 yX6_isLost wsX6_isLost) := goodIn_app (goodIn_of _ (by decide +kernel)) ggX6_wrongBits_X6_isLost
set_option maxRecDepth 20000 in
theorem ggX6_wrongBits_X6_ones : GoodIn wsX6_wrongBits wsX6_ones := goodIn_r _ [11] (by decide +kernel) (by decide +kernel)
set_option maxRecDepth 20000 in
theorem gX6_wrongBits_X6_ones : GoodIn wsX6_wrongBits (va_wsS RX6 59 yX6_ones wsX6_ones) := goodIn_app (goodIn_of _ (by decide +kernel)) ggX6_wrongBits_X6_ones
theorem dX6_wrongBits_0 : decode cX6_wrongBits 0 = .ok (.iconst 0, 1) := by decide +kernel
theorem dX6_wrongBits_1 : decode cX6_wrongBits 1 = .ok (.istore_n 1, 1) := by decide +kernel
theorem dX6_wrongBits_2 : decode cX6_wrongBits 2 = .ok (.iconst 0, 1) := by decide +kernel
theorem dX6_wrongBits_3 : decode cX6_wrongBits 3 = .ok (.istore_n 2, 1) := by decide +kernel
theorem dX6_wrongBits_4 : decode cX6_wrongBits 4 = .ok (.iload_n 2, 1) := by decide +kernel
theorem dX6_wrongBits_5 : decode cX6_wrongBits 5 = .ok (.aload_n 0, 1) := by decide +kernel
theorem dX6_wrongBits_6 : decode cX6_wrongBits 6 = .ok (.getfield 7, 3) := by decide +kernel
theorem dX6_wrongBits_9 : decode cX6_wrongBits 9 = .ok (.iconst 0, 1) := by decide +kernel
theorem dX6_wrongBits_10 : decode cX6_wrongBits 10 = .ok (.iaload, 1) := by decide +kernel
theorem dX6_wrongBits_11 : decode cX6_wrongBits 11 = .ok (.if_icmp .ge 59, 3) := by decide +kernel
theorem dX6_wrongBits_14 : decode cX6_wrongBits 14 = .ok (.iload_n 1, 1) := by decide +kernel
theorem dX6_wrongBits_15 : decode cX6_wrongBits 15 = .ok (.aload_n 0, 1) := by decide +kernel
theorem dX6_wrongBits_16 : decode cX6_wrongBits 16 = .ok (.iload_n 2, 1) := by decide +kernel
theorem dX6_wrongBits_17 : decode cX6_wrongBits 17 = .ok (.invokevirtual 87, 3) := by decide +kernel
theorem dX6_wrongBits_20 : decode cX6_wrongBits 20 = .ok (.ifCond .eq 7, 3) := by decide +kernel
theorem dX6_wrongBits_23 : decode cX6_wrongBits 23 = .ok (.iconst 0, 1) := by decide +kernel
theorem dX6_wrongBits_24 : decode cX6_wrongBits 24 = .ok (.goto 38, 3) := by decide +kernel
theorem dX6_wrongBits_27 : decode cX6_wrongBits 27 = .ok (.aload_n 0, 1) := by decide +kernel
theorem dX6_wrongBits_28 : decode cX6_wrongBits 28 = .ok (.getfield 7, 3) := by decide +kernel
theorem dX6_wrongBits_31 : decode cX6_wrongBits 31 = .ok (.bipush 9, 2) := by decide +kernel
theorem dX6_wrongBits_33 : decode cX6_wrongBits 33 = .ok (.iload_n 2, 1) := by decide +kernel
theorem dX6_wrongBits_34 : decode cX6_wrongBits 34 = .ok (.iadd, 1) := by decide +kernel
theorem dX6_wrongBits_35 : decode cX6_wrongBits 35 = .ok (.iaload, 1) := by decide +kernel
theorem dX6_wrongBits_36 : decode cX6_wrongBits 36 = .ok (.aload_n 0, 1) := by decide +kernel
theorem dX6_wrongBits_37 : decode cX6_wrongBits 37 = .ok (.getfield 27, 3) := by decide +kernel
theorem dX6_wrongBits_40 : decode cX6_wrongBits 40 = .ok (.aload_n 0, 1) := by decide +kernel
theorem dX6_wrongBits_41 : decode cX6_wrongBits 41 = .ok (.getfield 23, 3) := by decide +kernel
theorem dX6_wrongBits_44 : decode cX6_wrongBits 44 = .ok (.bipush 12, 2) := by decide +kernel
theorem dX6_wrongBits_46 : decode cX6_wrongBits 46 = .ok (.aload_n 0, 1) := by decide +kernel
theorem dX6_wrongBits_47 : decode cX6_wrongBits 47 = .ok (.getfield 7, 3) := by decide +kernel
theorem dX6_wrongBits_50 : decode cX6_wrongBits 50 = .ok (.bipush 8, 2) := by decide +kernel
theorem dX6_wrongBits_52 : decode cX6_wrongBits 52 = .ok (.iaload, 1) := by decide +kernel
theorem dX6_wrongBits_53 : decode cX6_wrongBits 53 = .ok (.imul, 1) := by decide +kernel
theorem dX6_wrongBits_54 : decode cX6_wrongBits 54 = .ok (.iload_n 2, 1) := by decide +kernel
theorem dX6_wrongBits_55 : decode cX6_wrongBits 55 = .ok (.iadd, 1) := by decide +kernel
theorem dX6_wrongBits_56 : decode cX6_wrongBits 56 = .ok (.baload, 1) := by decide +kernel
theorem dX6_wrongBits_57 : decode cX6_wrongBits 57 = .ok (.iaload, 1) := by decide +kernel
theorem dX6_wrongBits_58 : decode cX6_wrongBits 58 = .ok (.ixor, 1) := by decide +kernel
theorem dX6_wrongBits_59 : decode cX6_wrongBits 59 = .ok (.invokestatic 59, 3) := by decide +kernel
theorem dX6_wrongBits_62 : decode cX6_wrongBits 62 = .ok (.iadd, 1) := by decide +kernel
theorem dX6_wrongBits_63 : decode cX6_wrongBits 63 = .ok (.istore_n 1, 1) := by decide +kernel
theorem dX6_wrongBits_64 : decode cX6_wrongBits 64 = .ok (.iinc 2 1, 3) := by decide +kernel
theorem dX6_wrongBits_67 : decode cX6_wrongBits 67 = .ok (.goto (-63), 3) := by decide +kernel
theorem dX6_wrongBits_70 : decode cX6_wrongBits 70 = .ok (.iload_n 1, 1) := by decide +kernel
theorem dX6_wrongBits_71 : decode cX6_wrongBits 71 = .ok (.ireturn, 1) := by decide +kernel
set_option maxRecDepth 20000 in
theorem ggX6_count_X6_distance : GoodIn wsX6_count wsX6_distance := goodIn_r _ [9, 1, 23, 24, 25, 26, 27, 28, 29, 30, 31, 32, 33, 34, 35, 36, 37, 38, 39] (by decide +kernel) (by decide +kernel)
set_option maxRecDepth 20000 in
theorem gX6_count_X6_distance : GoodIn wsX6_count (wsV RX6 90 RX6 yX6_distance wsX6_distance) := goodIn_app (goodIn_of _ (by decide +kernel)) ggX6_count_X6_distance
set_option maxRecDepth 20000 in
theorem ggX6_count_X6_ones : GoodIn wsX6_count wsX6_ones := goodIn_r _ [12] (by decide +kernel) (by decide +kernel)
set_option maxRecDepth 20000 in
theorem gX6_count_X6_ones : GoodIn wsX6_count (va_wsS RX6 59 yX6_ones wsX6_ones) := goodIn_app (goodIn_of _ (by decide +kernel)) ggX6_count_X6_ones
set_option maxRecDepth 20000 in
theorem ggX6_count_X6_wrongBits : GoodIn wsX6_count wsX6_wrongBits := goodIn_r _ [16, 1, 17, 18, 19, 20, 21, 8, 22, 10, 11, 12, 23, 24, 25, 26, 27, 28, 29, 30, 31, 32, 33, 34, 35, 36, 37, 38, 39] (by decide +kernel) (by decide +kernel)
set_option maxRecDepth 20000 in
theorem gX6_count_X6_wrongBits : GoodIn wsX6_count (wsV RX6 93 RX6 yX6_wrongBits wsX6_wrongBits) := goodIn_app (goodIn_of _ (by decide +kernel)) ggX6_count_X6_wrongBits
theorem dX6_count_0 : decode cX6_count 0 = .ok (.iload_n 1, 1) := by decide +kernel
theorem dX6_count_1 : decode cX6_count 1 = .ok (.tableswitch 108 0 8 #[51, 58, 65, 70, 77, 82, 87, 92, 103], 51) := by decide +kernel
theorem dX6_count_52 : decode cX6_count 52 = .ok (.aload_n 0, 1) := by decide +kernel
theorem dX6_count_53 : decode cX6_count 53 = .ok (.getfield 7, 3) := by decide +kernel
theorem dX6_count_56 : decode cX6_count 56 = .ok (.iconst 0, 1) := by decide +kernel
theorem dX6_count_57 : decode cX6_count 57 = .ok (.iaload, 1) := by decide +kernel
theorem dX6_count_58 : decode cX6_count 58 = .ok (.ireturn, 1) := by decide +kernel
theorem dX6_count_59 : decode cX6_count 59 = .ok (.aload_n 0, 1) := by decide +kernel
theorem dX6_count_60 : decode cX6_count 60 = .ok (.getfield 7, 3) := by decide +kernel
theorem dX6_count_63 : decode cX6_count 63 = .ok (.iconst 1, 1) := by decide +kernel
theorem dX6_count_64 : decode cX6_count 64 = .ok (.iaload, 1) := by decide +kernel
theorem dX6_count_65 : decode cX6_count 65 = .ok (.ireturn, 1) := by decide +kernel
theorem dX6_count_66 : decode cX6_count 66 = .ok (.aload_n 0, 1) := by decide +kernel
theorem dX6_count_67 : decode cX6_count 67 = .ok (.invokevirtual 90, 3) := by decide +kernel
theorem dX6_count_70 : decode cX6_count 70 = .ok (.ireturn, 1) := by decide +kernel
theorem dX6_count_71 : decode cX6_count 71 = .ok (.aload_n 0, 1) := by decide +kernel
theorem dX6_count_72 : decode cX6_count 72 = .ok (.getfield 7, 3) := by decide +kernel
theorem dX6_count_75 : decode cX6_count 75 = .ok (.iconst 2, 1) := by decide +kernel
theorem dX6_count_76 : decode cX6_count 76 = .ok (.iaload, 1) := by decide +kernel
theorem dX6_count_77 : decode cX6_count 77 = .ok (.ireturn, 1) := by decide +kernel
theorem dX6_count_78 : decode cX6_count 78 = .ok (.aload_n 0, 1) := by decide +kernel
theorem dX6_count_79 : decode cX6_count 79 = .ok (.getfield 55, 3) := by decide +kernel
theorem dX6_count_82 : decode cX6_count 82 = .ok (.ireturn, 1) := by decide +kernel
theorem dX6_count_83 : decode cX6_count 83 = .ok (.aload_n 0, 1) := by decide +kernel
theorem dX6_count_84 : decode cX6_count 84 = .ok (.getfield 80, 3) := by decide +kernel
theorem dX6_count_87 : decode cX6_count 87 = .ok (.ireturn, 1) := by decide +kernel
theorem dX6_count_88 : decode cX6_count 88 = .ok (.aload_n 0, 1) := by decide +kernel
theorem dX6_count_89 : decode cX6_count 89 = .ok (.getfield 71, 3) := by decide +kernel
theorem dX6_count_92 : decode cX6_count 92 = .ok (.ireturn, 1) := by decide +kernel
theorem dX6_count_93 : decode cX6_count 93 = .ok (.aload_n 0, 1) := by decide +kernel
theorem dX6_count_94 : decode cX6_count 94 = .ok (.getfield 7, 3) := by decide +kernel
theorem dX6_count_97 : decode cX6_count 97 = .ok (.bipush 7, 2) := by decide +kernel
theorem dX6_count_99 : decode cX6_count 99 = .ok (.iaload, 1) := by decide +kernel
theorem dX6_count_100 : decode cX6_count 100 = .ok (.invokestatic 59, 3) := by decide +kernel
theorem dX6_count_103 : decode cX6_count 103 = .ok (.ireturn, 1) := by decide +kernel
theorem dX6_count_104 : decode cX6_count 104 = .ok (.aload_n 0, 1) := by decide +kernel
theorem dX6_count_105 : decode cX6_count 105 = .ok (.invokevirtual 93, 3) := by decide +kernel
theorem dX6_count_108 : decode cX6_count 108 = .ok (.ireturn, 1) := by decide +kernel
theorem dX6_count_109 : decode cX6_count 109 = .ok (.sipush (-1001), 3) := by decide +kernel
theorem dX6_count_112 : decode cX6_count 112 = .ok (.ireturn, 1) := by decide +kernel
set_option maxRecDepth 20000 in
theorem ggX6_wordOf_X6_in : GoodIn wsX6_wordOf wsX6_in := goodIn_r _ [5] (by decide +kernel) (by decide +kernel)
set_option maxRecDepth 20000 in
theorem gX6_wordOf_X6_in : GoodIn wsX6_wordOf (va_wsS RX6 63 yX6_in wsX6_in) := goodIn_app (goodIn_of _ (by decide +kernel)) ggX6_wordOf_X6_in
theorem dX6_wordOf_0 : decode cX6_wordOf 0 = .ok (.iload_n 1, 1) := by decide +kernel
theorem dX6_wordOf_1 : decode cX6_wordOf 1 = .ok (.iconst 0, 1) := by decide +kernel
theorem dX6_wordOf_2 : decode cX6_wordOf 2 = .ok (.bipush 15, 2) := by decide +kernel
theorem dX6_wordOf_4 : decode cX6_wordOf 4 = .ok (.invokestatic 63, 3) := by decide +kernel
theorem dX6_wordOf_7 : decode cX6_wordOf 7 = .ok (.ifCond .eq 12, 3) := by decide +kernel
theorem dX6_wordOf_10 : decode cX6_wordOf 10 = .ok (.aload_n 0, 1) := by decide +kernel
theorem dX6_wordOf_11 : decode cX6_wordOf 11 = .ok (.getfield 27, 3) := by decide +kernel
theorem dX6_wordOf_14 : decode cX6_wordOf 14 = .ok (.iload_n 1, 1) := by decide +kernel
theorem dX6_wordOf_15 : decode cX6_wordOf 15 = .ok (.iaload, 1) := by decide +kernel
theorem dX6_wordOf_16 : decode cX6_wordOf 16 = .ok (.goto 6, 3) := by decide +kernel
theorem dX6_wordOf_19 : decode cX6_wordOf 19 = .ok (.sipush (-1001), 3) := by decide +kernel
theorem dX6_wordOf_22 : decode cX6_wordOf 22 = .ok (.ireturn, 1) := by decide +kernel
set_option maxRecDepth 20000 in
theorem ggX6_product_X6_in : GoodIn wsX6_product wsX6_in := goodIn_r _ [5] (by decide +kernel) (by decide +kernel)
set_option maxRecDepth 20000 in
theorem gX6_product_X6_in : GoodIn wsX6_product (va_wsS RX6 63 yX6_in wsX6_in) := goodIn_app (goodIn_of _ (by decide +kernel)) ggX6_product_X6_in
theorem dX6_product_0 : decode cX6_product 0 = .ok (.iload_n 1, 1) := by decide +kernel
theorem dX6_product_1 : decode cX6_product 1 = .ok (.iconst 0, 1) := by decide +kernel
theorem dX6_product_2 : decode cX6_product 2 = .ok (.bipush 15, 2) := by decide +kernel
theorem dX6_product_4 : decode cX6_product 4 = .ok (.invokestatic 63, 3) := by decide +kernel
theorem dX6_product_7 : decode cX6_product 7 = .ok (.ifCond .eq 27, 3) := by decide +kernel
theorem dX6_product_10 : decode cX6_product 10 = .ok (.iload_n 2, 1) := by decide +kernel
theorem dX6_product_11 : decode cX6_product 11 = .ok (.iconst 0, 1) := by decide +kernel
theorem dX6_product_12 : decode cX6_product 12 = .ok (.bipush 15, 2) := by decide +kernel
theorem dX6_product_14 : decode cX6_product 14 = .ok (.invokestatic 63, 3) := by decide +kernel
theorem dX6_product_17 : decode cX6_product 17 = .ok (.ifCond .eq 17, 3) := by decide +kernel
theorem dX6_product_20 : decode cX6_product 20 = .ok (.aload_n 0, 1) := by decide +kernel
theorem dX6_product_21 : decode cX6_product 21 = .ok (.getfield 19, 3) := by decide +kernel
theorem dX6_product_24 : decode cX6_product 24 = .ok (.bipush 16, 2) := by decide +kernel
theorem dX6_product_26 : decode cX6_product 26 = .ok (.iload_n 1, 1) := by decide +kernel
theorem dX6_product_27 : decode cX6_product 27 = .ok (.imul, 1) := by decide +kernel
theorem dX6_product_28 : decode cX6_product 28 = .ok (.iload_n 2, 1) := by decide +kernel
theorem dX6_product_29 : decode cX6_product 29 = .ok (.iadd, 1) := by decide +kernel
theorem dX6_product_30 : decode cX6_product 30 = .ok (.iaload, 1) := by decide +kernel
theorem dX6_product_31 : decode cX6_product 31 = .ok (.goto 6, 3) := by decide +kernel
theorem dX6_product_34 : decode cX6_product 34 = .ok (.sipush (-1001), 3) := by decide +kernel
theorem dX6_product_37 : decode cX6_product 37 = .ok (.ireturn, 1) := by decide +kernel
set_option maxRecDepth 20000 in
theorem ggX6_symbolFor_X6_isMessage : GoodIn wsX6_symbolFor wsX6_isMessage := goodIn_r _ [6, 7, 8, 9, 5, 10, 11, 12, 13, 14, 19, 20, 21, 22, 23, 24, 25, 26, 27, 28, 29, 30, 31, 32, 33, 34, 35] (by decide +kernel) (by decide +kernel)
set_option maxRecDepth 20000 in
theorem gX6_symbolFor_X6_isMessage : GoodIn wsX6_symbolFor (wsV RX6 96 RX6 yX6_isMessage wsX6_isMessage) := goodIn_app (goodIn_of _ (by decide +kernel)) ggX6_symbolFor_X6_isMessage
set_option maxRecDepth 20000 in
theorem ggX6_symbolFor_X6_isBlock : GoodIn wsX6_symbolFor wsX6_isBlock := goodIn_r _ [18, 11, 12, 13, 5, 14, 19, 20, 21, 22, 23, 24, 25, 26, 27, 28, 29, 30, 31, 32, 33, 34, 35] (by decide +kernel) (by decide +kernel)
set_option maxRecDepth 20000 in
theorem gX6_symbolFor_X6_isBlock : GoodIn wsX6_symbolFor (wsV RX6 99 RX6 yX6_isBlock wsX6_isBlock) := goodIn_app (goodIn_of _ (by decide +kernel)) ggX6_symbolFor_X6_isBlock
theorem dX6_symbolFor_0 : decode cX6_symbolFor 0 = .ok (.aload_n 0, 1) := by decide +kernel
theorem dX6_symbolFor_1 : decode cX6_symbolFor 1 = .ok (.iload_n 1, 1) := by decide +kernel
theorem dX6_symbolFor_2 : decode cX6_symbolFor 2 = .ok (.invokevirtual 96, 3) := by decide +kernel
theorem dX6_symbolFor_5 : decode cX6_symbolFor 5 = .ok (.ifCond .eq 25, 3) := by decide +kernel
theorem dX6_symbolFor_8 : decode cX6_symbolFor 8 = .ok (.aload_n 0, 1) := by decide +kernel
theorem dX6_symbolFor_9 : decode cX6_symbolFor 9 = .ok (.iload_n 2, 1) := by decide +kernel
theorem dX6_symbolFor_10 : decode cX6_symbolFor 10 = .ok (.invokevirtual 99, 3) := by decide +kernel
theorem dX6_symbolFor_13 : decode cX6_symbolFor 13 = .ok (.ifCond .eq 17, 3) := by decide +kernel
theorem dX6_symbolFor_16 : decode cX6_symbolFor 16 = .ok (.aload_n 0, 1) := by decide +kernel
theorem dX6_symbolFor_17 : decode cX6_symbolFor 17 = .ok (.getfield 23, 3) := by decide +kernel
theorem dX6_symbolFor_20 : decode cX6_symbolFor 20 = .ok (.bipush 12, 2) := by decide +kernel
theorem dX6_symbolFor_22 : decode cX6_symbolFor 22 = .ok (.iload_n 1, 1) := by decide +kernel
theorem dX6_symbolFor_23 : decode cX6_symbolFor 23 = .ok (.imul, 1) := by decide +kernel
theorem dX6_symbolFor_24 : decode cX6_symbolFor 24 = .ok (.iload_n 2, 1) := by decide +kernel
theorem dX6_symbolFor_25 : decode cX6_symbolFor 25 = .ok (.iadd, 1) := by decide +kernel
theorem dX6_symbolFor_26 : decode cX6_symbolFor 26 = .ok (.baload, 1) := by decide +kernel
theorem dX6_symbolFor_27 : decode cX6_symbolFor 27 = .ok (.goto 6, 3) := by decide +kernel
theorem dX6_symbolFor_30 : decode cX6_symbolFor 30 = .ok (.sipush (-1001), 3) := by decide +kernel
theorem dX6_symbolFor_33 : decode cX6_symbolFor 33 = .ok (.ireturn, 1) := by decide +kernel
set_option maxRecDepth 20000 in
theorem ggX6_send_X6_isMessage : GoodIn wsX6_send wsX6_isMessage := goodIn_r _ [8, 9, 10, 11, 7, 12, 1, 13, 14, 15, 29, 30, 31, 32, 33, 34, 35, 36, 37, 38, 39, 40, 41, 42, 43, 44, 45] (by decide +kernel) (by decide +kernel)
set_option maxRecDepth 20000 in
theorem gX6_send_X6_isMessage : GoodIn wsX6_send (wsV RX6 96 RX6 yX6_isMessage wsX6_isMessage) := goodIn_app (goodIn_of _ (by decide +kernel)) ggX6_send_X6_isMessage
set_option maxRecDepth 20000 in
theorem ggX6_send_X6_records : GoodIn wsX6_send wsX6_records := goodIn_r _ [19, 20, 21, 1, 29, 30, 31, 32, 33, 34, 35, 36, 37, 38, 39, 40, 41, 42, 43, 44, 45] (by decide +kernel) (by decide +kernel)
set_option maxRecDepth 20000 in
theorem gX6_send_X6_records : GoodIn wsX6_send (wsV RX6 74 RX6 yX6_records wsX6_records) := goodIn_app (goodIn_of _ (by decide +kernel)) ggX6_send_X6_records
set_option maxRecDepth 20000 in
theorem ggX6_send_X6_empties : GoodIn wsX6_send wsX6_empties := goodIn_r _ [25, 1, 29, 30, 31, 32, 33, 34, 35, 36, 37, 38, 39, 40, 41, 42, 43, 44, 45] (by decide +kernel) (by decide +kernel)
set_option maxRecDepth 20000 in
theorem gX6_send_X6_empties : GoodIn wsX6_send (wsV RX6 77 RX6 yX6_empties wsX6_empties) := goodIn_app (goodIn_of _ (by decide +kernel)) ggX6_send_X6_empties
set_option maxRecDepth 20000 in
theorem ggX6_send_X6_ones : GoodIn wsX6_send wsX6_ones := goodIn_r _ [28] (by decide +kernel) (by decide +kernel)
set_option maxRecDepth 20000 in
theorem gX6_send_X6_ones : GoodIn wsX6_send (va_wsS RX6 59 yX6_ones wsX6_ones) := goodIn_app (goodIn_of _ (by decide +kernel)) ggX6_send_X6_ones
theorem dX6_send_0 : decode cX6_send 0 = .ok (.aload_n 0, 1) := by decide +kernel
theorem dX6_send_1 : decode cX6_send 1 = .ok (.iload_n 1, 1) := by decide +kernel
theorem dX6_send_2 : decode cX6_send 2 = .ok (.invokevirtual 96, 3) := by decide +kernel
theorem dX6_send_5 : decode cX6_send 5 = .ok (.ifCond .ne 7, 3) := by decide +kernel
theorem dX6_send_8 : decode cX6_send 8 = .ok (.sipush (-1001), 3) := by decide +kernel
theorem dX6_send_11 : decode cX6_send 11 = .ok (.ireturn, 1) := by decide +kernel
theorem dX6_send_12 : decode cX6_send 12 = .ok (.aload_n 0, 1) := by decide +kernel
theorem dX6_send_13 : decode cX6_send 13 = .ok (.invokevirtual 74, 3) := by decide +kernel
theorem dX6_send_16 : decode cX6_send 16 = .ok (.aload_n 0, 1) := by decide +kernel
theorem dX6_send_17 : decode cX6_send 17 = .ok (.invokevirtual 77, 3) := by decide +kernel
theorem dX6_send_20 : decode cX6_send 20 = .ok (.aload_n 0, 1) := by decide +kernel
theorem dX6_send_21 : decode cX6_send 21 = .ok (.getfield 7, 3) := by decide +kernel
theorem dX6_send_24 : decode cX6_send 24 = .ok (.bipush 8, 2) := by decide +kernel
theorem dX6_send_26 : decode cX6_send 26 = .ok (.iload_n 1, 1) := by decide +kernel
theorem dX6_send_27 : decode cX6_send 27 = .ok (.iastore, 1) := by decide +kernel
theorem dX6_send_28 : decode cX6_send 28 = .ok (.iconst 0, 1) := by decide +kernel
theorem dX6_send_29 : decode cX6_send 29 = .ok (.istore_n 2, 1) := by decide +kernel
theorem dX6_send_30 : decode cX6_send 30 = .ok (.iconst 0, 1) := by decide +kernel
theorem dX6_send_31 : decode cX6_send 31 = .ok (.istore_n 3, 1) := by decide +kernel
theorem dX6_send_32 : decode cX6_send 32 = .ok (.iload_n 3, 1) := by decide +kernel
theorem dX6_send_33 : decode cX6_send 33 = .ok (.aload_n 0, 1) := by decide +kernel
theorem dX6_send_34 : decode cX6_send 34 = .ok (.getfield 7, 3) := by decide +kernel
theorem dX6_send_37 : decode cX6_send 37 = .ok (.iconst 0, 1) := by decide +kernel
theorem dX6_send_38 : decode cX6_send 38 = .ok (.iaload, 1) := by decide +kernel
theorem dX6_send_39 : decode cX6_send 39 = .ok (.if_icmp .ge 49, 3) := by decide +kernel
theorem dX6_send_42 : decode cX6_send 42 = .ok (.aload_n 0, 1) := by decide +kernel
theorem dX6_send_43 : decode cX6_send 43 = .ok (.getfield 7, 3) := by decide +kernel
theorem dX6_send_46 : decode cX6_send 46 = .ok (.bipush 9, 2) := by decide +kernel
theorem dX6_send_48 : decode cX6_send 48 = .ok (.iload_n 3, 1) := by decide +kernel
theorem dX6_send_49 : decode cX6_send 49 = .ok (.iadd, 1) := by decide +kernel
theorem dX6_send_50 : decode cX6_send 50 = .ok (.aload_n 0, 1) := by decide +kernel
theorem dX6_send_51 : decode cX6_send 51 = .ok (.getfield 27, 3) := by decide +kernel
theorem dX6_send_54 : decode cX6_send 54 = .ok (.aload_n 0, 1) := by decide +kernel
theorem dX6_send_55 : decode cX6_send 55 = .ok (.getfield 23, 3) := by decide +kernel
theorem dX6_send_58 : decode cX6_send 58 = .ok (.bipush 12, 2) := by decide +kernel
theorem dX6_send_60 : decode cX6_send 60 = .ok (.iload_n 1, 1) := by decide +kernel
theorem dX6_send_61 : decode cX6_send 61 = .ok (.imul, 1) := by decide +kernel
theorem dX6_send_62 : decode cX6_send 62 = .ok (.iload_n 3, 1) := by decide +kernel
theorem dX6_send_63 : decode cX6_send 63 = .ok (.iadd, 1) := by decide +kernel
theorem dX6_send_64 : decode cX6_send 64 = .ok (.baload, 1) := by decide +kernel
theorem dX6_send_65 : decode cX6_send 65 = .ok (.iaload, 1) := by decide +kernel
theorem dX6_send_66 : decode cX6_send 66 = .ok (.iastore, 1) := by decide +kernel
theorem dX6_send_67 : decode cX6_send 67 = .ok (.iload_n 2, 1) := by decide +kernel
theorem dX6_send_68 : decode cX6_send 68 = .ok (.aload_n 0, 1) := by decide +kernel
theorem dX6_send_69 : decode cX6_send 69 = .ok (.getfield 7, 3) := by decide +kernel
theorem dX6_send_72 : decode cX6_send 72 = .ok (.bipush 9, 2) := by decide +kernel
theorem dX6_send_74 : decode cX6_send 74 = .ok (.iload_n 3, 1) := by decide +kernel
theorem dX6_send_75 : decode cX6_send 75 = .ok (.iadd, 1) := by decide +kernel
theorem dX6_send_76 : decode cX6_send 76 = .ok (.iaload, 1) := by decide +kernel
theorem dX6_send_77 : decode cX6_send 77 = .ok (.invokestatic 59, 3) := by decide +kernel
theorem dX6_send_80 : decode cX6_send 80 = .ok (.iadd, 1) := by decide +kernel
theorem dX6_send_81 : decode cX6_send 81 = .ok (.istore_n 2, 1) := by decide +kernel
theorem dX6_send_82 : decode cX6_send 82 = .ok (.iinc 3 1, 3) := by decide +kernel
theorem dX6_send_85 : decode cX6_send 85 = .ok (.goto (-53), 3) := by decide +kernel
theorem dX6_send_88 : decode cX6_send 88 = .ok (.iload_n 2, 1) := by decide +kernel
theorem dX6_send_89 : decode cX6_send 89 = .ok (.ireturn, 1) := by decide +kernel
set_option maxRecDepth 20000 in
theorem ggX6_flip_X6_isBlock : GoodIn wsX6_flip wsX6_isBlock := goodIn_r _ [7, 1, 8, 9, 6, 10, 21, 22, 23, 24, 25, 26, 27, 28, 29, 30, 31, 32, 33, 34, 35, 36, 37] (by decide +kernel) (by decide +kernel)
set_option maxRecDepth 20000 in
theorem gX6_flip_X6_isBlock : GoodIn wsX6_flip (wsV RX6 99 RX6 yX6_isBlock wsX6_isBlock) := goodIn_app (goodIn_of _ (by decide +kernel)) ggX6_flip_X6_isBlock
set_option maxRecDepth 20000 in
theorem ggX6_flip_X6_in : GoodIn wsX6_flip wsX6_in := goodIn_r _ [10] (by decide +kernel) (by decide +kernel)
set_option maxRecDepth 20000 in
theorem gX6_flip_X6_in : GoodIn wsX6_flip (va_wsS RX6 63 yX6_in wsX6_in) := goodIn_app (goodIn_of _ (by decide +kernel)) ggX6_flip_X6_in
set_option maxRecDepth 20000 in
theorem ggX6_flip_X6_isLost : GoodIn wsX6_flip wsX6_isLost := goodIn_r _ [14, 1, 21, 22, 23, 24, 25, 26, 27, 28, 29, 30, 31, 32, 33, 34, 35, 36, 37] (by decide +kernel) (by decide +kernel)
set_option maxRecDepth 20000 in
theorem gX6_flip_X6_isLost : GoodIn wsX6_flip (wsV RX6 87 RX6 yX6_isLost wsX6_isLost) := goodIn_app (goodIn_of _ (by decide +kernel)) ggX6_flip_X6_isLost
set_option maxRecDepth 20000 in
theorem ggX6_flip_X6_records : GoodIn wsX6_flip wsX6_records := goodIn_r _ [18, 19, 20, 1, 21, 22, 23, 24, 25, 26, 27, 28, 29, 30, 31, 32, 33, 34, 35, 36, 37] (by decide +kernel) (by decide +kernel)
set_option maxRecDepth 20000 in
theorem gX6_flip_X6_records : GoodIn wsX6_flip (wsV RX6 74 RX6 yX6_records wsX6_records) := goodIn_app (goodIn_of _ (by decide +kernel)) ggX6_flip_X6_records
theorem dX6_flip_0 : decode cX6_flip 0 = .ok (.aload_n 0, 1) := by decide +kernel
theorem dX6_flip_1 : decode cX6_flip 1 = .ok (.iload_n 1, 1) := by decide +kernel
theorem dX6_flip_2 : decode cX6_flip 2 = .ok (.invokevirtual 99, 3) := by decide +kernel
theorem dX6_flip_5 : decode cX6_flip 5 = .ok (.ifCond .eq 21, 3) := by decide +kernel
theorem dX6_flip_8 : decode cX6_flip 8 = .ok (.iload_n 2, 1) := by decide +kernel
theorem dX6_flip_9 : decode cX6_flip 9 = .ok (.iconst 1, 1) := by decide +kernel
theorem dX6_flip_10 : decode cX6_flip 10 = .ok (.iconst 1, 1) := by decide +kernel
theorem dX6_flip_11 : decode cX6_flip 11 = .ok (.aload_n 0, 1) := by decide +kernel
theorem dX6_flip_12 : decode cX6_flip 12 = .ok (.getfield 7, 3) := by decide +kernel
theorem dX6_flip_15 : decode cX6_flip 15 = .ok (.iconst 2, 1) := by decide +kernel
theorem dX6_flip_16 : decode cX6_flip 16 = .ok (.iaload, 1) := by decide +kernel
theorem dX6_flip_17 : decode cX6_flip 17 = .ok (.ishl, 1) := by decide +kernel
theorem dX6_flip_18 : decode cX6_flip 18 = .ok (.iconst 1, 1) := by decide +kernel
theorem dX6_flip_19 : decode cX6_flip 19 = .ok (.isub, 1) := by decide +kernel
theorem dX6_flip_20 : decode cX6_flip 20 = .ok (.invokestatic 63, 3) := by decide +kernel
theorem dX6_flip_23 : decode cX6_flip 23 = .ok (.ifCond .ne 7, 3) := by decide +kernel
theorem dX6_flip_26 : decode cX6_flip 26 = .ok (.sipush (-1001), 3) := by decide +kernel
theorem dX6_flip_29 : decode cX6_flip 29 = .ok (.ireturn, 1) := by decide +kernel
theorem dX6_flip_30 : decode cX6_flip 30 = .ok (.aload_n 0, 1) := by decide +kernel
theorem dX6_flip_31 : decode cX6_flip 31 = .ok (.iload_n 1, 1) := by decide +kernel
theorem dX6_flip_32 : decode cX6_flip 32 = .ok (.invokevirtual 87, 3) := by decide +kernel
theorem dX6_flip_35 : decode cX6_flip 35 = .ok (.ifCond .eq 7, 3) := by decide +kernel
theorem dX6_flip_38 : decode cX6_flip 38 = .ok (.sipush (-1002), 3) := by decide +kernel
theorem dX6_flip_41 : decode cX6_flip 41 = .ok (.ireturn, 1) := by decide +kernel
theorem dX6_flip_42 : decode cX6_flip 42 = .ok (.aload_n 0, 1) := by decide +kernel
theorem dX6_flip_43 : decode cX6_flip 43 = .ok (.invokevirtual 74, 3) := by decide +kernel
theorem dX6_flip_46 : decode cX6_flip 46 = .ok (.aload_n 0, 1) := by decide +kernel
theorem dX6_flip_47 : decode cX6_flip 47 = .ok (.getfield 7, 3) := by decide +kernel
theorem dX6_flip_50 : decode cX6_flip 50 = .ok (.bipush 9, 2) := by decide +kernel
theorem dX6_flip_52 : decode cX6_flip 52 = .ok (.iload_n 1, 1) := by decide +kernel
theorem dX6_flip_53 : decode cX6_flip 53 = .ok (.iadd, 1) := by decide +kernel
theorem dX6_flip_54 : decode cX6_flip 54 = .ok (.dup2, 1) := by decide +kernel
theorem dX6_flip_55 : decode cX6_flip 55 = .ok (.iaload, 1) := by decide +kernel
theorem dX6_flip_56 : decode cX6_flip 56 = .ok (.iload_n 2, 1) := by decide +kernel
theorem dX6_flip_57 : decode cX6_flip 57 = .ok (.ixor, 1) := by decide +kernel
theorem dX6_flip_58 : decode cX6_flip 58 = .ok (.iastore, 1) := by decide +kernel
theorem dX6_flip_59 : decode cX6_flip 59 = .ok (.aload_n 0, 1) := by decide +kernel
theorem dX6_flip_60 : decode cX6_flip 60 = .ok (.getfield 33, 3) := by decide +kernel
theorem dX6_flip_63 : decode cX6_flip 63 = .ok (.aload_n 0, 1) := by decide +kernel
theorem dX6_flip_64 : decode cX6_flip 64 = .ok (.getfield 7, 3) := by decide +kernel
theorem dX6_flip_67 : decode cX6_flip 67 = .ok (.bipush 9, 2) := by decide +kernel
theorem dX6_flip_69 : decode cX6_flip 69 = .ok (.iload_n 1, 1) := by decide +kernel
theorem dX6_flip_70 : decode cX6_flip 70 = .ok (.iadd, 1) := by decide +kernel
theorem dX6_flip_71 : decode cX6_flip 71 = .ok (.iaload, 1) := by decide +kernel
theorem dX6_flip_72 : decode cX6_flip 72 = .ok (.iaload, 1) := by decide +kernel
theorem dX6_flip_73 : decode cX6_flip 73 = .ok (.ireturn, 1) := by decide +kernel
set_option maxRecDepth 20000 in
theorem ggX6_lose_X6_isBlock : GoodIn wsX6_lose wsX6_isBlock := goodIn_r _ [6, 1, 7, 8, 5, 9, 16, 17, 18, 19, 20, 21, 22, 23, 24, 25, 26, 27, 28, 29, 30, 31, 32] (by decide +kernel) (by decide +kernel)
set_option maxRecDepth 20000 in
theorem gX6_lose_X6_isBlock : GoodIn wsX6_lose (wsV RX6 99 RX6 yX6_isBlock wsX6_isBlock) := goodIn_app (goodIn_of _ (by decide +kernel)) ggX6_lose_X6_isBlock
set_option maxRecDepth 20000 in
theorem ggX6_lose_X6_in : GoodIn wsX6_lose wsX6_in := goodIn_r _ [9] (by decide +kernel) (by decide +kernel)
set_option maxRecDepth 20000 in
theorem gX6_lose_X6_in : GoodIn wsX6_lose (va_wsS RX6 63 yX6_in wsX6_in) := goodIn_app (goodIn_of _ (by decide +kernel)) ggX6_lose_X6_in
set_option maxRecDepth 20000 in
theorem ggX6_lose_X6_records : GoodIn wsX6_lose wsX6_records := goodIn_r _ [13, 14, 15, 1, 16, 17, 18, 19, 20, 21, 22, 23, 24, 25, 26, 27, 28, 29, 30, 31, 32] (by decide +kernel) (by decide +kernel)
set_option maxRecDepth 20000 in
theorem gX6_lose_X6_records : GoodIn wsX6_lose (wsV RX6 74 RX6 yX6_records wsX6_records) := goodIn_app (goodIn_of _ (by decide +kernel)) ggX6_lose_X6_records
theorem dX6_lose_0 : decode cX6_lose 0 = .ok (.aload_n 0, 1) := by decide +kernel
theorem dX6_lose_1 : decode cX6_lose 1 = .ok (.iload_n 1, 1) := by decide +kernel
theorem dX6_lose_2 : decode cX6_lose 2 = .ok (.invokevirtual 99, 3) := by decide +kernel
theorem dX6_lose_5 : decode cX6_lose 5 = .ok (.ifCond .eq 12, 3) := by decide +kernel
theorem dX6_lose_8 : decode cX6_lose 8 = .ok (.iload_n 2, 1) := by decide +kernel
theorem dX6_lose_9 : decode cX6_lose 9 = .ok (.iconst 0, 1) := by decide +kernel
theorem dX6_lose_10 : decode cX6_lose 10 = .ok (.iconst 1, 1) := by decide +kernel
theorem dX6_lose_11 : decode cX6_lose 11 = .ok (.invokestatic 63, 3) := by decide +kernel
theorem dX6_lose_14 : decode cX6_lose 14 = .ok (.ifCond .ne 7, 3) := by decide +kernel
theorem dX6_lose_17 : decode cX6_lose 17 = .ok (.sipush (-1001), 3) := by decide +kernel
theorem dX6_lose_20 : decode cX6_lose 20 = .ok (.ireturn, 1) := by decide +kernel
theorem dX6_lose_21 : decode cX6_lose 21 = .ok (.aload_n 0, 1) := by decide +kernel
theorem dX6_lose_22 : decode cX6_lose 22 = .ok (.invokevirtual 74, 3) := by decide +kernel
theorem dX6_lose_25 : decode cX6_lose 25 = .ok (.aload_n 0, 1) := by decide +kernel
theorem dX6_lose_26 : decode cX6_lose 26 = .ok (.getfield 7, 3) := by decide +kernel
theorem dX6_lose_29 : decode cX6_lose 29 = .ok (.bipush 7, 2) := by decide +kernel
theorem dX6_lose_31 : decode cX6_lose 31 = .ok (.iaload, 1) := by decide +kernel
theorem dX6_lose_32 : decode cX6_lose 32 = .ok (.iload_n 1, 1) := by decide +kernel
theorem dX6_lose_33 : decode cX6_lose 33 = .ok (.ishr, 1) := by decide +kernel
theorem dX6_lose_34 : decode cX6_lose 34 = .ok (.iconst 1, 1) := by decide +kernel
theorem dX6_lose_35 : decode cX6_lose 35 = .ok (.iand, 1) := by decide +kernel
theorem dX6_lose_36 : decode cX6_lose 36 = .ok (.istore_n 3, 1) := by decide +kernel
theorem dX6_lose_37 : decode cX6_lose 37 = .ok (.aload_n 0, 1) := by decide +kernel
theorem dX6_lose_38 : decode cX6_lose 38 = .ok (.getfield 7, 3) := by decide +kernel
theorem dX6_lose_41 : decode cX6_lose 41 = .ok (.bipush 7, 2) := by decide +kernel
theorem dX6_lose_43 : decode cX6_lose 43 = .ok (.aload_n 0, 1) := by decide +kernel
theorem dX6_lose_44 : decode cX6_lose 44 = .ok (.getfield 7, 3) := by decide +kernel
theorem dX6_lose_47 : decode cX6_lose 47 = .ok (.bipush 7, 2) := by decide +kernel
theorem dX6_lose_49 : decode cX6_lose 49 = .ok (.iaload, 1) := by decide +kernel
theorem dX6_lose_50 : decode cX6_lose 50 = .ok (.iconst 1, 1) := by decide +kernel
theorem dX6_lose_51 : decode cX6_lose 51 = .ok (.iload_n 1, 1) := by decide +kernel
theorem dX6_lose_52 : decode cX6_lose 52 = .ok (.ishl, 1) := by decide +kernel
theorem dX6_lose_53 : decode cX6_lose 53 = .ok (.iconst (-1), 1) := by decide +kernel
theorem dX6_lose_54 : decode cX6_lose 54 = .ok (.ixor, 1) := by decide +kernel
theorem dX6_lose_55 : decode cX6_lose 55 = .ok (.iand, 1) := by decide +kernel
theorem dX6_lose_56 : decode cX6_lose 56 = .ok (.iload_n 2, 1) := by decide +kernel
theorem dX6_lose_57 : decode cX6_lose 57 = .ok (.iload_n 1, 1) := by decide +kernel
theorem dX6_lose_58 : decode cX6_lose 58 = .ok (.ishl, 1) := by decide +kernel
theorem dX6_lose_59 : decode cX6_lose 59 = .ok (.ior, 1) := by decide +kernel
theorem dX6_lose_60 : decode cX6_lose 60 = .ok (.iastore, 1) := by decide +kernel
theorem dX6_lose_61 : decode cX6_lose 61 = .ok (.iload_n 3, 1) := by decide +kernel
theorem dX6_lose_62 : decode cX6_lose 62 = .ok (.ireturn, 1) := by decide +kernel
set_option maxRecDepth 20000 in
theorem ggX6_burst_X6_in : GoodIn wsX6_burst wsX6_in := goodIn_r _ [5] (by decide +kernel) (by decide +kernel)
set_option maxRecDepth 20000 in
theorem gX6_burst_X6_in : GoodIn wsX6_burst (va_wsS RX6 63 yX6_in wsX6_in) := goodIn_app (goodIn_of _ (by decide +kernel)) ggX6_burst_X6_in
set_option maxRecDepth 20000 in
theorem ggX6_burst_X6_records : GoodIn wsX6_burst wsX6_records := goodIn_r _ [9, 10, 11, 1, 12, 13, 14, 15, 16, 17, 18, 19, 20, 21, 22, 23, 24, 25, 26, 27, 28] (by decide +kernel) (by decide +kernel)
set_option maxRecDepth 20000 in
theorem gX6_burst_X6_records : GoodIn wsX6_burst (wsV RX6 74 RX6 yX6_records wsX6_records) := goodIn_app (goodIn_of _ (by decide +kernel)) ggX6_burst_X6_records
theorem dX6_burst_0 : decode cX6_burst 0 = .ok (.aload_n 0, 1) := by decide +kernel
theorem dX6_burst_1 : decode cX6_burst 1 = .ok (.getfield 7, 3) := by decide +kernel
theorem dX6_burst_4 : decode cX6_burst 4 = .ok (.iconst 0, 1) := by decide +kernel
theorem dX6_burst_5 : decode cX6_burst 5 = .ok (.iaload, 1) := by decide +kernel
theorem dX6_burst_6 : decode cX6_burst 6 = .ok (.aload_n 0, 1) := by decide +kernel
theorem dX6_burst_7 : decode cX6_burst 7 = .ok (.getfield 7, 3) := by decide +kernel
theorem dX6_burst_10 : decode cX6_burst 10 = .ok (.iconst 2, 1) := by decide +kernel
theorem dX6_burst_11 : decode cX6_burst 11 = .ok (.iaload, 1) := by decide +kernel
theorem dX6_burst_12 : decode cX6_burst 12 = .ok (.imul, 1) := by decide +kernel
theorem dX6_burst_13 : decode cX6_burst 13 = .ok (.istore_n 3, 1) := by decide +kernel
theorem dX6_burst_14 : decode cX6_burst 14 = .ok (.iload_n 1, 1) := by decide +kernel
theorem dX6_burst_15 : decode cX6_burst 15 = .ok (.iconst 0, 1) := by decide +kernel
theorem dX6_burst_16 : decode cX6_burst 16 = .ok (.iload_n 3, 1) := by decide +kernel
theorem dX6_burst_17 : decode cX6_burst 17 = .ok (.iconst 1, 1) := by decide +kernel
theorem dX6_burst_18 : decode cX6_burst 18 = .ok (.isub, 1) := by decide +kernel
theorem dX6_burst_19 : decode cX6_burst 19 = .ok (.invokestatic 63, 3) := by decide +kernel
theorem dX6_burst_22 : decode cX6_burst 22 = .ok (.ifCond .eq 14, 3) := by decide +kernel
theorem dX6_burst_25 : decode cX6_burst 25 = .ok (.iload_n 2, 1) := by decide +kernel
theorem dX6_burst_26 : decode cX6_burst 26 = .ok (.iconst 1, 1) := by decide +kernel
theorem dX6_burst_27 : decode cX6_burst 27 = .ok (.iload_n 3, 1) := by decide +kernel
theorem dX6_burst_28 : decode cX6_burst 28 = .ok (.iload_n 1, 1) := by decide +kernel
theorem dX6_burst_29 : decode cX6_burst 29 = .ok (.isub, 1) := by decide +kernel
theorem dX6_burst_30 : decode cX6_burst 30 = .ok (.invokestatic 63, 3) := by decide +kernel
theorem dX6_burst_33 : decode cX6_burst 33 = .ok (.ifCond .ne 7, 3) := by decide +kernel
theorem dX6_burst_36 : decode cX6_burst 36 = .ok (.sipush (-1001), 3) := by decide +kernel
theorem dX6_burst_39 : decode cX6_burst 39 = .ok (.ireturn, 1) := by decide +kernel
theorem dX6_burst_40 : decode cX6_burst 40 = .ok (.aload_n 0, 1) := by decide +kernel
theorem dX6_burst_41 : decode cX6_burst 41 = .ok (.invokevirtual 74, 3) := by decide +kernel
theorem dX6_burst_44 : decode cX6_burst 44 = .ok (.iload_n 1, 1) := by decide +kernel
theorem dX6_burst_45 : decode cX6_burst 45 = .ok (.istore 4, 2) := by decide +kernel
theorem dX6_burst_47 : decode cX6_burst 47 = .ok (.iload 4, 2) := by decide +kernel
theorem dX6_burst_49 : decode cX6_burst 49 = .ok (.iload_n 1, 1) := by decide +kernel
theorem dX6_burst_50 : decode cX6_burst 50 = .ok (.iload_n 2, 1) := by decide +kernel
theorem dX6_burst_51 : decode cX6_burst 51 = .ok (.iadd, 1) := by decide +kernel
theorem dX6_burst_52 : decode cX6_burst 52 = .ok (.if_icmp .ge 40, 3) := by decide +kernel
theorem dX6_burst_55 : decode cX6_burst 55 = .ok (.aload_n 0, 1) := by decide +kernel
theorem dX6_burst_56 : decode cX6_burst 56 = .ok (.getfield 7, 3) := by decide +kernel
theorem dX6_burst_59 : decode cX6_burst 59 = .ok (.bipush 9, 2) := by decide +kernel
theorem dX6_burst_61 : decode cX6_burst 61 = .ok (.iload 4, 2) := by decide +kernel
theorem dX6_burst_63 : decode cX6_burst 63 = .ok (.aload_n 0, 1) := by decide +kernel
theorem dX6_burst_64 : decode cX6_burst 64 = .ok (.getfield 7, 3) := by decide +kernel
theorem dX6_burst_67 : decode cX6_burst 67 = .ok (.iconst 2, 1) := by decide +kernel
theorem dX6_burst_68 : decode cX6_burst 68 = .ok (.iaload, 1) := by decide +kernel
theorem dX6_burst_69 : decode cX6_burst 69 = .ok (.idiv, 1) := by decide +kernel
theorem dX6_burst_70 : decode cX6_burst 70 = .ok (.iadd, 1) := by decide +kernel
theorem dX6_burst_71 : decode cX6_burst 71 = .ok (.dup2, 1) := by decide +kernel
theorem dX6_burst_72 : decode cX6_burst 72 = .ok (.iaload, 1) := by decide +kernel
theorem dX6_burst_73 : decode cX6_burst 73 = .ok (.iconst 1, 1) := by decide +kernel
theorem dX6_burst_74 : decode cX6_burst 74 = .ok (.iload 4, 2) := by decide +kernel
theorem dX6_burst_76 : decode cX6_burst 76 = .ok (.aload_n 0, 1) := by decide +kernel
theorem dX6_burst_77 : decode cX6_burst 77 = .ok (.getfield 7, 3) := by decide +kernel
theorem dX6_burst_80 : decode cX6_burst 80 = .ok (.iconst 2, 1) := by decide +kernel
theorem dX6_burst_81 : decode cX6_burst 81 = .ok (.iaload, 1) := by decide +kernel
theorem dX6_burst_82 : decode cX6_burst 82 = .ok (.irem, 1) := by decide +kernel
theorem dX6_burst_83 : decode cX6_burst 83 = .ok (.ishl, 1) := by decide +kernel
theorem dX6_burst_84 : decode cX6_burst 84 = .ok (.ixor, 1) := by decide +kernel
theorem dX6_burst_85 : decode cX6_burst 85 = .ok (.iastore, 1) := by decide +kernel
theorem dX6_burst_86 : decode cX6_burst 86 = .ok (.iinc 4 1, 3) := by decide +kernel
theorem dX6_burst_89 : decode cX6_burst 89 = .ok (.goto (-42), 3) := by decide +kernel
theorem dX6_burst_92 : decode cX6_burst 92 = .ok (.iload_n 1, 1) := by decide +kernel
theorem dX6_burst_93 : decode cX6_burst 93 = .ok (.iload_n 2, 1) := by decide +kernel
theorem dX6_burst_94 : decode cX6_burst 94 = .ok (.iadd, 1) := by decide +kernel
theorem dX6_burst_95 : decode cX6_burst 95 = .ok (.iconst 1, 1) := by decide +kernel
theorem dX6_burst_96 : decode cX6_burst 96 = .ok (.isub, 1) := by decide +kernel
theorem dX6_burst_97 : decode cX6_burst 97 = .ok (.aload_n 0, 1) := by decide +kernel
theorem dX6_burst_98 : decode cX6_burst 98 = .ok (.getfield 7, 3) := by decide +kernel
theorem dX6_burst_101 : decode cX6_burst 101 = .ok (.iconst 2, 1) := by decide +kernel
theorem dX6_burst_102 : decode cX6_burst 102 = .ok (.iaload, 1) := by decide +kernel
theorem dX6_burst_103 : decode cX6_burst 103 = .ok (.idiv, 1) := by decide +kernel
theorem dX6_burst_104 : decode cX6_burst 104 = .ok (.iload_n 1, 1) := by decide +kernel
theorem dX6_burst_105 : decode cX6_burst 105 = .ok (.aload_n 0, 1) := by decide +kernel
theorem dX6_burst_106 : decode cX6_burst 106 = .ok (.getfield 7, 3) := by decide +kernel
theorem dX6_burst_109 : decode cX6_burst 109 = .ok (.iconst 2, 1) := by decide +kernel
theorem dX6_burst_110 : decode cX6_burst 110 = .ok (.iaload, 1) := by decide +kernel
theorem dX6_burst_111 : decode cX6_burst 111 = .ok (.idiv, 1) := by decide +kernel
theorem dX6_burst_112 : decode cX6_burst 112 = .ok (.isub, 1) := by decide +kernel
theorem dX6_burst_113 : decode cX6_burst 113 = .ok (.iconst 1, 1) := by decide +kernel
theorem dX6_burst_114 : decode cX6_burst 114 = .ok (.iadd, 1) := by decide +kernel
theorem dX6_burst_115 : decode cX6_burst 115 = .ok (.ireturn, 1) := by decide +kernel
set_option maxRecDepth 20000 in
theorem ggX6_sendCascade_X6_decode : GoodIn wsX6_sendCascade wsX6_decode := goodIn_r _ [8, 9, 10, 11, 12, 7, 13, 14, 15, 16, 17, 18, 1, 19, 20, 21, 22, 23, 24, 25, 26, 27, 28, 29, 30, 31, 32, 33, 34, 35, 36, 37, 3, 38, 39, 40, 41, 42, 43, 44, 45, 46, 47, 48, 49, 50, 51, 52, 53, 63, 64, 65, 66, 67, 68, 69, 70, 71, 72, 73, 74, 75, 76, 77, 78, 79] (by decide +kernel) (by decide +kernel)
set_option maxRecDepth 20000 in
theorem gX6_sendCascade_X6_decode : GoodIn wsX6_sendCascade (wsV RX6 102 RX6 yX6_decode wsX6_decode) := goodIn_app (goodIn_of _ (by decide +kernel)) ggX6_sendCascade_X6_decode
set_option maxRecDepth 20000 in
theorem ggX6_sendCascade_X6_records : GoodIn wsX6_sendCascade wsX6_records := goodIn_r _ [57, 58, 59, 1, 63, 64, 65, 66, 67, 68, 69, 70, 71, 72, 73, 74, 75, 76, 77, 78, 79] (by decide +kernel) (by decide +kernel)
set_option maxRecDepth 20000 in
theorem gX6_sendCascade_X6_records : GoodIn wsX6_sendCascade (wsV RX6 74 RX6 yX6_records wsX6_records) := goodIn_app (goodIn_of _ (by decide +kernel)) ggX6_sendCascade_X6_records
set_option maxRecDepth 20000 in
theorem ggX6_sendCascade_X6_ones : GoodIn wsX6_sendCascade wsX6_ones := goodIn_r _ [62] (by decide +kernel) (by decide +kernel)
set_option maxRecDepth 20000 in
theorem gX6_sendCascade_X6_ones : GoodIn wsX6_sendCascade (va_wsS RX6 59 yX6_ones wsX6_ones) := goodIn_app (goodIn_of _ (by decide +kernel)) ggX6_sendCascade_X6_ones
theorem dX6_sendCascade_0 : decode cX6_sendCascade 0 = .ok (.aload_n 0, 1) := by decide +kernel
theorem dX6_sendCascade_1 : decode cX6_sendCascade 1 = .ok (.invokevirtual 102, 3) := by decide +kernel
theorem dX6_sendCascade_4 : decode cX6_sendCascade 4 = .ok (.istore_n 1, 1) := by decide +kernel
theorem dX6_sendCascade_5 : decode cX6_sendCascade 5 = .ok (.iload_n 1, 1) := by decide +kernel
theorem dX6_sendCascade_6 : decode cX6_sendCascade 6 = .ok (.ifCond .ge 7, 3) := by decide +kernel
theorem dX6_sendCascade_9 : decode cX6_sendCascade 9 = .ok (.sipush (-1002), 3) := by decide +kernel
theorem dX6_sendCascade_12 : decode cX6_sendCascade 12 = .ok (.ireturn, 1) := by decide +kernel
theorem dX6_sendCascade_13 : decode cX6_sendCascade 13 = .ok (.aload_n 0, 1) := by decide +kernel
theorem dX6_sendCascade_14 : decode cX6_sendCascade 14 = .ok (.invokevirtual 74, 3) := by decide +kernel
theorem dX6_sendCascade_17 : decode cX6_sendCascade 17 = .ok (.aload_n 0, 1) := by decide +kernel
theorem dX6_sendCascade_18 : decode cX6_sendCascade 18 = .ok (.getfield 7, 3) := by decide +kernel
theorem dX6_sendCascade_21 : decode cX6_sendCascade 21 = .ok (.bipush 8, 2) := by decide +kernel
theorem dX6_sendCascade_23 : decode cX6_sendCascade 23 = .ok (.iload_n 1, 1) := by decide +kernel
theorem dX6_sendCascade_24 : decode cX6_sendCascade 24 = .ok (.iastore, 1) := by decide +kernel
theorem dX6_sendCascade_25 : decode cX6_sendCascade 25 = .ok (.iconst 0, 1) := by decide +kernel
theorem dX6_sendCascade_26 : decode cX6_sendCascade 26 = .ok (.istore_n 2, 1) := by decide +kernel
theorem dX6_sendCascade_27 : decode cX6_sendCascade 27 = .ok (.iconst 0, 1) := by decide +kernel
theorem dX6_sendCascade_28 : decode cX6_sendCascade 28 = .ok (.istore_n 3, 1) := by decide +kernel
theorem dX6_sendCascade_29 : decode cX6_sendCascade 29 = .ok (.iload_n 3, 1) := by decide +kernel
theorem dX6_sendCascade_30 : decode cX6_sendCascade 30 = .ok (.aload_n 0, 1) := by decide +kernel
theorem dX6_sendCascade_31 : decode cX6_sendCascade 31 = .ok (.getfield 7, 3) := by decide +kernel
theorem dX6_sendCascade_34 : decode cX6_sendCascade 34 = .ok (.iconst 0, 1) := by decide +kernel
theorem dX6_sendCascade_35 : decode cX6_sendCascade 35 = .ok (.iaload, 1) := by decide +kernel
theorem dX6_sendCascade_36 : decode cX6_sendCascade 36 = .ok (.if_icmp .ge 92, 3) := by decide +kernel
theorem dX6_sendCascade_39 : decode cX6_sendCascade 39 = .ok (.aload_n 0, 1) := by decide +kernel
theorem dX6_sendCascade_40 : decode cX6_sendCascade 40 = .ok (.getfield 27, 3) := by decide +kernel
theorem dX6_sendCascade_43 : decode cX6_sendCascade 43 = .ok (.aload_n 0, 1) := by decide +kernel
theorem dX6_sendCascade_44 : decode cX6_sendCascade 44 = .ok (.getfield 23, 3) := by decide +kernel
theorem dX6_sendCascade_47 : decode cX6_sendCascade 47 = .ok (.bipush 12, 2) := by decide +kernel
theorem dX6_sendCascade_49 : decode cX6_sendCascade 49 = .ok (.iload_n 1, 1) := by decide +kernel
theorem dX6_sendCascade_50 : decode cX6_sendCascade 50 = .ok (.imul, 1) := by decide +kernel
theorem dX6_sendCascade_51 : decode cX6_sendCascade 51 = .ok (.iload_n 3, 1) := by decide +kernel
theorem dX6_sendCascade_52 : decode cX6_sendCascade 52 = .ok (.iadd, 1) := by decide +kernel
theorem dX6_sendCascade_53 : decode cX6_sendCascade 53 = .ok (.baload, 1) := by decide +kernel
theorem dX6_sendCascade_54 : decode cX6_sendCascade 54 = .ok (.iaload, 1) := by decide +kernel
theorem dX6_sendCascade_55 : decode cX6_sendCascade 55 = .ok (.istore 4, 2) := by decide +kernel
theorem dX6_sendCascade_57 : decode cX6_sendCascade 57 = .ok (.aload_n 0, 1) := by decide +kernel
theorem dX6_sendCascade_58 : decode cX6_sendCascade 58 = .ok (.getfield 7, 3) := by decide +kernel
theorem dX6_sendCascade_61 : decode cX6_sendCascade 61 = .ok (.bipush 9, 2) := by decide +kernel
theorem dX6_sendCascade_63 : decode cX6_sendCascade 63 = .ok (.iload_n 3, 1) := by decide +kernel
theorem dX6_sendCascade_64 : decode cX6_sendCascade 64 = .ok (.iadd, 1) := by decide +kernel
theorem dX6_sendCascade_65 : decode cX6_sendCascade 65 = .ok (.iaload, 1) := by decide +kernel
theorem dX6_sendCascade_66 : decode cX6_sendCascade 66 = .ok (.iload 4, 2) := by decide +kernel
theorem dX6_sendCascade_68 : decode cX6_sendCascade 68 = .ok (.ixor, 1) := by decide +kernel
theorem dX6_sendCascade_69 : decode cX6_sendCascade 69 = .ok (.istore 5, 2) := by decide +kernel
theorem dX6_sendCascade_71 : decode cX6_sendCascade 71 = .ok (.iload 5, 2) := by decide +kernel
theorem dX6_sendCascade_73 : decode cX6_sendCascade 73 = .ok (.iconst 1, 1) := by decide +kernel
theorem dX6_sendCascade_74 : decode cX6_sendCascade 74 = .ok (.ishl, 1) := by decide +kernel
theorem dX6_sendCascade_75 : decode cX6_sendCascade 75 = .ok (.iconst 1, 1) := by decide +kernel
theorem dX6_sendCascade_76 : decode cX6_sendCascade 76 = .ok (.aload_n 0, 1) := by decide +kernel
theorem dX6_sendCascade_77 : decode cX6_sendCascade 77 = .ok (.getfield 7, 3) := by decide +kernel
theorem dX6_sendCascade_80 : decode cX6_sendCascade 80 = .ok (.iconst 2, 1) := by decide +kernel
theorem dX6_sendCascade_81 : decode cX6_sendCascade 81 = .ok (.iaload, 1) := by decide +kernel
theorem dX6_sendCascade_82 : decode cX6_sendCascade 82 = .ok (.ishl, 1) := by decide +kernel
theorem dX6_sendCascade_83 : decode cX6_sendCascade 83 = .ok (.iconst 1, 1) := by decide +kernel
theorem dX6_sendCascade_84 : decode cX6_sendCascade 84 = .ok (.isub, 1) := by decide +kernel
theorem dX6_sendCascade_85 : decode cX6_sendCascade 85 = .ok (.iand, 1) := by decide +kernel
theorem dX6_sendCascade_86 : decode cX6_sendCascade 86 = .ok (.iload 5, 2) := by decide +kernel
theorem dX6_sendCascade_88 : decode cX6_sendCascade 88 = .ok (.aload_n 0, 1) := by decide +kernel
theorem dX6_sendCascade_89 : decode cX6_sendCascade 89 = .ok (.getfield 7, 3) := by decide +kernel
theorem dX6_sendCascade_92 : decode cX6_sendCascade 92 = .ok (.iconst 2, 1) := by decide +kernel
theorem dX6_sendCascade_93 : decode cX6_sendCascade 93 = .ok (.iaload, 1) := by decide +kernel
theorem dX6_sendCascade_94 : decode cX6_sendCascade 94 = .ok (.iconst 1, 1) := by decide +kernel
theorem dX6_sendCascade_95 : decode cX6_sendCascade 95 = .ok (.isub, 1) := by decide +kernel
theorem dX6_sendCascade_96 : decode cX6_sendCascade 96 = .ok (.ishr, 1) := by decide +kernel
theorem dX6_sendCascade_97 : decode cX6_sendCascade 97 = .ok (.ior, 1) := by decide +kernel
theorem dX6_sendCascade_98 : decode cX6_sendCascade 98 = .ok (.istore 6, 2) := by decide +kernel
theorem dX6_sendCascade_100 : decode cX6_sendCascade 100 = .ok (.aload_n 0, 1) := by decide +kernel
theorem dX6_sendCascade_101 : decode cX6_sendCascade 101 = .ok (.getfield 7, 3) := by decide +kernel
theorem dX6_sendCascade_104 : decode cX6_sendCascade 104 = .ok (.bipush 9, 2) := by decide +kernel
theorem dX6_sendCascade_106 : decode cX6_sendCascade 106 = .ok (.iload_n 3, 1) := by decide +kernel
theorem dX6_sendCascade_107 : decode cX6_sendCascade 107 = .ok (.iadd, 1) := by decide +kernel
theorem dX6_sendCascade_108 : decode cX6_sendCascade 108 = .ok (.iload 4, 2) := by decide +kernel
theorem dX6_sendCascade_110 : decode cX6_sendCascade 110 = .ok (.iload 6, 2) := by decide +kernel
theorem dX6_sendCascade_112 : decode cX6_sendCascade 112 = .ok (.ixor, 1) := by decide +kernel
theorem dX6_sendCascade_113 : decode cX6_sendCascade 113 = .ok (.iastore, 1) := by decide +kernel
theorem dX6_sendCascade_114 : decode cX6_sendCascade 114 = .ok (.iload_n 2, 1) := by decide +kernel
theorem dX6_sendCascade_115 : decode cX6_sendCascade 115 = .ok (.iload 6, 2) := by decide +kernel
theorem dX6_sendCascade_117 : decode cX6_sendCascade 117 = .ok (.invokestatic 59, 3) := by decide +kernel
theorem dX6_sendCascade_120 : decode cX6_sendCascade 120 = .ok (.iadd, 1) := by decide +kernel
theorem dX6_sendCascade_121 : decode cX6_sendCascade 121 = .ok (.istore_n 2, 1) := by decide +kernel
theorem dX6_sendCascade_122 : decode cX6_sendCascade 122 = .ok (.iinc 3 1, 3) := by decide +kernel
theorem dX6_sendCascade_125 : decode cX6_sendCascade 125 = .ok (.goto (-96), 3) := by decide +kernel
theorem dX6_sendCascade_128 : decode cX6_sendCascade 128 = .ok (.iload_n 2, 1) := by decide +kernel
theorem dX6_sendCascade_129 : decode cX6_sendCascade 129 = .ok (.ireturn, 1) := by decide +kernel
set_option maxRecDepth 20000 in
theorem ggX6_received_X6_isBlock : GoodIn wsX6_received wsX6_isBlock := goodIn_r _ [6, 1, 7, 8, 5, 9, 14, 15, 16, 17, 18, 19, 20, 21, 22, 23, 24, 25, 26, 27, 28, 29, 30] (by decide +kernel) (by decide +kernel)
set_option maxRecDepth 20000 in
theorem gX6_received_X6_isBlock : GoodIn wsX6_received (wsV RX6 99 RX6 yX6_isBlock wsX6_isBlock) := goodIn_app (goodIn_of _ (by decide +kernel)) ggX6_received_X6_isBlock
set_option maxRecDepth 20000 in
theorem ggX6_received_X6_isLost : GoodIn wsX6_received wsX6_isLost := goodIn_r _ [13, 1, 14, 15, 16, 17, 18, 19, 20, 21, 22, 23, 24, 25, 26, 27, 28, 29, 30] (by decide +kernel) (by decide +kernel)
set_option maxRecDepth 20000 in
theorem gX6_received_X6_isLost : GoodIn wsX6_received (wsV RX6 87 RX6 yX6_isLost wsX6_isLost) := goodIn_app (goodIn_of _ (by decide +kernel)) ggX6_received_X6_isLost
theorem dX6_received_0 : decode cX6_received 0 = .ok (.aload_n 0, 1) := by decide +kernel
theorem dX6_received_1 : decode cX6_received 1 = .ok (.iload_n 1, 1) := by decide +kernel
theorem dX6_received_2 : decode cX6_received 2 = .ok (.invokevirtual 99, 3) := by decide +kernel
theorem dX6_received_5 : decode cX6_received 5 = .ok (.ifCond .ne 9, 3) := by decide +kernel
theorem dX6_received_8 : decode cX6_received 8 = .ok (.sipush (-1001), 3) := by decide +kernel
theorem dX6_received_11 : decode cX6_received 11 = .ok (.goto 26, 3) := by decide +kernel
theorem dX6_received_14 : decode cX6_received 14 = .ok (.aload_n 0, 1) := by decide +kernel
theorem dX6_received_15 : decode cX6_received 15 = .ok (.iload_n 1, 1) := by decide +kernel
theorem dX6_received_16 : decode cX6_received 16 = .ok (.invokevirtual 87, 3) := by decide +kernel
theorem dX6_received_19 : decode cX6_received 19 = .ok (.ifCond .eq 9, 3) := by decide +kernel
theorem dX6_received_22 : decode cX6_received 22 = .ok (.sipush (-1004), 3) := by decide +kernel
theorem dX6_received_25 : decode cX6_received 25 = .ok (.goto 12, 3) := by decide +kernel
theorem dX6_received_28 : decode cX6_received 28 = .ok (.aload_n 0, 1) := by decide +kernel
theorem dX6_received_29 : decode cX6_received 29 = .ok (.getfield 7, 3) := by decide +kernel
theorem dX6_received_32 : decode cX6_received 32 = .ok (.bipush 9, 2) := by decide +kernel
theorem dX6_received_34 : decode cX6_received 34 = .ok (.iload_n 1, 1) := by decide +kernel
theorem dX6_received_35 : decode cX6_received 35 = .ok (.iadd, 1) := by decide +kernel
theorem dX6_received_36 : decode cX6_received 36 = .ok (.iaload, 1) := by decide +kernel
theorem dX6_received_37 : decode cX6_received 37 = .ok (.ireturn, 1) := by decide +kernel
theorem dX6_sent_0 : decode cX6_sent 0 = .ok (.aload_n 0, 1) := by decide +kernel
theorem dX6_sent_1 : decode cX6_sent 1 = .ok (.getfield 7, 3) := by decide +kernel
theorem dX6_sent_4 : decode cX6_sent 4 = .ok (.bipush 8, 2) := by decide +kernel
theorem dX6_sent_6 : decode cX6_sent 6 = .ok (.iaload, 1) := by decide +kernel
theorem dX6_sent_7 : decode cX6_sent 7 = .ok (.ireturn, 1) := by decide +kernel
set_option maxRecDepth 20000 in
theorem ggX6_judges_X6_isLost : GoodIn wsX6_judges wsX6_isLost := goodIn_r _ [13, 1, 14, 15, 16, 17, 18, 19, 20, 21, 22, 23, 24, 25, 26, 27, 28, 29, 30] (by decide +kernel) (by decide +kernel)
set_option maxRecDepth 20000 in
theorem gX6_judges_X6_isLost : GoodIn wsX6_judges (wsV RX6 87 RX6 yX6_isLost wsX6_isLost) := goodIn_app (goodIn_of _ (by decide +kernel)) ggX6_judges_X6_isLost
theorem dX6_judges_0 : decode cX6_judges 0 = .ok (.iconst 0, 1) := by decide +kernel
theorem dX6_judges_1 : decode cX6_judges 1 = .ok (.istore_n 1, 1) := by decide +kernel
theorem dX6_judges_2 : decode cX6_judges 2 = .ok (.iload_n 1, 1) := by decide +kernel
theorem dX6_judges_3 : decode cX6_judges 3 = .ok (.aload_n 0, 1) := by decide +kernel
theorem dX6_judges_4 : decode cX6_judges 4 = .ok (.getfield 7, 3) := by decide +kernel
theorem dX6_judges_7 : decode cX6_judges 7 = .ok (.iconst 0, 1) := by decide +kernel
theorem dX6_judges_8 : decode cX6_judges 8 = .ok (.iaload, 1) := by decide +kernel
theorem dX6_judges_9 : decode cX6_judges 9 = .ok (.if_icmp .ge 174, 3) := by decide +kernel
theorem dX6_judges_12 : decode cX6_judges 12 = .ok (.aload_n 0, 1) := by decide +kernel
theorem dX6_judges_13 : decode cX6_judges 13 = .ok (.getfield 36, 3) := by decide +kernel
theorem dX6_judges_16 : decode cX6_judges 16 = .ok (.iload_n 1, 1) := by decide +kernel
theorem dX6_judges_17 : decode cX6_judges 17 = .ok (.aload_n 0, 1) := by decide +kernel
theorem dX6_judges_18 : decode cX6_judges 18 = .ok (.iload_n 1, 1) := by decide +kernel
theorem dX6_judges_19 : decode cX6_judges 19 = .ok (.invokevirtual 87, 3) := by decide +kernel
theorem dX6_judges_22 : decode cX6_judges 22 = .ok (.ifCond .eq 7, 3) := by decide +kernel
theorem dX6_judges_25 : decode cX6_judges 25 = .ok (.iconst 0, 1) := by decide +kernel
theorem dX6_judges_26 : decode cX6_judges 26 = .ok (.goto 17, 3) := by decide +kernel
theorem dX6_judges_29 : decode cX6_judges 29 = .ok (.aload_n 0, 1) := by decide +kernel
theorem dX6_judges_30 : decode cX6_judges 30 = .ok (.getfield 30, 3) := by decide +kernel
theorem dX6_judges_33 : decode cX6_judges 33 = .ok (.aload_n 0, 1) := by decide +kernel
theorem dX6_judges_34 : decode cX6_judges 34 = .ok (.getfield 7, 3) := by decide +kernel
theorem dX6_judges_37 : decode cX6_judges 37 = .ok (.bipush 9, 2) := by decide +kernel
theorem dX6_judges_39 : decode cX6_judges 39 = .ok (.iload_n 1, 1) := by decide +kernel
theorem dX6_judges_40 : decode cX6_judges 40 = .ok (.iadd, 1) := by decide +kernel
theorem dX6_judges_41 : decode cX6_judges 41 = .ok (.iaload, 1) := by decide +kernel
theorem dX6_judges_42 : decode cX6_judges 42 = .ok (.iaload, 1) := by decide +kernel
theorem dX6_judges_43 : decode cX6_judges 43 = .ok (.iastore, 1) := by decide +kernel
theorem dX6_judges_44 : decode cX6_judges 44 = .ok (.aload_n 0, 1) := by decide +kernel
theorem dX6_judges_45 : decode cX6_judges 45 = .ok (.getfield 39, 3) := by decide +kernel
theorem dX6_judges_48 : decode cX6_judges 48 = .ok (.iload_n 1, 1) := by decide +kernel
theorem dX6_judges_49 : decode cX6_judges 49 = .ok (.aload_n 0, 1) := by decide +kernel
theorem dX6_judges_50 : decode cX6_judges 50 = .ok (.iload_n 1, 1) := by decide +kernel
theorem dX6_judges_51 : decode cX6_judges 51 = .ok (.invokevirtual 87, 3) := by decide +kernel
theorem dX6_judges_54 : decode cX6_judges 54 = .ok (.ifCond .eq 7, 3) := by decide +kernel
theorem dX6_judges_57 : decode cX6_judges 57 = .ok (.iconst 0, 1) := by decide +kernel
theorem dX6_judges_58 : decode cX6_judges 58 = .ok (.goto 17, 3) := by decide +kernel
theorem dX6_judges_61 : decode cX6_judges 61 = .ok (.aload_n 0, 1) := by decide +kernel
theorem dX6_judges_62 : decode cX6_judges 62 = .ok (.getfield 33, 3) := by decide +kernel
theorem dX6_judges_65 : decode cX6_judges 65 = .ok (.aload_n 0, 1) := by decide +kernel
theorem dX6_judges_66 : decode cX6_judges 66 = .ok (.getfield 7, 3) := by decide +kernel
theorem dX6_judges_69 : decode cX6_judges 69 = .ok (.bipush 9, 2) := by decide +kernel
theorem dX6_judges_71 : decode cX6_judges 71 = .ok (.iload_n 1, 1) := by decide +kernel
theorem dX6_judges_72 : decode cX6_judges 72 = .ok (.iadd, 1) := by decide +kernel
theorem dX6_judges_73 : decode cX6_judges 73 = .ok (.iaload, 1) := by decide +kernel
theorem dX6_judges_74 : decode cX6_judges 74 = .ok (.iaload, 1) := by decide +kernel
theorem dX6_judges_75 : decode cX6_judges 75 = .ok (.iastore, 1) := by decide +kernel
theorem dX6_judges_76 : decode cX6_judges 76 = .ok (.aload_n 0, 1) := by decide +kernel
theorem dX6_judges_77 : decode cX6_judges 77 = .ok (.getfield 42, 3) := by decide +kernel
theorem dX6_judges_80 : decode cX6_judges 80 = .ok (.iload_n 1, 1) := by decide +kernel
theorem dX6_judges_81 : decode cX6_judges 81 = .ok (.aload_n 0, 1) := by decide +kernel
theorem dX6_judges_82 : decode cX6_judges 82 = .ok (.iload_n 1, 1) := by decide +kernel
theorem dX6_judges_83 : decode cX6_judges 83 = .ok (.invokevirtual 87, 3) := by decide +kernel
theorem dX6_judges_86 : decode cX6_judges 86 = .ok (.ifCond .ne 18, 3) := by decide +kernel
theorem dX6_judges_89 : decode cX6_judges 89 = .ok (.aload_n 0, 1) := by decide +kernel
theorem dX6_judges_90 : decode cX6_judges 90 = .ok (.getfield 55, 3) := by decide +kernel
theorem dX6_judges_93 : decode cX6_judges 93 = .ok (.iconst 2, 1) := by decide +kernel
theorem dX6_judges_94 : decode cX6_judges 94 = .ok (.aload_n 0, 1) := by decide +kernel
theorem dX6_judges_95 : decode cX6_judges 95 = .ok (.getfield 39, 3) := by decide +kernel
theorem dX6_judges_98 : decode cX6_judges 98 = .ok (.iload_n 1, 1) := by decide +kernel
theorem dX6_judges_99 : decode cX6_judges 99 = .ok (.iaload, 1) := by decide +kernel
theorem dX6_judges_100 : decode cX6_judges 100 = .ok (.imul, 1) := by decide +kernel
theorem dX6_judges_101 : decode cX6_judges 101 = .ok (.if_icmp .ge 7, 3) := by decide +kernel
theorem dX6_judges_104 : decode cX6_judges 104 = .ok (.iconst 0, 1) := by decide +kernel
theorem dX6_judges_105 : decode cX6_judges 105 = .ok (.goto 16, 3) := by decide +kernel
theorem dX6_judges_108 : decode cX6_judges 108 = .ok (.aload_n 0, 1) := by decide +kernel
theorem dX6_judges_109 : decode cX6_judges 109 = .ok (.getfield 55, 3) := by decide +kernel
theorem dX6_judges_112 : decode cX6_judges 112 = .ok (.iconst 2, 1) := by decide +kernel
theorem dX6_judges_113 : decode cX6_judges 113 = .ok (.aload_n 0, 1) := by decide +kernel
theorem dX6_judges_114 : decode cX6_judges 114 = .ok (.getfield 39, 3) := by decide +kernel
theorem dX6_judges_117 : decode cX6_judges 117 = .ok (.iload_n 1, 1) := by decide +kernel
theorem dX6_judges_118 : decode cX6_judges 118 = .ok (.iaload, 1) := by decide +kernel
theorem dX6_judges_119 : decode cX6_judges 119 = .ok (.imul, 1) := by decide +kernel
theorem dX6_judges_120 : decode cX6_judges 120 = .ok (.isub, 1) := by decide +kernel
theorem dX6_judges_121 : decode cX6_judges 121 = .ok (.iastore, 1) := by decide +kernel
theorem dX6_judges_122 : decode cX6_judges 122 = .ok (.iload_n 1, 1) := by decide +kernel
theorem dX6_judges_123 : decode cX6_judges 123 = .ok (.istore_n 2, 1) := by decide +kernel
theorem dX6_judges_124 : decode cX6_judges 124 = .ok (.iload_n 2, 1) := by decide +kernel
theorem dX6_judges_125 : decode cX6_judges 125 = .ok (.ifCond .le 45, 3) := by decide +kernel
theorem dX6_judges_128 : decode cX6_judges 128 = .ok (.aload_n 0, 1) := by decide +kernel
theorem dX6_judges_129 : decode cX6_judges 129 = .ok (.getfield 42, 3) := by decide +kernel
theorem dX6_judges_132 : decode cX6_judges 132 = .ok (.aload_n 0, 1) := by decide +kernel
theorem dX6_judges_133 : decode cX6_judges 133 = .ok (.getfield 45, 3) := by decide +kernel
theorem dX6_judges_136 : decode cX6_judges 136 = .ok (.iload_n 2, 1) := by decide +kernel
theorem dX6_judges_137 : decode cX6_judges 137 = .ok (.iconst 1, 1) := by decide +kernel
theorem dX6_judges_138 : decode cX6_judges 138 = .ok (.isub, 1) := by decide +kernel
theorem dX6_judges_139 : decode cX6_judges 139 = .ok (.iaload, 1) := by decide +kernel
theorem dX6_judges_140 : decode cX6_judges 140 = .ok (.iaload, 1) := by decide +kernel
theorem dX6_judges_141 : decode cX6_judges 141 = .ok (.aload_n 0, 1) := by decide +kernel
theorem dX6_judges_142 : decode cX6_judges 142 = .ok (.getfield 42, 3) := by decide +kernel
theorem dX6_judges_145 : decode cX6_judges 145 = .ok (.iload_n 1, 1) := by decide +kernel
theorem dX6_judges_146 : decode cX6_judges 146 = .ok (.iaload, 1) := by decide +kernel
theorem dX6_judges_147 : decode cX6_judges 147 = .ok (.if_icmp .le 23, 3) := by decide +kernel
theorem dX6_judges_150 : decode cX6_judges 150 = .ok (.aload_n 0, 1) := by decide +kernel
theorem dX6_judges_151 : decode cX6_judges 151 = .ok (.getfield 45, 3) := by decide +kernel
theorem dX6_judges_154 : decode cX6_judges 154 = .ok (.iload_n 2, 1) := by decide +kernel
theorem dX6_judges_155 : decode cX6_judges 155 = .ok (.aload_n 0, 1) := by decide +kernel
theorem dX6_judges_156 : decode cX6_judges 156 = .ok (.getfield 45, 3) := by decide +kernel
theorem dX6_judges_159 : decode cX6_judges 159 = .ok (.iload_n 2, 1) := by decide +kernel
theorem dX6_judges_160 : decode cX6_judges 160 = .ok (.iconst 1, 1) := by decide +kernel
theorem dX6_judges_161 : decode cX6_judges 161 = .ok (.isub, 1) := by decide +kernel
theorem dX6_judges_162 : decode cX6_judges 162 = .ok (.iaload, 1) := by decide +kernel
theorem dX6_judges_163 : decode cX6_judges 163 = .ok (.iastore, 1) := by decide +kernel
theorem dX6_judges_164 : decode cX6_judges 164 = .ok (.iinc 2 (-1), 3) := by decide +kernel
theorem dX6_judges_167 : decode cX6_judges 167 = .ok (.goto (-43), 3) := by decide +kernel
theorem dX6_judges_170 : decode cX6_judges 170 = .ok (.aload_n 0, 1) := by decide +kernel
theorem dX6_judges_171 : decode cX6_judges 171 = .ok (.getfield 45, 3) := by decide +kernel
theorem dX6_judges_174 : decode cX6_judges 174 = .ok (.iload_n 2, 1) := by decide +kernel
theorem dX6_judges_175 : decode cX6_judges 175 = .ok (.iload_n 1, 1) := by decide +kernel
theorem dX6_judges_176 : decode cX6_judges 176 = .ok (.iastore, 1) := by decide +kernel
theorem dX6_judges_177 : decode cX6_judges 177 = .ok (.iinc 1 1, 3) := by decide +kernel
theorem dX6_judges_180 : decode cX6_judges 180 = .ok (.goto (-178), 3) := by decide +kernel
theorem dX6_judges_183 : decode cX6_judges 183 = .ok (.return_, 1) := by decide +kernel
theorem dX6_placeOf_0 : decode cX6_placeOf 0 = .ok (.iconst 0, 1) := by decide +kernel
theorem dX6_placeOf_1 : decode cX6_placeOf 1 = .ok (.istore_n 2, 1) := by decide +kernel
theorem dX6_placeOf_2 : decode cX6_placeOf 2 = .ok (.aload_n 0, 1) := by decide +kernel
theorem dX6_placeOf_3 : decode cX6_placeOf 3 = .ok (.getfield 45, 3) := by decide +kernel
theorem dX6_placeOf_6 : decode cX6_placeOf 6 = .ok (.iload_n 2, 1) := by decide +kernel
theorem dX6_placeOf_7 : decode cX6_placeOf 7 = .ok (.iaload, 1) := by decide +kernel
theorem dX6_placeOf_8 : decode cX6_placeOf 8 = .ok (.iload_n 1, 1) := by decide +kernel
theorem dX6_placeOf_9 : decode cX6_placeOf 9 = .ok (.if_icmp .eq 9, 3) := by decide +kernel
theorem dX6_placeOf_12 : decode cX6_placeOf 12 = .ok (.iinc 2 1, 3) := by decide +kernel
theorem dX6_placeOf_15 : decode cX6_placeOf 15 = .ok (.goto (-13), 3) := by decide +kernel
theorem dX6_placeOf_18 : decode cX6_placeOf 18 = .ok (.iload_n 2, 1) := by decide +kernel
theorem dX6_placeOf_19 : decode cX6_placeOf 19 = .ok (.ireturn, 1) := by decide +kernel
set_option maxRecDepth 20000 in
theorem ggX6_block_X6_isBlock : GoodIn wsX6_block wsX6_isBlock := goodIn_r _ [10, 5, 11, 12, 9, 13, 30, 31, 32, 33, 34, 35, 36, 37, 38, 39, 40, 41, 42, 43, 44, 45, 46] (by decide +kernel) (by decide +kernel)
set_option maxRecDepth 20000 in
theorem gX6_block_X6_isBlock : GoodIn wsX6_block (wsV RX6 99 RX6 yX6_isBlock wsX6_isBlock) := goodIn_app (goodIn_of _ (by decide +kernel)) ggX6_block_X6_isBlock
set_option maxRecDepth 20000 in
theorem ggX6_block_X6_in : GoodIn wsX6_block wsX6_in := goodIn_r _ [13] (by decide +kernel) (by decide +kernel)
set_option maxRecDepth 20000 in
theorem gX6_block_X6_in : GoodIn wsX6_block (va_wsS RX6 63 yX6_in wsX6_in) := goodIn_app (goodIn_of _ (by decide +kernel)) ggX6_block_X6_in
set_option maxRecDepth 20000 in
theorem ggX6_block_X6_judges : GoodIn wsX6_block wsX6_judges := goodIn_r _ [17, 5, 1, 18, 2, 19, 3, 20, 21, 22, 23, 24, 9, 25, 30, 31, 32, 33, 34, 35, 36, 37, 38, 39, 40, 41, 42, 43, 44, 45, 46] (by decide +kernel) (by decide +kernel)
set_option maxRecDepth 20000 in
theorem gX6_block_X6_judges : GoodIn wsX6_block (wsV RX6 105 RX6 yX6_judges wsX6_judges) := goodIn_app (goodIn_of _ (by decide +kernel)) ggX6_block_X6_judges
set_option maxRecDepth 20000 in
theorem ggX6_block_X6_placeOf : GoodIn wsX6_block wsX6_placeOf := goodIn_r _ [29, 21, 30, 31, 32, 33, 34, 35, 36, 37, 38, 39, 40, 41, 42, 43, 44, 45, 46] (by decide +kernel) (by decide +kernel)
set_option maxRecDepth 20000 in
theorem gX6_block_X6_placeOf : GoodIn wsX6_block (wsV RX6 108 RX6 yX6_placeOf wsX6_placeOf) := goodIn_app (goodIn_of _ (by decide +kernel)) ggX6_block_X6_placeOf
theorem dX6_block_0 : decode cX6_block 0 = .ok (.aload_n 0, 1) := by decide +kernel
theorem dX6_block_1 : decode cX6_block 1 = .ok (.iload_n 1, 1) := by decide +kernel
theorem dX6_block_2 : decode cX6_block 2 = .ok (.invokevirtual 99, 3) := by decide +kernel
theorem dX6_block_5 : decode cX6_block 5 = .ok (.ifCond .eq 12, 3) := by decide +kernel
theorem dX6_block_8 : decode cX6_block 8 = .ok (.iload_n 2, 1) := by decide +kernel
theorem dX6_block_9 : decode cX6_block 9 = .ok (.iconst 0, 1) := by decide +kernel
theorem dX6_block_10 : decode cX6_block 10 = .ok (.iconst 4, 1) := by decide +kernel
theorem dX6_block_11 : decode cX6_block 11 = .ok (.invokestatic 63, 3) := by decide +kernel
theorem dX6_block_14 : decode cX6_block 14 = .ok (.ifCond .ne 7, 3) := by decide +kernel
theorem dX6_block_17 : decode cX6_block 17 = .ok (.sipush (-1001), 3) := by decide +kernel
theorem dX6_block_20 : decode cX6_block 20 = .ok (.ireturn, 1) := by decide +kernel
theorem dX6_block_21 : decode cX6_block 21 = .ok (.aload_n 0, 1) := by decide +kernel
theorem dX6_block_22 : decode cX6_block 22 = .ok (.invokevirtual 105, 3) := by decide +kernel
theorem dX6_block_25 : decode cX6_block 25 = .ok (.iload_n 2, 1) := by decide +kernel
theorem dX6_block_26 : decode cX6_block 26 = .ok (.tableswitch 57 0 3 #[30, 37, 44, 51], 30) := by decide +kernel
theorem dX6_block_56 : decode cX6_block 56 = .ok (.aload_n 0, 1) := by decide +kernel
theorem dX6_block_57 : decode cX6_block 57 = .ok (.getfield 36, 3) := by decide +kernel
theorem dX6_block_60 : decode cX6_block 60 = .ok (.iload_n 1, 1) := by decide +kernel
theorem dX6_block_61 : decode cX6_block 61 = .ok (.iaload, 1) := by decide +kernel
theorem dX6_block_62 : decode cX6_block 62 = .ok (.ireturn, 1) := by decide +kernel
theorem dX6_block_63 : decode cX6_block 63 = .ok (.aload_n 0, 1) := by decide +kernel
theorem dX6_block_64 : decode cX6_block 64 = .ok (.getfield 39, 3) := by decide +kernel
theorem dX6_block_67 : decode cX6_block 67 = .ok (.iload_n 1, 1) := by decide +kernel
theorem dX6_block_68 : decode cX6_block 68 = .ok (.iaload, 1) := by decide +kernel
theorem dX6_block_69 : decode cX6_block 69 = .ok (.ireturn, 1) := by decide +kernel
theorem dX6_block_70 : decode cX6_block 70 = .ok (.aload_n 0, 1) := by decide +kernel
theorem dX6_block_71 : decode cX6_block 71 = .ok (.getfield 42, 3) := by decide +kernel
theorem dX6_block_74 : decode cX6_block 74 = .ok (.iload_n 1, 1) := by decide +kernel
theorem dX6_block_75 : decode cX6_block 75 = .ok (.iaload, 1) := by decide +kernel
theorem dX6_block_76 : decode cX6_block 76 = .ok (.ireturn, 1) := by decide +kernel
theorem dX6_block_77 : decode cX6_block 77 = .ok (.aload_n 0, 1) := by decide +kernel
theorem dX6_block_78 : decode cX6_block 78 = .ok (.iload_n 1, 1) := by decide +kernel
theorem dX6_block_79 : decode cX6_block 79 = .ok (.invokevirtual 108, 3) := by decide +kernel
theorem dX6_block_82 : decode cX6_block 82 = .ok (.ireturn, 1) := by decide +kernel
theorem dX6_block_83 : decode cX6_block 83 = .ok (.aload_n 0, 1) := by decide +kernel
theorem dX6_block_84 : decode cX6_block 84 = .ok (.getfield 36, 3) := by decide +kernel
theorem dX6_block_87 : decode cX6_block 87 = .ok (.iload_n 1, 1) := by decide +kernel
theorem dX6_block_88 : decode cX6_block 88 = .ok (.iaload, 1) := by decide +kernel
theorem dX6_block_89 : decode cX6_block 89 = .ok (.aload_n 0, 1) := by decide +kernel
theorem dX6_block_90 : decode cX6_block 90 = .ok (.getfield 23, 3) := by decide +kernel
theorem dX6_block_93 : decode cX6_block 93 = .ok (.bipush 12, 2) := by decide +kernel
theorem dX6_block_95 : decode cX6_block 95 = .ok (.aload_n 0, 1) := by decide +kernel
theorem dX6_block_96 : decode cX6_block 96 = .ok (.getfield 7, 3) := by decide +kernel
theorem dX6_block_99 : decode cX6_block 99 = .ok (.bipush 8, 2) := by decide +kernel
theorem dX6_block_101 : decode cX6_block 101 = .ok (.iaload, 1) := by decide +kernel
theorem dX6_block_102 : decode cX6_block 102 = .ok (.imul, 1) := by decide +kernel
theorem dX6_block_103 : decode cX6_block 103 = .ok (.iload_n 1, 1) := by decide +kernel
theorem dX6_block_104 : decode cX6_block 104 = .ok (.iadd, 1) := by decide +kernel
theorem dX6_block_105 : decode cX6_block 105 = .ok (.baload, 1) := by decide +kernel
theorem dX6_block_106 : decode cX6_block 106 = .ok (.if_icmp .ne 7, 3) := by decide +kernel
theorem dX6_block_109 : decode cX6_block 109 = .ok (.iconst 1, 1) := by decide +kernel
theorem dX6_block_110 : decode cX6_block 110 = .ok (.goto 4, 3) := by decide +kernel
theorem dX6_block_113 : decode cX6_block 113 = .ok (.iconst 0, 1) := by decide +kernel
theorem dX6_block_114 : decode cX6_block 114 = .ok (.ireturn, 1) := by decide +kernel
set_option maxRecDepth 20000 in
theorem ggX6_blockAt_X6_isBlock : GoodIn wsX6_blockAt wsX6_isBlock := goodIn_r _ [6, 7, 8, 9, 5, 10, 25, 26, 27, 28, 29, 30, 31, 32, 33, 34, 35, 36, 37, 38, 39, 40, 41] (by decide +kernel) (by decide +kernel)
set_option maxRecDepth 20000 in
theorem gX6_blockAt_X6_isBlock : GoodIn wsX6_blockAt (wsV RX6 99 RX6 yX6_isBlock wsX6_isBlock) := goodIn_app (goodIn_of _ (by decide +kernel)) ggX6_blockAt_X6_isBlock
set_option maxRecDepth 20000 in
theorem ggX6_blockAt_X6_judges : GoodIn wsX6_blockAt wsX6_judges := goodIn_r _ [14, 7, 15, 16, 17, 18, 19, 20, 1, 21, 22, 23, 5, 24, 25, 26, 27, 28, 29, 30, 31, 32, 33, 34, 35, 36, 37, 38, 39, 40, 41] (by decide +kernel) (by decide +kernel)
set_option maxRecDepth 20000 in
theorem gX6_blockAt_X6_judges : GoodIn wsX6_blockAt (wsV RX6 105 RX6 yX6_judges wsX6_judges) := goodIn_app (goodIn_of _ (by decide +kernel)) ggX6_blockAt_X6_judges
theorem dX6_blockAt_0 : decode cX6_blockAt 0 = .ok (.aload_n 0, 1) := by decide +kernel
theorem dX6_blockAt_1 : decode cX6_blockAt 1 = .ok (.iload_n 1, 1) := by decide +kernel
theorem dX6_blockAt_2 : decode cX6_blockAt 2 = .ok (.invokevirtual 99, 3) := by decide +kernel
theorem dX6_blockAt_5 : decode cX6_blockAt 5 = .ok (.ifCond .ne 7, 3) := by decide +kernel
theorem dX6_blockAt_8 : decode cX6_blockAt 8 = .ok (.sipush (-1001), 3) := by decide +kernel
theorem dX6_blockAt_11 : decode cX6_blockAt 11 = .ok (.ireturn, 1) := by decide +kernel
theorem dX6_blockAt_12 : decode cX6_blockAt 12 = .ok (.aload_n 0, 1) := by decide +kernel
theorem dX6_blockAt_13 : decode cX6_blockAt 13 = .ok (.invokevirtual 105, 3) := by decide +kernel
theorem dX6_blockAt_16 : decode cX6_blockAt 16 = .ok (.aload_n 0, 1) := by decide +kernel
theorem dX6_blockAt_17 : decode cX6_blockAt 17 = .ok (.getfield 45, 3) := by decide +kernel
theorem dX6_blockAt_20 : decode cX6_blockAt 20 = .ok (.iload_n 1, 1) := by decide +kernel
theorem dX6_blockAt_21 : decode cX6_blockAt 21 = .ok (.iaload, 1) := by decide +kernel
theorem dX6_blockAt_22 : decode cX6_blockAt 22 = .ok (.ireturn, 1) := by decide +kernel
set_option maxRecDepth 20000 in
theorem ggX6_strength_X6_isBlock : GoodIn wsX6_strength wsX6_isBlock := goodIn_r _ [7, 1, 8, 9, 6, 10, 18, 19, 20, 21, 22, 23, 24, 25, 26, 27, 28, 29, 30, 31, 32, 33, 34] (by decide +kernel) (by decide +kernel)
set_option maxRecDepth 20000 in
theorem gX6_strength_X6_isBlock : GoodIn wsX6_strength (wsV RX6 99 RX6 yX6_isBlock wsX6_isBlock) := goodIn_app (goodIn_of _ (by decide +kernel)) ggX6_strength_X6_isBlock
set_option maxRecDepth 20000 in
theorem ggX6_strength_X6_isLost : GoodIn wsX6_strength wsX6_isLost := goodIn_r _ [14, 1, 18, 19, 20, 21, 22, 23, 24, 25, 26, 27, 28, 29, 30, 31, 32, 33, 34] (by decide +kernel) (by decide +kernel)
set_option maxRecDepth 20000 in
theorem gX6_strength_X6_isLost : GoodIn wsX6_strength (wsV RX6 87 RX6 yX6_isLost wsX6_isLost) := goodIn_app (goodIn_of _ (by decide +kernel)) ggX6_strength_X6_isLost
set_option maxRecDepth 20000 in
theorem ggX6_strength_X6_ones : GoodIn wsX6_strength wsX6_ones := goodIn_r _ [17] (by decide +kernel) (by decide +kernel)
set_option maxRecDepth 20000 in
theorem gX6_strength_X6_ones : GoodIn wsX6_strength (va_wsS RX6 59 yX6_ones wsX6_ones) := goodIn_app (goodIn_of _ (by decide +kernel)) ggX6_strength_X6_ones
theorem dX6_strength_0 : decode cX6_strength 0 = .ok (.aload_n 0, 1) := by decide +kernel
theorem dX6_strength_1 : decode cX6_strength 1 = .ok (.iload_n 1, 1) := by decide +kernel
theorem dX6_strength_2 : decode cX6_strength 2 = .ok (.invokevirtual 99, 3) := by decide +kernel
theorem dX6_strength_5 : decode cX6_strength 5 = .ok (.ifCond .ne 7, 3) := by decide +kernel
theorem dX6_strength_8 : decode cX6_strength 8 = .ok (.sipush (-1001), 3) := by decide +kernel
theorem dX6_strength_11 : decode cX6_strength 11 = .ok (.ireturn, 1) := by decide +kernel
theorem dX6_strength_12 : decode cX6_strength 12 = .ok (.aload_n 0, 1) := by decide +kernel
theorem dX6_strength_13 : decode cX6_strength 13 = .ok (.iload_n 1, 1) := by decide +kernel
theorem dX6_strength_14 : decode cX6_strength 14 = .ok (.invokevirtual 87, 3) := by decide +kernel
theorem dX6_strength_17 : decode cX6_strength 17 = .ok (.ifCond .eq 7, 3) := by decide +kernel
theorem dX6_strength_20 : decode cX6_strength 20 = .ok (.sipush (-1002), 3) := by decide +kernel
theorem dX6_strength_23 : decode cX6_strength 23 = .ok (.ireturn, 1) := by decide +kernel
theorem dX6_strength_24 : decode cX6_strength 24 = .ok (.bipush 99, 2) := by decide +kernel
theorem dX6_strength_26 : decode cX6_strength 26 = .ok (.istore_n 2, 1) := by decide +kernel
theorem dX6_strength_27 : decode cX6_strength 27 = .ok (.iconst 0, 1) := by decide +kernel
theorem dX6_strength_28 : decode cX6_strength 28 = .ok (.istore_n 3, 1) := by decide +kernel
theorem dX6_strength_29 : decode cX6_strength 29 = .ok (.iload_n 3, 1) := by decide +kernel
theorem dX6_strength_30 : decode cX6_strength 30 = .ok (.iconst 1, 1) := by decide +kernel
theorem dX6_strength_31 : decode cX6_strength 31 = .ok (.aload_n 0, 1) := by decide +kernel
theorem dX6_strength_32 : decode cX6_strength 32 = .ok (.getfield 7, 3) := by decide +kernel
theorem dX6_strength_35 : decode cX6_strength 35 = .ok (.iconst 2, 1) := by decide +kernel
theorem dX6_strength_36 : decode cX6_strength 36 = .ok (.iaload, 1) := by decide +kernel
theorem dX6_strength_37 : decode cX6_strength 37 = .ok (.ishl, 1) := by decide +kernel
theorem dX6_strength_38 : decode cX6_strength 38 = .ok (.if_icmp .ge 61, 3) := by decide +kernel
theorem dX6_strength_41 : decode cX6_strength 41 = .ok (.iload_n 3, 1) := by decide +kernel
theorem dX6_strength_42 : decode cX6_strength 42 = .ok (.aload_n 0, 1) := by decide +kernel
theorem dX6_strength_43 : decode cX6_strength 43 = .ok (.getfield 7, 3) := by decide +kernel
theorem dX6_strength_46 : decode cX6_strength 46 = .ok (.bipush 9, 2) := by decide +kernel
theorem dX6_strength_48 : decode cX6_strength 48 = .ok (.iload_n 1, 1) := by decide +kernel
theorem dX6_strength_49 : decode cX6_strength 49 = .ok (.iadd, 1) := by decide +kernel
theorem dX6_strength_50 : decode cX6_strength 50 = .ok (.iaload, 1) := by decide +kernel
theorem dX6_strength_51 : decode cX6_strength 51 = .ok (.ixor, 1) := by decide +kernel
theorem dX6_strength_52 : decode cX6_strength 52 = .ok (.invokestatic 59, 3) := by decide +kernel
theorem dX6_strength_55 : decode cX6_strength 55 = .ok (.istore 4, 2) := by decide +kernel
theorem dX6_strength_57 : decode cX6_strength 57 = .ok (.aload_n 0, 1) := by decide +kernel
theorem dX6_strength_58 : decode cX6_strength 58 = .ok (.getfield 30, 3) := by decide +kernel
theorem dX6_strength_61 : decode cX6_strength 61 = .ok (.iload_n 3, 1) := by decide +kernel
theorem dX6_strength_62 : decode cX6_strength 62 = .ok (.iaload, 1) := by decide +kernel
theorem dX6_strength_63 : decode cX6_strength 63 = .ok (.aload_n 0, 1) := by decide +kernel
theorem dX6_strength_64 : decode cX6_strength 64 = .ok (.getfield 30, 3) := by decide +kernel
theorem dX6_strength_67 : decode cX6_strength 67 = .ok (.aload_n 0, 1) := by decide +kernel
theorem dX6_strength_68 : decode cX6_strength 68 = .ok (.getfield 7, 3) := by decide +kernel
theorem dX6_strength_71 : decode cX6_strength 71 = .ok (.bipush 9, 2) := by decide +kernel
theorem dX6_strength_73 : decode cX6_strength 73 = .ok (.iload_n 1, 1) := by decide +kernel
theorem dX6_strength_74 : decode cX6_strength 74 = .ok (.iadd, 1) := by decide +kernel
theorem dX6_strength_75 : decode cX6_strength 75 = .ok (.iaload, 1) := by decide +kernel
theorem dX6_strength_76 : decode cX6_strength 76 = .ok (.iaload, 1) := by decide +kernel
theorem dX6_strength_77 : decode cX6_strength 77 = .ok (.if_icmp .eq 14, 3) := by decide +kernel
theorem dX6_strength_80 : decode cX6_strength 80 = .ok (.iload 4, 2) := by decide +kernel
theorem dX6_strength_82 : decode cX6_strength 82 = .ok (.iload_n 2, 1) := by decide +kernel
theorem dX6_strength_83 : decode cX6_strength 83 = .ok (.if_icmp .ge 8, 3) := by decide +kernel
theorem dX6_strength_86 : decode cX6_strength 86 = .ok (.iload 4, 2) := by decide +kernel
theorem dX6_strength_88 : decode cX6_strength 88 = .ok (.goto 4, 3) := by decide +kernel
theorem dX6_strength_91 : decode cX6_strength 91 = .ok (.iload_n 2, 1) := by decide +kernel
theorem dX6_strength_92 : decode cX6_strength 92 = .ok (.istore_n 2, 1) := by decide +kernel
theorem dX6_strength_93 : decode cX6_strength 93 = .ok (.iinc 3 1, 3) := by decide +kernel
theorem dX6_strength_96 : decode cX6_strength 96 = .ok (.goto (-67), 3) := by decide +kernel
theorem dX6_strength_99 : decode cX6_strength 99 = .ok (.iload_n 2, 1) := by decide +kernel
theorem dX6_strength_100 : decode cX6_strength 100 = .ok (.ireturn, 1) := by decide +kernel
theorem dX6_scoreOf_0 : decode cX6_scoreOf 0 = .ok (.iconst 0, 1) := by decide +kernel
theorem dX6_scoreOf_1 : decode cX6_scoreOf 1 = .ok (.istore_n 2, 1) := by decide +kernel
theorem dX6_scoreOf_2 : decode cX6_scoreOf 2 = .ok (.iconst 0, 1) := by decide +kernel
theorem dX6_scoreOf_3 : decode cX6_scoreOf 3 = .ok (.istore_n 3, 1) := by decide +kernel
theorem dX6_scoreOf_4 : decode cX6_scoreOf 4 = .ok (.iload_n 3, 1) := by decide +kernel
theorem dX6_scoreOf_5 : decode cX6_scoreOf 5 = .ok (.aload_n 0, 1) := by decide +kernel
theorem dX6_scoreOf_6 : decode cX6_scoreOf 6 = .ok (.getfield 7, 3) := by decide +kernel
theorem dX6_scoreOf_9 : decode cX6_scoreOf 9 = .ok (.iconst 0, 1) := by decide +kernel
theorem dX6_scoreOf_10 : decode cX6_scoreOf 10 = .ok (.iaload, 1) := by decide +kernel
theorem dX6_scoreOf_11 : decode cX6_scoreOf 11 = .ok (.if_icmp .ge 48, 3) := by decide +kernel
theorem dX6_scoreOf_14 : decode cX6_scoreOf 14 = .ok (.iload_n 2, 1) := by decide +kernel
theorem dX6_scoreOf_15 : decode cX6_scoreOf 15 = .ok (.aload_n 0, 1) := by decide +kernel
theorem dX6_scoreOf_16 : decode cX6_scoreOf 16 = .ok (.getfield 36, 3) := by decide +kernel
theorem dX6_scoreOf_19 : decode cX6_scoreOf 19 = .ok (.iload_n 3, 1) := by decide +kernel
theorem dX6_scoreOf_20 : decode cX6_scoreOf 20 = .ok (.iaload, 1) := by decide +kernel
theorem dX6_scoreOf_21 : decode cX6_scoreOf 21 = .ok (.aload_n 0, 1) := by decide +kernel
theorem dX6_scoreOf_22 : decode cX6_scoreOf 22 = .ok (.getfield 23, 3) := by decide +kernel
theorem dX6_scoreOf_25 : decode cX6_scoreOf 25 = .ok (.bipush 12, 2) := by decide +kernel
theorem dX6_scoreOf_27 : decode cX6_scoreOf 27 = .ok (.iload_n 1, 1) := by decide +kernel
theorem dX6_scoreOf_28 : decode cX6_scoreOf 28 = .ok (.imul, 1) := by decide +kernel
theorem dX6_scoreOf_29 : decode cX6_scoreOf 29 = .ok (.iload_n 3, 1) := by decide +kernel
theorem dX6_scoreOf_30 : decode cX6_scoreOf 30 = .ok (.iadd, 1) := by decide +kernel
theorem dX6_scoreOf_31 : decode cX6_scoreOf 31 = .ok (.baload, 1) := by decide +kernel
theorem dX6_scoreOf_32 : decode cX6_scoreOf 32 = .ok (.if_icmp .ne 12, 3) := by decide +kernel
theorem dX6_scoreOf_35 : decode cX6_scoreOf 35 = .ok (.aload_n 0, 1) := by decide +kernel
theorem dX6_scoreOf_36 : decode cX6_scoreOf 36 = .ok (.getfield 42, 3) := by decide +kernel
theorem dX6_scoreOf_39 : decode cX6_scoreOf 39 = .ok (.iload_n 3, 1) := by decide +kernel
theorem dX6_scoreOf_40 : decode cX6_scoreOf 40 = .ok (.iaload, 1) := by decide +kernel
theorem dX6_scoreOf_41 : decode cX6_scoreOf 41 = .ok (.goto 10, 3) := by decide +kernel
theorem dX6_scoreOf_44 : decode cX6_scoreOf 44 = .ok (.aload_n 0, 1) := by decide +kernel
theorem dX6_scoreOf_45 : decode cX6_scoreOf 45 = .ok (.getfield 42, 3) := by decide +kernel
theorem dX6_scoreOf_48 : decode cX6_scoreOf 48 = .ok (.iload_n 3, 1) := by decide +kernel
theorem dX6_scoreOf_49 : decode cX6_scoreOf 49 = .ok (.iaload, 1) := by decide +kernel
theorem dX6_scoreOf_50 : decode cX6_scoreOf 50 = .ok (.ineg, 1) := by decide +kernel
theorem dX6_scoreOf_51 : decode cX6_scoreOf 51 = .ok (.iadd, 1) := by decide +kernel
theorem dX6_scoreOf_52 : decode cX6_scoreOf 52 = .ok (.istore_n 2, 1) := by decide +kernel
theorem dX6_scoreOf_53 : decode cX6_scoreOf 53 = .ok (.iinc 3 1, 3) := by decide +kernel
theorem dX6_scoreOf_56 : decode cX6_scoreOf 56 = .ok (.goto (-52), 3) := by decide +kernel
theorem dX6_scoreOf_59 : decode cX6_scoreOf 59 = .ok (.iload_n 2, 1) := by decide +kernel
theorem dX6_scoreOf_60 : decode cX6_scoreOf 60 = .ok (.ireturn, 1) := by decide +kernel
set_option maxRecDepth 20000 in
theorem ggX6_bar_X6_distance : GoodIn wsX6_bar wsX6_distance := goodIn_r _ [7, 2, 8, 9, 10, 11, 12, 13, 14, 15, 16, 17, 18, 19, 20, 21, 22, 23, 24] (by decide +kernel) (by decide +kernel)
set_option maxRecDepth 20000 in
theorem gX6_bar_X6_distance : GoodIn wsX6_bar (wsV RX6 90 RX6 yX6_distance wsX6_distance) := goodIn_app (goodIn_of _ (by decide +kernel)) ggX6_bar_X6_distance
theorem dX6_bar_0 : decode cX6_bar 0 = .ok (.aload_n 0, 1) := by decide +kernel
theorem dX6_bar_1 : decode cX6_bar 1 = .ok (.getfield 55, 3) := by decide +kernel
theorem dX6_bar_4 : decode cX6_bar 4 = .ok (.aload_n 0, 1) := by decide +kernel
theorem dX6_bar_5 : decode cX6_bar 5 = .ok (.getfield 7, 3) := by decide +kernel
theorem dX6_bar_8 : decode cX6_bar 8 = .ok (.iconst 0, 1) := by decide +kernel
theorem dX6_bar_9 : decode cX6_bar 9 = .ok (.iaload, 1) := by decide +kernel
theorem dX6_bar_10 : decode cX6_bar 10 = .ok (.aload_n 0, 1) := by decide +kernel
theorem dX6_bar_11 : decode cX6_bar 11 = .ok (.invokevirtual 90, 3) := by decide +kernel
theorem dX6_bar_14 : decode cX6_bar 14 = .ok (.isub, 1) := by decide +kernel
theorem dX6_bar_15 : decode cX6_bar 15 = .ok (.imul, 1) := by decide +kernel
theorem dX6_bar_16 : decode cX6_bar 16 = .ok (.ireturn, 1) := by decide +kernel
set_option maxRecDepth 20000 in
theorem ggX6_isResult_X6_distance : GoodIn wsX6_isResult wsX6_distance := goodIn_r _ [9, 1, 10, 11, 12, 13, 14, 15, 16, 17, 18, 19, 20, 21, 22, 23, 24, 25, 26] (by decide +kernel) (by decide +kernel)
set_option maxRecDepth 20000 in
theorem gX6_isResult_X6_distance : GoodIn wsX6_isResult (wsV RX6 90 RX6 yX6_distance wsX6_distance) := goodIn_app (goodIn_of _ (by decide +kernel)) ggX6_isResult_X6_distance
theorem dX6_isResult_0 : decode cX6_isResult 0 = .ok (.iconst 0, 1) := by decide +kernel
theorem dX6_isResult_1 : decode cX6_isResult 1 = .ok (.istore_n 3, 1) := by decide +kernel
theorem dX6_isResult_2 : decode cX6_isResult 2 = .ok (.iload_n 2, 1) := by decide +kernel
theorem dX6_isResult_3 : decode cX6_isResult 3 = .ok (.istore 4, 2) := by decide +kernel
theorem dX6_isResult_5 : decode cX6_isResult 5 = .ok (.iload 4, 2) := by decide +kernel
theorem dX6_isResult_7 : decode cX6_isResult 7 = .ok (.aload_n 0, 1) := by decide +kernel
theorem dX6_isResult_8 : decode cX6_isResult 8 = .ok (.getfield 7, 3) := by decide +kernel
theorem dX6_isResult_11 : decode cX6_isResult 11 = .ok (.iconst 0, 1) := by decide +kernel
theorem dX6_isResult_12 : decode cX6_isResult 12 = .ok (.iaload, 1) := by decide +kernel
theorem dX6_isResult_13 : decode cX6_isResult 13 = .ok (.if_icmp .ge 49, 3) := by decide +kernel
theorem dX6_isResult_16 : decode cX6_isResult 16 = .ok (.iload_n 3, 1) := by decide +kernel
theorem dX6_isResult_17 : decode cX6_isResult 17 = .ok (.aload_n 0, 1) := by decide +kernel
theorem dX6_isResult_18 : decode cX6_isResult 18 = .ok (.getfield 36, 3) := by decide +kernel
theorem dX6_isResult_21 : decode cX6_isResult 21 = .ok (.aload_n 0, 1) := by decide +kernel
theorem dX6_isResult_22 : decode cX6_isResult 22 = .ok (.getfield 45, 3) := by decide +kernel
theorem dX6_isResult_25 : decode cX6_isResult 25 = .ok (.iload 4, 2) := by decide +kernel
theorem dX6_isResult_27 : decode cX6_isResult 27 = .ok (.iaload, 1) := by decide +kernel
theorem dX6_isResult_28 : decode cX6_isResult 28 = .ok (.iaload, 1) := by decide +kernel
theorem dX6_isResult_29 : decode cX6_isResult 29 = .ok (.aload_n 0, 1) := by decide +kernel
theorem dX6_isResult_30 : decode cX6_isResult 30 = .ok (.getfield 23, 3) := by decide +kernel
theorem dX6_isResult_33 : decode cX6_isResult 33 = .ok (.bipush 12, 2) := by decide +kernel
theorem dX6_isResult_35 : decode cX6_isResult 35 = .ok (.iload_n 1, 1) := by decide +kernel
theorem dX6_isResult_36 : decode cX6_isResult 36 = .ok (.imul, 1) := by decide +kernel
theorem dX6_isResult_37 : decode cX6_isResult 37 = .ok (.aload_n 0, 1) := by decide +kernel
theorem dX6_isResult_38 : decode cX6_isResult 38 = .ok (.getfield 45, 3) := by decide +kernel
theorem dX6_isResult_41 : decode cX6_isResult 41 = .ok (.iload 4, 2) := by decide +kernel
theorem dX6_isResult_43 : decode cX6_isResult 43 = .ok (.iaload, 1) := by decide +kernel
theorem dX6_isResult_44 : decode cX6_isResult 44 = .ok (.iadd, 1) := by decide +kernel
theorem dX6_isResult_45 : decode cX6_isResult 45 = .ok (.baload, 1) := by decide +kernel
theorem dX6_isResult_46 : decode cX6_isResult 46 = .ok (.if_icmp .ne 7, 3) := by decide +kernel
theorem dX6_isResult_49 : decode cX6_isResult 49 = .ok (.iconst 0, 1) := by decide +kernel
theorem dX6_isResult_50 : decode cX6_isResult 50 = .ok (.goto 4, 3) := by decide +kernel
theorem dX6_isResult_53 : decode cX6_isResult 53 = .ok (.iconst 1, 1) := by decide +kernel
theorem dX6_isResult_54 : decode cX6_isResult 54 = .ok (.iadd, 1) := by decide +kernel
theorem dX6_isResult_55 : decode cX6_isResult 55 = .ok (.istore_n 3, 1) := by decide +kernel
theorem dX6_isResult_56 : decode cX6_isResult 56 = .ok (.iinc 4 1, 3) := by decide +kernel
theorem dX6_isResult_59 : decode cX6_isResult 59 = .ok (.goto (-54), 3) := by decide +kernel
theorem dX6_isResult_62 : decode cX6_isResult 62 = .ok (.iconst 2, 1) := by decide +kernel
theorem dX6_isResult_63 : decode cX6_isResult 63 = .ok (.iload_n 3, 1) := by decide +kernel
theorem dX6_isResult_64 : decode cX6_isResult 64 = .ok (.imul, 1) := by decide +kernel
theorem dX6_isResult_65 : decode cX6_isResult 65 = .ok (.iload_n 2, 1) := by decide +kernel
theorem dX6_isResult_66 : decode cX6_isResult 66 = .ok (.iadd, 1) := by decide +kernel
theorem dX6_isResult_67 : decode cX6_isResult 67 = .ok (.aload_n 0, 1) := by decide +kernel
theorem dX6_isResult_68 : decode cX6_isResult 68 = .ok (.invokevirtual 90, 3) := by decide +kernel
theorem dX6_isResult_71 : decode cX6_isResult 71 = .ok (.if_icmp .ge 7, 3) := by decide +kernel
theorem dX6_isResult_74 : decode cX6_isResult 74 = .ok (.iconst 1, 1) := by decide +kernel
theorem dX6_isResult_75 : decode cX6_isResult 75 = .ok (.goto 4, 3) := by decide +kernel
theorem dX6_isResult_78 : decode cX6_isResult 78 = .ok (.iconst 0, 1) := by decide +kernel
theorem dX6_isResult_79 : decode cX6_isResult 79 = .ok (.ireturn, 1) := by decide +kernel
set_option maxRecDepth 20000 in
theorem ggX6_trialOf_X6_distance : GoodIn wsX6_trialOf wsX6_distance := goodIn_r _ [5, 6, 14, 15, 16, 17, 18, 19, 20, 21, 22, 23, 24, 25, 26, 27, 28, 29, 30] (by decide +kernel) (by decide +kernel)
set_option maxRecDepth 20000 in
theorem gX6_trialOf_X6_distance : GoodIn wsX6_trialOf (wsV RX6 90 RX6 yX6_distance wsX6_distance) := goodIn_app (goodIn_of _ (by decide +kernel)) ggX6_trialOf_X6_distance
set_option maxRecDepth 20000 in
theorem ggX6_trialOf_X6_isResult : GoodIn wsX6_trialOf wsX6_isResult := goodIn_r _ [10, 6, 11, 12, 13, 1, 2, 3, 4, 5, 14, 15, 16, 17, 18, 19, 20, 21, 22, 23, 24, 25, 26, 27, 28, 29, 30] (by decide +kernel) (by decide +kernel)
set_option maxRecDepth 20000 in
theorem gX6_trialOf_X6_isResult : GoodIn wsX6_trialOf (wsV RX6 111 RX6 yX6_isResult wsX6_isResult) := goodIn_app (goodIn_of _ (by decide +kernel)) ggX6_trialOf_X6_isResult
theorem dX6_trialOf_0 : decode cX6_trialOf 0 = .ok (.iconst 0, 1) := by decide +kernel
theorem dX6_trialOf_1 : decode cX6_trialOf 1 = .ok (.istore_n 2, 1) := by decide +kernel
theorem dX6_trialOf_2 : decode cX6_trialOf 2 = .ok (.iload_n 2, 1) := by decide +kernel
theorem dX6_trialOf_3 : decode cX6_trialOf 3 = .ok (.aload_n 0, 1) := by decide +kernel
theorem dX6_trialOf_4 : decode cX6_trialOf 4 = .ok (.invokevirtual 90, 3) := by decide +kernel
theorem dX6_trialOf_7 : decode cX6_trialOf 7 = .ok (.if_icmp .ge 20, 3) := by decide +kernel
theorem dX6_trialOf_10 : decode cX6_trialOf 10 = .ok (.aload_n 0, 1) := by decide +kernel
theorem dX6_trialOf_11 : decode cX6_trialOf 11 = .ok (.iload_n 1, 1) := by decide +kernel
theorem dX6_trialOf_12 : decode cX6_trialOf 12 = .ok (.iload_n 2, 1) := by decide +kernel
theorem dX6_trialOf_13 : decode cX6_trialOf 13 = .ok (.invokevirtual 111, 3) := by decide +kernel
theorem dX6_trialOf_16 : decode cX6_trialOf 16 = .ok (.ifCond .eq 5, 3) := by decide +kernel
theorem dX6_trialOf_19 : decode cX6_trialOf 19 = .ok (.iload_n 2, 1) := by decide +kernel
theorem dX6_trialOf_20 : decode cX6_trialOf 20 = .ok (.ireturn, 1) := by decide +kernel
theorem dX6_trialOf_21 : decode cX6_trialOf 21 = .ok (.iinc 2 1, 3) := by decide +kernel
theorem dX6_trialOf_24 : decode cX6_trialOf 24 = .ok (.goto (-22), 3) := by decide +kernel
theorem dX6_trialOf_27 : decode cX6_trialOf 27 = .ok (.iconst (-1), 1) := by decide +kernel
theorem dX6_trialOf_28 : decode cX6_trialOf 28 = .ok (.ireturn, 1) := by decide +kernel
set_option maxRecDepth 20000 in
theorem ggX6_decodes_X6_judges : GoodIn wsX6_decodes wsX6_judges := goodIn_r _ [7, 8, 9, 10, 11, 12, 13, 14, 15, 16, 17, 18, 6, 19, 45, 46, 47, 48, 49, 50, 51, 52, 53, 54, 55, 56, 57, 58, 59, 60, 61] (by decide +kernel) (by decide +kernel)
set_option maxRecDepth 20000 in
theorem gX6_decodes_X6_judges : GoodIn wsX6_decodes (wsV RX6 105 RX6 yX6_judges wsX6_judges) := goodIn_app (goodIn_of _ (by decide +kernel)) ggX6_decodes_X6_judges
set_option maxRecDepth 20000 in
theorem ggX6_decodes_X6_messages : GoodIn wsX6_decodes wsX6_messages := goodIn_r _ [23, 8, 45, 46, 47, 48, 49, 50, 51, 52, 53, 54, 55, 56, 57, 58, 59, 60, 61] (by decide +kernel) (by decide +kernel)
set_option maxRecDepth 20000 in
theorem gX6_decodes_X6_messages : GoodIn wsX6_decodes (wsV RX6 67 RX6 yX6_messages wsX6_messages) := goodIn_app (goodIn_of _ (by decide +kernel)) ggX6_decodes_X6_messages
set_option maxRecDepth 20000 in
theorem ggX6_decodes_X6_scoreOf : GoodIn wsX6_decodes wsX6_scoreOf := goodIn_r _ [27, 8, 9, 28, 13, 45, 46, 47, 48, 49, 50, 51, 52, 53, 54, 55, 56, 57, 58, 59, 60, 61] (by decide +kernel) (by decide +kernel)
set_option maxRecDepth 20000 in
theorem gX6_decodes_X6_scoreOf : GoodIn wsX6_decodes (wsV RX6 121 RX6 yX6_scoreOf wsX6_scoreOf) := goodIn_app (goodIn_of _ (by decide +kernel)) ggX6_decodes_X6_scoreOf
set_option maxRecDepth 20000 in
theorem ggX6_decodes_X6_bar : GoodIn wsX6_decodes wsX6_bar := goodIn_r _ [32, 14, 8, 33, 34, 35, 6, 36, 45, 46, 47, 48, 49, 50, 51, 52, 53, 54, 55, 56, 57, 58, 59, 60, 61] (by decide +kernel) (by decide +kernel)
set_option maxRecDepth 20000 in
theorem gX6_decodes_X6_bar : GoodIn wsX6_decodes (wsV RX6 124 RX6 yX6_bar wsX6_bar) := goodIn_app (goodIn_of _ (by decide +kernel)) ggX6_decodes_X6_bar
set_option maxRecDepth 20000 in
theorem ggX6_decodes_X6_trialOf : GoodIn wsX6_decodes wsX6_trialOf := goodIn_r _ [40, 33, 34, 35, 6, 36, 8, 41, 42, 43, 44, 9, 15, 28, 45, 46, 47, 48, 49, 50, 51, 52, 53, 54, 55, 56, 57, 58, 59, 60, 61] (by decide +kernel) (by decide +kernel)
set_option maxRecDepth 20000 in
theorem gX6_decodes_X6_trialOf : GoodIn wsX6_decodes (wsV RX6 127 RX6 yX6_trialOf wsX6_trialOf) := goodIn_app (goodIn_of _ (by decide +kernel)) ggX6_decodes_X6_trialOf
theorem dX6_decodes_0 : decode cX6_decodes 0 = .ok (.aload_n 0, 1) := by decide +kernel
theorem dX6_decodes_1 : decode cX6_decodes 1 = .ok (.invokevirtual 105, 3) := by decide +kernel
theorem dX6_decodes_4 : decode cX6_decodes 4 = .ok (.aload_n 0, 1) := by decide +kernel
theorem dX6_decodes_5 : decode cX6_decodes 5 = .ok (.sipush (-1004), 3) := by decide +kernel
theorem dX6_decodes_8 : decode cX6_decodes 8 = .ok (.putfield 115, 3) := by decide +kernel
theorem dX6_decodes_11 : decode cX6_decodes 11 = .ok (.aload_n 0, 1) := by decide +kernel
theorem dX6_decodes_12 : decode cX6_decodes 12 = .ok (.sipush (-1004), 3) := by decide +kernel
theorem dX6_decodes_15 : decode cX6_decodes 15 = .ok (.putfield 118, 3) := by decide +kernel
theorem dX6_decodes_18 : decode cX6_decodes 18 = .ok (.iconst 0, 1) := by decide +kernel
theorem dX6_decodes_19 : decode cX6_decodes 19 = .ok (.istore_n 1, 1) := by decide +kernel
theorem dX6_decodes_20 : decode cX6_decodes 20 = .ok (.iload_n 1, 1) := by decide +kernel
theorem dX6_decodes_21 : decode cX6_decodes 21 = .ok (.aload_n 0, 1) := by decide +kernel
theorem dX6_decodes_22 : decode cX6_decodes 22 = .ok (.invokevirtual 67, 3) := by decide +kernel
theorem dX6_decodes_25 : decode cX6_decodes 25 = .ok (.if_icmp .ge 56, 3) := by decide +kernel
theorem dX6_decodes_28 : decode cX6_decodes 28 = .ok (.aload_n 0, 1) := by decide +kernel
theorem dX6_decodes_29 : decode cX6_decodes 29 = .ok (.iload_n 1, 1) := by decide +kernel
theorem dX6_decodes_30 : decode cX6_decodes 30 = .ok (.invokevirtual 121, 3) := by decide +kernel
theorem dX6_decodes_33 : decode cX6_decodes 33 = .ok (.aload_n 0, 1) := by decide +kernel
theorem dX6_decodes_34 : decode cX6_decodes 34 = .ok (.invokevirtual 124, 3) := by decide +kernel
theorem dX6_decodes_37 : decode cX6_decodes 37 = .ok (.if_icmp .le 38, 3) := by decide +kernel
theorem dX6_decodes_40 : decode cX6_decodes 40 = .ok (.aload_n 0, 1) := by decide +kernel
theorem dX6_decodes_41 : decode cX6_decodes 41 = .ok (.iload_n 1, 1) := by decide +kernel
theorem dX6_decodes_42 : decode cX6_decodes 42 = .ok (.invokevirtual 127, 3) := by decide +kernel
theorem dX6_decodes_45 : decode cX6_decodes 45 = .ok (.istore_n 2, 1) := by decide +kernel
theorem dX6_decodes_46 : decode cX6_decodes 46 = .ok (.iload_n 2, 1) := by decide +kernel
theorem dX6_decodes_47 : decode cX6_decodes 47 = .ok (.ifCond .lt 28, 3) := by decide +kernel
theorem dX6_decodes_50 : decode cX6_decodes 50 = .ok (.aload_n 0, 1) := by decide +kernel
theorem dX6_decodes_51 : decode cX6_decodes 51 = .ok (.getfield 118, 3) := by decide +kernel
theorem dX6_decodes_54 : decode cX6_decodes 54 = .ok (.ifCond .lt 11, 3) := by decide +kernel
theorem dX6_decodes_57 : decode cX6_decodes 57 = .ok (.iload_n 2, 1) := by decide +kernel
theorem dX6_decodes_58 : decode cX6_decodes 58 = .ok (.aload_n 0, 1) := by decide +kernel
theorem dX6_decodes_59 : decode cX6_decodes 59 = .ok (.getfield 118, 3) := by decide +kernel
theorem dX6_decodes_62 : decode cX6_decodes 62 = .ok (.if_icmp .ge 13, 3) := by decide +kernel
theorem dX6_decodes_65 : decode cX6_decodes 65 = .ok (.aload_n 0, 1) := by decide +kernel
theorem dX6_decodes_66 : decode cX6_decodes 66 = .ok (.iload_n 1, 1) := by decide +kernel
theorem dX6_decodes_67 : decode cX6_decodes 67 = .ok (.putfield 115, 3) := by decide +kernel
theorem dX6_decodes_70 : decode cX6_decodes 70 = .ok (.aload_n 0, 1) := by decide +kernel
theorem dX6_decodes_71 : decode cX6_decodes 71 = .ok (.iload_n 2, 1) := by decide +kernel
theorem dX6_decodes_72 : decode cX6_decodes 72 = .ok (.putfield 118, 3) := by decide +kernel
theorem dX6_decodes_75 : decode cX6_decodes 75 = .ok (.iinc 1 1, 3) := by decide +kernel
theorem dX6_decodes_78 : decode cX6_decodes 78 = .ok (.goto (-58), 3) := by decide +kernel
theorem dX6_decodes_81 : decode cX6_decodes 81 = .ok (.return_, 1) := by decide +kernel
set_option maxRecDepth 20000 in
theorem ggX6_trial_X6_distance : GoodIn wsX6_trial wsX6_distance := goodIn_r _ [5, 6, 34, 35, 36, 37, 38, 39, 40, 41, 42, 43, 44, 45, 46, 47, 48, 49, 50] (by decide +kernel) (by decide +kernel)
set_option maxRecDepth 20000 in
theorem gX6_trial_X6_distance : GoodIn wsX6_trial (wsV RX6 90 RX6 yX6_distance wsX6_distance) := goodIn_app (goodIn_of _ (by decide +kernel)) ggX6_trial_X6_distance
set_option maxRecDepth 20000 in
theorem ggX6_trial_X6_in : GoodIn wsX6_trial wsX6_in := goodIn_r _ [9] (by decide +kernel) (by decide +kernel)
set_option maxRecDepth 20000 in
theorem gX6_trial_X6_in : GoodIn wsX6_trial (va_wsS RX6 63 yX6_in wsX6_in) := goodIn_app (goodIn_of _ (by decide +kernel)) ggX6_trial_X6_in
set_option maxRecDepth 20000 in
theorem ggX6_trial_X6_judges : GoodIn wsX6_trial wsX6_judges := goodIn_r _ [13, 6, 14, 15, 16, 17, 18, 19, 20, 21, 22, 23, 4, 24, 34, 35, 36, 37, 38, 39, 40, 41, 42, 43, 44, 45, 46, 47, 48, 49, 50] (by decide +kernel) (by decide +kernel)
set_option maxRecDepth 20000 in
theorem gX6_trial_X6_judges : GoodIn wsX6_trial (wsV RX6 105 RX6 yX6_judges wsX6_judges) := goodIn_app (goodIn_of _ (by decide +kernel)) ggX6_trial_X6_judges
set_option maxRecDepth 20000 in
theorem ggX6_trial_X6_messages : GoodIn wsX6_trial wsX6_messages := goodIn_r _ [28, 6, 34, 35, 36, 37, 38, 39, 40, 41, 42, 43, 44, 45, 46, 47, 48, 49, 50] (by decide +kernel) (by decide +kernel)
set_option maxRecDepth 20000 in
theorem gX6_trial_X6_messages : GoodIn wsX6_trial (wsV RX6 67 RX6 yX6_messages wsX6_messages) := goodIn_app (goodIn_of _ (by decide +kernel)) ggX6_trial_X6_messages
set_option maxRecDepth 20000 in
theorem ggX6_trial_X6_isResult : GoodIn wsX6_trial wsX6_isResult := goodIn_r _ [32, 6, 14, 20, 33, 1, 2, 3, 4, 5, 34, 35, 36, 37, 38, 39, 40, 41, 42, 43, 44, 45, 46, 47, 48, 49, 50] (by decide +kernel) (by decide +kernel)
set_option maxRecDepth 20000 in
theorem gX6_trial_X6_isResult : GoodIn wsX6_trial (wsV RX6 111 RX6 yX6_isResult wsX6_isResult) := goodIn_app (goodIn_of _ (by decide +kernel)) ggX6_trial_X6_isResult
theorem dX6_trial_0 : decode cX6_trial 0 = .ok (.iload_n 1, 1) := by decide +kernel
theorem dX6_trial_1 : decode cX6_trial 1 = .ok (.iconst 0, 1) := by decide +kernel
theorem dX6_trial_2 : decode cX6_trial 2 = .ok (.aload_n 0, 1) := by decide +kernel
theorem dX6_trial_3 : decode cX6_trial 3 = .ok (.invokevirtual 90, 3) := by decide +kernel
theorem dX6_trial_6 : decode cX6_trial 6 = .ok (.iconst 1, 1) := by decide +kernel
theorem dX6_trial_7 : decode cX6_trial 7 = .ok (.isub, 1) := by decide +kernel
theorem dX6_trial_8 : decode cX6_trial 8 = .ok (.invokestatic 63, 3) := by decide +kernel
theorem dX6_trial_11 : decode cX6_trial 11 = .ok (.ifCond .ne 7, 3) := by decide +kernel
theorem dX6_trial_14 : decode cX6_trial 14 = .ok (.sipush (-1001), 3) := by decide +kernel
theorem dX6_trial_17 : decode cX6_trial 17 = .ok (.ireturn, 1) := by decide +kernel
theorem dX6_trial_18 : decode cX6_trial 18 = .ok (.aload_n 0, 1) := by decide +kernel
theorem dX6_trial_19 : decode cX6_trial 19 = .ok (.invokevirtual 105, 3) := by decide +kernel
theorem dX6_trial_22 : decode cX6_trial 22 = .ok (.iconst 0, 1) := by decide +kernel
theorem dX6_trial_23 : decode cX6_trial 23 = .ok (.istore_n 2, 1) := by decide +kernel
theorem dX6_trial_24 : decode cX6_trial 24 = .ok (.iload_n 2, 1) := by decide +kernel
theorem dX6_trial_25 : decode cX6_trial 25 = .ok (.aload_n 0, 1) := by decide +kernel
theorem dX6_trial_26 : decode cX6_trial 26 = .ok (.invokevirtual 67, 3) := by decide +kernel
theorem dX6_trial_29 : decode cX6_trial 29 = .ok (.if_icmp .ge 20, 3) := by decide +kernel
theorem dX6_trial_32 : decode cX6_trial 32 = .ok (.aload_n 0, 1) := by decide +kernel
theorem dX6_trial_33 : decode cX6_trial 33 = .ok (.iload_n 2, 1) := by decide +kernel
theorem dX6_trial_34 : decode cX6_trial 34 = .ok (.iload_n 1, 1) := by decide +kernel
theorem dX6_trial_35 : decode cX6_trial 35 = .ok (.invokevirtual 111, 3) := by decide +kernel
theorem dX6_trial_38 : decode cX6_trial 38 = .ok (.ifCond .eq 5, 3) := by decide +kernel
theorem dX6_trial_41 : decode cX6_trial 41 = .ok (.iload_n 2, 1) := by decide +kernel
theorem dX6_trial_42 : decode cX6_trial 42 = .ok (.ireturn, 1) := by decide +kernel
theorem dX6_trial_43 : decode cX6_trial 43 = .ok (.iinc 2 1, 3) := by decide +kernel
theorem dX6_trial_46 : decode cX6_trial 46 = .ok (.goto (-22), 3) := by decide +kernel
theorem dX6_trial_49 : decode cX6_trial 49 = .ok (.sipush (-1004), 3) := by decide +kernel
theorem dX6_trial_52 : decode cX6_trial 52 = .ok (.ireturn, 1) := by decide +kernel
set_option maxRecDepth 20000 in
theorem ggX6_score_X6_isMessage : GoodIn wsX6_score wsX6_isMessage := goodIn_r _ [5, 6, 7, 8, 4, 9, 10, 11, 12, 13, 34, 35, 36, 37, 38, 39, 40, 41, 42, 43, 44, 45, 46, 47, 48, 49, 50] (by decide +kernel) (by decide +kernel)
set_option maxRecDepth 20000 in
theorem gX6_score_X6_isMessage : GoodIn wsX6_score (wsV RX6 96 RX6 yX6_isMessage wsX6_isMessage) := goodIn_app (goodIn_of _ (by decide +kernel)) ggX6_score_X6_isMessage
set_option maxRecDepth 20000 in
theorem ggX6_score_X6_judges : GoodIn wsX6_score wsX6_judges := goodIn_r _ [17, 10, 18, 19, 20, 21, 22, 23, 24, 25, 26, 27, 4, 28, 34, 35, 36, 37, 38, 39, 40, 41, 42, 43, 44, 45, 46, 47, 48, 49, 50] (by decide +kernel) (by decide +kernel)
set_option maxRecDepth 20000 in
theorem gX6_score_X6_judges : GoodIn wsX6_score (wsV RX6 105 RX6 yX6_judges wsX6_judges) := goodIn_app (goodIn_of _ (by decide +kernel)) ggX6_score_X6_judges
set_option maxRecDepth 20000 in
theorem ggX6_score_X6_scoreOf : GoodIn wsX6_score wsX6_scoreOf := goodIn_r _ [32, 10, 18, 33, 22, 34, 35, 36, 37, 38, 39, 40, 41, 42, 43, 44, 45, 46, 47, 48, 49, 50] (by decide +kernel) (by decide +kernel)
set_option maxRecDepth 20000 in
theorem gX6_score_X6_scoreOf : GoodIn wsX6_score (wsV RX6 121 RX6 yX6_scoreOf wsX6_scoreOf) := goodIn_app (goodIn_of _ (by decide +kernel)) ggX6_score_X6_scoreOf
theorem dX6_score_0 : decode cX6_score 0 = .ok (.aload_n 0, 1) := by decide +kernel
theorem dX6_score_1 : decode cX6_score 1 = .ok (.iload_n 1, 1) := by decide +kernel
theorem dX6_score_2 : decode cX6_score 2 = .ok (.invokevirtual 96, 3) := by decide +kernel
theorem dX6_score_5 : decode cX6_score 5 = .ok (.ifCond .ne 7, 3) := by decide +kernel
theorem dX6_score_8 : decode cX6_score 8 = .ok (.sipush (-1001), 3) := by decide +kernel
theorem dX6_score_11 : decode cX6_score 11 = .ok (.ireturn, 1) := by decide +kernel
theorem dX6_score_12 : decode cX6_score 12 = .ok (.aload_n 0, 1) := by decide +kernel
theorem dX6_score_13 : decode cX6_score 13 = .ok (.invokevirtual 105, 3) := by decide +kernel
theorem dX6_score_16 : decode cX6_score 16 = .ok (.aload_n 0, 1) := by decide +kernel
theorem dX6_score_17 : decode cX6_score 17 = .ok (.iload_n 1, 1) := by decide +kernel
theorem dX6_score_18 : decode cX6_score 18 = .ok (.invokevirtual 121, 3) := by decide +kernel
theorem dX6_score_21 : decode cX6_score 21 = .ok (.ireturn, 1) := by decide +kernel
set_option maxRecDepth 20000 in
theorem ggX6_lawful_X6_judges : GoodIn wsX6_lawful wsX6_judges := goodIn_r _ [5, 6, 7, 8, 9, 10, 11, 12, 13, 14, 15, 16, 4, 17, 35, 36, 37, 38, 39, 40, 41, 42, 43, 44, 45, 46, 47, 48, 49, 50, 51] (by decide +kernel) (by decide +kernel)
set_option maxRecDepth 20000 in
theorem gX6_lawful_X6_judges : GoodIn wsX6_lawful (wsV RX6 105 RX6 yX6_judges wsX6_judges) := goodIn_app (goodIn_of _ (by decide +kernel)) ggX6_lawful_X6_judges
set_option maxRecDepth 20000 in
theorem ggX6_lawful_X6_messages : GoodIn wsX6_lawful wsX6_messages := goodIn_r _ [21, 6, 35, 36, 37, 38, 39, 40, 41, 42, 43, 44, 45, 46, 47, 48, 49, 50, 51] (by decide +kernel) (by decide +kernel)
set_option maxRecDepth 20000 in
theorem gX6_lawful_X6_messages : GoodIn wsX6_lawful (wsV RX6 67 RX6 yX6_messages wsX6_messages) := goodIn_app (goodIn_of _ (by decide +kernel)) ggX6_lawful_X6_messages
set_option maxRecDepth 20000 in
theorem ggX6_lawful_X6_scoreOf : GoodIn wsX6_lawful wsX6_scoreOf := goodIn_r _ [25, 6, 7, 26, 11, 35, 36, 37, 38, 39, 40, 41, 42, 43, 44, 45, 46, 47, 48, 49, 50, 51] (by decide +kernel) (by decide +kernel)
set_option maxRecDepth 20000 in
theorem gX6_lawful_X6_scoreOf : GoodIn wsX6_lawful (wsV RX6 121 RX6 yX6_scoreOf wsX6_scoreOf) := goodIn_app (goodIn_of _ (by decide +kernel)) ggX6_lawful_X6_scoreOf
set_option maxRecDepth 20000 in
theorem ggX6_lawful_X6_bar : GoodIn wsX6_lawful wsX6_bar := goodIn_r _ [30, 12, 6, 31, 32, 33, 4, 34, 35, 36, 37, 38, 39, 40, 41, 42, 43, 44, 45, 46, 47, 48, 49, 50, 51] (by decide +kernel) (by decide +kernel)
set_option maxRecDepth 20000 in
theorem gX6_lawful_X6_bar : GoodIn wsX6_lawful (wsV RX6 124 RX6 yX6_bar wsX6_bar) := goodIn_app (goodIn_of _ (by decide +kernel)) ggX6_lawful_X6_bar
theorem dX6_lawful_0 : decode cX6_lawful 0 = .ok (.aload_n 0, 1) := by decide +kernel
theorem dX6_lawful_1 : decode cX6_lawful 1 = .ok (.invokevirtual 105, 3) := by decide +kernel
theorem dX6_lawful_4 : decode cX6_lawful 4 = .ok (.iconst 0, 1) := by decide +kernel
theorem dX6_lawful_5 : decode cX6_lawful 5 = .ok (.istore_n 1, 1) := by decide +kernel
theorem dX6_lawful_6 : decode cX6_lawful 6 = .ok (.iconst 0, 1) := by decide +kernel
theorem dX6_lawful_7 : decode cX6_lawful 7 = .ok (.istore_n 2, 1) := by decide +kernel
theorem dX6_lawful_8 : decode cX6_lawful 8 = .ok (.iload_n 2, 1) := by decide +kernel
theorem dX6_lawful_9 : decode cX6_lawful 9 = .ok (.aload_n 0, 1) := by decide +kernel
theorem dX6_lawful_10 : decode cX6_lawful 10 = .ok (.invokevirtual 67, 3) := by decide +kernel
theorem dX6_lawful_13 : decode cX6_lawful 13 = .ok (.if_icmp .ge 29, 3) := by decide +kernel
theorem dX6_lawful_16 : decode cX6_lawful 16 = .ok (.iload_n 1, 1) := by decide +kernel
theorem dX6_lawful_17 : decode cX6_lawful 17 = .ok (.aload_n 0, 1) := by decide +kernel
theorem dX6_lawful_18 : decode cX6_lawful 18 = .ok (.iload_n 2, 1) := by decide +kernel
theorem dX6_lawful_19 : decode cX6_lawful 19 = .ok (.invokevirtual 121, 3) := by decide +kernel
theorem dX6_lawful_22 : decode cX6_lawful 22 = .ok (.aload_n 0, 1) := by decide +kernel
theorem dX6_lawful_23 : decode cX6_lawful 23 = .ok (.invokevirtual 124, 3) := by decide +kernel
theorem dX6_lawful_26 : decode cX6_lawful 26 = .ok (.if_icmp .le 7, 3) := by decide +kernel
theorem dX6_lawful_29 : decode cX6_lawful 29 = .ok (.iconst 1, 1) := by decide +kernel
theorem dX6_lawful_30 : decode cX6_lawful 30 = .ok (.goto 4, 3) := by decide +kernel
theorem dX6_lawful_33 : decode cX6_lawful 33 = .ok (.iconst 0, 1) := by decide +kernel
theorem dX6_lawful_34 : decode cX6_lawful 34 = .ok (.iadd, 1) := by decide +kernel
theorem dX6_lawful_35 : decode cX6_lawful 35 = .ok (.istore_n 1, 1) := by decide +kernel
theorem dX6_lawful_36 : decode cX6_lawful 36 = .ok (.iinc 2 1, 3) := by decide +kernel
theorem dX6_lawful_39 : decode cX6_lawful 39 = .ok (.goto (-31), 3) := by decide +kernel
theorem dX6_lawful_42 : decode cX6_lawful 42 = .ok (.iload_n 1, 1) := by decide +kernel
theorem dX6_lawful_43 : decode cX6_lawful 43 = .ok (.ireturn, 1) := by decide +kernel
set_option maxRecDepth 20000 in
theorem ggX6_decode_X6_decodes : GoodIn wsX6_decode wsX6_decodes := goodIn_r _ [6, 1, 7, 8, 9, 10, 5, 11, 12, 13, 14, 15, 16, 17, 18, 19, 20, 21, 22, 23, 24, 25, 26, 27, 28, 29, 30, 31, 32, 33, 34, 35, 36, 37, 38, 39, 40, 41, 42, 43, 44, 45, 46, 47, 48, 49, 50, 51, 52, 53, 54, 55, 56, 57, 58, 59, 60, 61, 62, 63, 64, 65] (by decide +kernel) (by decide +kernel)
set_option maxRecDepth 20000 in
theorem gX6_decode_X6_decodes : GoodIn wsX6_decode (wsV RX6 130 RX6 yX6_decodes wsX6_decodes) := goodIn_app (goodIn_of _ (by decide +kernel)) ggX6_decode_X6_decodes
theorem dX6_decode_0 : decode cX6_decode 0 = .ok (.aload_n 0, 1) := by decide +kernel
theorem dX6_decode_1 : decode cX6_decode 1 = .ok (.invokevirtual 130, 3) := by decide +kernel
theorem dX6_decode_4 : decode cX6_decode 4 = .ok (.aload_n 0, 1) := by decide +kernel
theorem dX6_decode_5 : decode cX6_decode 5 = .ok (.getfield 115, 3) := by decide +kernel
theorem dX6_decode_8 : decode cX6_decode 8 = .ok (.ireturn, 1) := by decide +kernel
set_option maxRecDepth 20000 in
theorem ggX6_decidingTrial_X6_decodes : GoodIn wsX6_decidingTrial wsX6_decodes := goodIn_r _ [6, 7, 1, 8, 9, 10, 5, 11, 12, 13, 14, 15, 16, 17, 18, 19, 20, 21, 22, 23, 24, 25, 26, 27, 28, 29, 30, 31, 32, 33, 34, 35, 36, 37, 38, 39, 40, 41, 42, 43, 44, 45, 46, 47, 48, 49, 50, 51, 52, 53, 54, 55, 56, 57, 58, 59, 60, 61, 62, 63, 64, 65] (by decide +kernel) (by decide +kernel)
set_option maxRecDepth 20000 in
theorem gX6_decidingTrial_X6_decodes : GoodIn wsX6_decidingTrial (wsV RX6 130 RX6 yX6_decodes wsX6_decodes) := goodIn_app (goodIn_of _ (by decide +kernel)) ggX6_decidingTrial_X6_decodes
theorem dX6_decidingTrial_0 : decode cX6_decidingTrial 0 = .ok (.aload_n 0, 1) := by decide +kernel
theorem dX6_decidingTrial_1 : decode cX6_decidingTrial 1 = .ok (.invokevirtual 130, 3) := by decide +kernel
theorem dX6_decidingTrial_4 : decode cX6_decidingTrial 4 = .ok (.aload_n 0, 1) := by decide +kernel
theorem dX6_decidingTrial_5 : decode cX6_decidingTrial 5 = .ok (.getfield 118, 3) := by decide +kernel
theorem dX6_decidingTrial_8 : decode cX6_decidingTrial 8 = .ok (.ireturn, 1) := by decide +kernel
set_option maxRecDepth 20000 in
theorem ggX6_margin_X6_decodes : GoodIn wsX6_margin wsX6_decodes := goodIn_r _ [6, 1, 7, 8, 9, 10, 5, 11, 12, 13, 14, 15, 16, 17, 18, 19, 20, 21, 22, 23, 24, 25, 26, 27, 28, 29, 30, 31, 32, 33, 34, 35, 36, 37, 38, 39, 40, 41, 42, 43, 44, 45, 46, 47, 48, 49, 50, 51, 52, 53, 54, 55, 56, 57, 58, 59, 60, 61, 62, 63, 64, 65] (by decide +kernel) (by decide +kernel)
set_option maxRecDepth 20000 in
theorem gX6_margin_X6_decodes : GoodIn wsX6_margin (wsV RX6 130 RX6 yX6_decodes wsX6_decodes) := goodIn_app (goodIn_of _ (by decide +kernel)) ggX6_margin_X6_decodes
set_option maxRecDepth 20000 in
theorem ggX6_margin_X6_scoreOf : GoodIn wsX6_margin wsX6_scoreOf := goodIn_r _ [31, 12, 13, 32, 17, 49, 50, 51, 52, 53, 54, 55, 56, 57, 58, 59, 60, 61, 62, 63, 64, 65] (by decide +kernel) (by decide +kernel)
set_option maxRecDepth 20000 in
theorem gX6_margin_X6_scoreOf : GoodIn wsX6_margin (wsV RX6 121 RX6 yX6_scoreOf wsX6_scoreOf) := goodIn_app (goodIn_of _ (by decide +kernel)) ggX6_margin_X6_scoreOf
set_option maxRecDepth 20000 in
theorem ggX6_margin_X6_bar : GoodIn wsX6_margin wsX6_bar := goodIn_r _ [36, 18, 12, 37, 38, 39, 5, 40, 49, 50, 51, 52, 53, 54, 55, 56, 57, 58, 59, 60, 61, 62, 63, 64, 65] (by decide +kernel) (by decide +kernel)
set_option maxRecDepth 20000 in
theorem gX6_margin_X6_bar : GoodIn wsX6_margin (wsV RX6 124 RX6 yX6_bar wsX6_bar) := goodIn_app (goodIn_of _ (by decide +kernel)) ggX6_margin_X6_bar
theorem dX6_margin_0 : decode cX6_margin 0 = .ok (.aload_n 0, 1) := by decide +kernel
theorem dX6_margin_1 : decode cX6_margin 1 = .ok (.invokevirtual 130, 3) := by decide +kernel
theorem dX6_margin_4 : decode cX6_margin 4 = .ok (.aload_n 0, 1) := by decide +kernel
theorem dX6_margin_5 : decode cX6_margin 5 = .ok (.getfield 115, 3) := by decide +kernel
theorem dX6_margin_8 : decode cX6_margin 8 = .ok (.ifCond .ge 9, 3) := by decide +kernel
theorem dX6_margin_11 : decode cX6_margin 11 = .ok (.sipush (-1004), 3) := by decide +kernel
theorem dX6_margin_14 : decode cX6_margin 14 = .ok (.goto 16, 3) := by decide +kernel
theorem dX6_margin_17 : decode cX6_margin 17 = .ok (.aload_n 0, 1) := by decide +kernel
theorem dX6_margin_18 : decode cX6_margin 18 = .ok (.aload_n 0, 1) := by decide +kernel
theorem dX6_margin_19 : decode cX6_margin 19 = .ok (.getfield 115, 3) := by decide +kernel
theorem dX6_margin_22 : decode cX6_margin 22 = .ok (.invokevirtual 121, 3) := by decide +kernel
theorem dX6_margin_25 : decode cX6_margin 25 = .ok (.aload_n 0, 1) := by decide +kernel
theorem dX6_margin_26 : decode cX6_margin 26 = .ok (.invokevirtual 124, 3) := by decide +kernel
theorem dX6_margin_29 : decode cX6_margin 29 = .ok (.isub, 1) := by decide +kernel
theorem dX6_margin_30 : decode cX6_margin 30 = .ok (.ireturn, 1) := by decide +kernel
set_option maxRecDepth 20000 in
theorem ggX6_wastedTrials_X6_judges : GoodIn wsX6_wastedTrials wsX6_judges := goodIn_r _ [5, 6, 7, 8, 9, 10, 11, 12, 13, 14, 15, 16, 4, 17, 39, 40, 41, 42, 43, 44, 45, 46, 47, 48, 49, 50, 51, 52, 53, 54, 55] (by decide +kernel) (by decide +kernel)
set_option maxRecDepth 20000 in
theorem gX6_wastedTrials_X6_judges : GoodIn wsX6_wastedTrials (wsV RX6 105 RX6 yX6_judges wsX6_judges) := goodIn_app (goodIn_of _ (by decide +kernel)) ggX6_wastedTrials_X6_judges
set_option maxRecDepth 20000 in
theorem ggX6_wastedTrials_X6_distance : GoodIn wsX6_wastedTrials wsX6_distance := goodIn_r _ [21, 6, 39, 40, 41, 42, 43, 44, 45, 46, 47, 48, 49, 50, 51, 52, 53, 54, 55] (by decide +kernel) (by decide +kernel)
set_option maxRecDepth 20000 in
theorem gX6_wastedTrials_X6_distance : GoodIn wsX6_wastedTrials (wsV RX6 90 RX6 yX6_distance wsX6_distance) := goodIn_app (goodIn_of _ (by decide +kernel)) ggX6_wastedTrials_X6_distance
set_option maxRecDepth 20000 in
theorem ggX6_wastedTrials_X6_messages : GoodIn wsX6_wastedTrials wsX6_messages := goodIn_r _ [25, 6, 39, 40, 41, 42, 43, 44, 45, 46, 47, 48, 49, 50, 51, 52, 53, 54, 55] (by decide +kernel) (by decide +kernel)
set_option maxRecDepth 20000 in
theorem gX6_wastedTrials_X6_messages : GoodIn wsX6_wastedTrials (wsV RX6 67 RX6 yX6_messages wsX6_messages) := goodIn_app (goodIn_of _ (by decide +kernel)) ggX6_wastedTrials_X6_messages
set_option maxRecDepth 20000 in
theorem ggX6_wastedTrials_X6_scoreOf : GoodIn wsX6_wastedTrials wsX6_scoreOf := goodIn_r _ [29, 6, 7, 30, 11, 39, 40, 41, 42, 43, 44, 45, 46, 47, 48, 49, 50, 51, 52, 53, 54, 55] (by decide +kernel) (by decide +kernel)
set_option maxRecDepth 20000 in
theorem gX6_wastedTrials_X6_scoreOf : GoodIn wsX6_wastedTrials (wsV RX6 121 RX6 yX6_scoreOf wsX6_scoreOf) := goodIn_app (goodIn_of _ (by decide +kernel)) ggX6_wastedTrials_X6_scoreOf
set_option maxRecDepth 20000 in
theorem ggX6_wastedTrials_X6_bar : GoodIn wsX6_wastedTrials wsX6_bar := goodIn_r _ [34, 12, 6, 18, 19, 20, 4, 21, 39, 40, 41, 42, 43, 44, 45, 46, 47, 48, 49, 50, 51, 52, 53, 54, 55] (by decide +kernel) (by decide +kernel)
set_option maxRecDepth 20000 in
theorem gX6_wastedTrials_X6_bar : GoodIn wsX6_wastedTrials (wsV RX6 124 RX6 yX6_bar wsX6_bar) := goodIn_app (goodIn_of _ (by decide +kernel)) ggX6_wastedTrials_X6_bar
set_option maxRecDepth 20000 in
theorem ggX6_wastedTrials_X6_isResult : GoodIn wsX6_wastedTrials wsX6_isResult := goodIn_r _ [38, 6, 7, 13, 30, 18, 19, 20, 4, 21, 39, 40, 41, 42, 43, 44, 45, 46, 47, 48, 49, 50, 51, 52, 53, 54, 55] (by decide +kernel) (by decide +kernel)
set_option maxRecDepth 20000 in
theorem gX6_wastedTrials_X6_isResult : GoodIn wsX6_wastedTrials (wsV RX6 111 RX6 yX6_isResult wsX6_isResult) := goodIn_app (goodIn_of _ (by decide +kernel)) ggX6_wastedTrials_X6_isResult
theorem dX6_wastedTrials_0 : decode cX6_wastedTrials 0 = .ok (.aload_n 0, 1) := by decide +kernel
theorem dX6_wastedTrials_1 : decode cX6_wastedTrials 1 = .ok (.invokevirtual 105, 3) := by decide +kernel
theorem dX6_wastedTrials_4 : decode cX6_wastedTrials 4 = .ok (.aload_n 0, 1) := by decide +kernel
theorem dX6_wastedTrials_5 : decode cX6_wastedTrials 5 = .ok (.invokevirtual 90, 3) := by decide +kernel
theorem dX6_wastedTrials_8 : decode cX6_wastedTrials 8 = .ok (.istore_n 1, 1) := by decide +kernel
theorem dX6_wastedTrials_9 : decode cX6_wastedTrials 9 = .ok (.iconst 0, 1) := by decide +kernel
theorem dX6_wastedTrials_10 : decode cX6_wastedTrials 10 = .ok (.istore_n 2, 1) := by decide +kernel
theorem dX6_wastedTrials_11 : decode cX6_wastedTrials 11 = .ok (.iload_n 2, 1) := by decide +kernel
theorem dX6_wastedTrials_12 : decode cX6_wastedTrials 12 = .ok (.aload_n 0, 1) := by decide +kernel
theorem dX6_wastedTrials_13 : decode cX6_wastedTrials 13 = .ok (.invokevirtual 67, 3) := by decide +kernel
theorem dX6_wastedTrials_16 : decode cX6_wastedTrials 16 = .ok (.if_icmp .ge 54, 3) := by decide +kernel
theorem dX6_wastedTrials_19 : decode cX6_wastedTrials 19 = .ok (.aload_n 0, 1) := by decide +kernel
theorem dX6_wastedTrials_20 : decode cX6_wastedTrials 20 = .ok (.iload_n 2, 1) := by decide +kernel
theorem dX6_wastedTrials_21 : decode cX6_wastedTrials 21 = .ok (.invokevirtual 121, 3) := by decide +kernel
theorem dX6_wastedTrials_24 : decode cX6_wastedTrials 24 = .ok (.aload_n 0, 1) := by decide +kernel
theorem dX6_wastedTrials_25 : decode cX6_wastedTrials 25 = .ok (.invokevirtual 124, 3) := by decide +kernel
theorem dX6_wastedTrials_28 : decode cX6_wastedTrials 28 = .ok (.if_icmp .le 36, 3) := by decide +kernel
theorem dX6_wastedTrials_31 : decode cX6_wastedTrials 31 = .ok (.iconst 0, 1) := by decide +kernel
theorem dX6_wastedTrials_32 : decode cX6_wastedTrials 32 = .ok (.istore_n 3, 1) := by decide +kernel
theorem dX6_wastedTrials_33 : decode cX6_wastedTrials 33 = .ok (.iload_n 3, 1) := by decide +kernel
theorem dX6_wastedTrials_34 : decode cX6_wastedTrials 34 = .ok (.aload_n 0, 1) := by decide +kernel
theorem dX6_wastedTrials_35 : decode cX6_wastedTrials 35 = .ok (.invokevirtual 90, 3) := by decide +kernel
theorem dX6_wastedTrials_38 : decode cX6_wastedTrials 38 = .ok (.if_icmp .ge 26, 3) := by decide +kernel
theorem dX6_wastedTrials_41 : decode cX6_wastedTrials 41 = .ok (.iload_n 1, 1) := by decide +kernel
theorem dX6_wastedTrials_42 : decode cX6_wastedTrials 42 = .ok (.aload_n 0, 1) := by decide +kernel
theorem dX6_wastedTrials_43 : decode cX6_wastedTrials 43 = .ok (.iload_n 2, 1) := by decide +kernel
theorem dX6_wastedTrials_44 : decode cX6_wastedTrials 44 = .ok (.iload_n 3, 1) := by decide +kernel
theorem dX6_wastedTrials_45 : decode cX6_wastedTrials 45 = .ok (.invokevirtual 111, 3) := by decide +kernel
theorem dX6_wastedTrials_48 : decode cX6_wastedTrials 48 = .ok (.ifCond .eq 7, 3) := by decide +kernel
theorem dX6_wastedTrials_51 : decode cX6_wastedTrials 51 = .ok (.iconst 1, 1) := by decide +kernel
theorem dX6_wastedTrials_52 : decode cX6_wastedTrials 52 = .ok (.goto 4, 3) := by decide +kernel
theorem dX6_wastedTrials_55 : decode cX6_wastedTrials 55 = .ok (.iconst 0, 1) := by decide +kernel
theorem dX6_wastedTrials_56 : decode cX6_wastedTrials 56 = .ok (.isub, 1) := by decide +kernel
theorem dX6_wastedTrials_57 : decode cX6_wastedTrials 57 = .ok (.istore_n 1, 1) := by decide +kernel
theorem dX6_wastedTrials_58 : decode cX6_wastedTrials 58 = .ok (.iinc 3 1, 3) := by decide +kernel
theorem dX6_wastedTrials_61 : decode cX6_wastedTrials 61 = .ok (.goto (-28), 3) := by decide +kernel
theorem dX6_wastedTrials_64 : decode cX6_wastedTrials 64 = .ok (.iinc 2 1, 3) := by decide +kernel
theorem dX6_wastedTrials_67 : decode cX6_wastedTrials 67 = .ok (.goto (-56), 3) := by decide +kernel
theorem dX6_wastedTrials_70 : decode cX6_wastedTrials 70 = .ok (.iload_n 1, 1) := by decide +kernel
theorem dX6_wastedTrials_71 : decode cX6_wastedTrials 71 = .ok (.ireturn, 1) := by decide +kernel
set_option maxRecDepth 20000 in
theorem ggX6_isGuaranteed_X6_wrongBits : GoodIn wsX6_isGuaranteed wsX6_wrongBits := goodIn_r _ [7, 2, 8, 9, 10, 11, 12, 6, 13, 14, 15, 16, 21, 22, 23, 24, 25, 26, 27, 28, 29, 30, 31, 32, 33, 34, 35, 36, 37] (by decide +kernel) (by decide +kernel)
set_option maxRecDepth 20000 in
theorem gX6_isGuaranteed_X6_wrongBits : GoodIn wsX6_isGuaranteed (wsV RX6 93 RX6 yX6_wrongBits wsX6_wrongBits) := goodIn_app (goodIn_of _ (by decide +kernel)) ggX6_isGuaranteed_X6_wrongBits
set_option maxRecDepth 20000 in
theorem ggX6_isGuaranteed_X6_ones : GoodIn wsX6_isGuaranteed wsX6_ones := goodIn_r _ [16] (by decide +kernel) (by decide +kernel)
set_option maxRecDepth 20000 in
theorem gX6_isGuaranteed_X6_ones : GoodIn wsX6_isGuaranteed (va_wsS RX6 59 yX6_ones wsX6_ones) := goodIn_app (goodIn_of _ (by decide +kernel)) ggX6_isGuaranteed_X6_ones
set_option maxRecDepth 20000 in
theorem ggX6_isGuaranteed_X6_distance : GoodIn wsX6_isGuaranteed wsX6_distance := goodIn_r _ [20, 2, 21, 22, 23, 24, 25, 26, 27, 28, 29, 30, 31, 32, 33, 34, 35, 36, 37] (by decide +kernel) (by decide +kernel)
set_option maxRecDepth 20000 in
theorem gX6_isGuaranteed_X6_distance : GoodIn wsX6_isGuaranteed (wsV RX6 90 RX6 yX6_distance wsX6_distance) := goodIn_app (goodIn_of _ (by decide +kernel)) ggX6_isGuaranteed_X6_distance
theorem dX6_isGuaranteed_0 : decode cX6_isGuaranteed 0 = .ok (.iconst 2, 1) := by decide +kernel
theorem dX6_isGuaranteed_1 : decode cX6_isGuaranteed 1 = .ok (.aload_n 0, 1) := by decide +kernel
theorem dX6_isGuaranteed_2 : decode cX6_isGuaranteed 2 = .ok (.invokevirtual 93, 3) := by decide +kernel
theorem dX6_isGuaranteed_5 : decode cX6_isGuaranteed 5 = .ok (.imul, 1) := by decide +kernel
theorem dX6_isGuaranteed_6 : decode cX6_isGuaranteed 6 = .ok (.aload_n 0, 1) := by decide +kernel
theorem dX6_isGuaranteed_7 : decode cX6_isGuaranteed 7 = .ok (.getfield 55, 3) := by decide +kernel
theorem dX6_isGuaranteed_10 : decode cX6_isGuaranteed 10 = .ok (.aload_n 0, 1) := by decide +kernel
theorem dX6_isGuaranteed_11 : decode cX6_isGuaranteed 11 = .ok (.getfield 7, 3) := by decide +kernel
theorem dX6_isGuaranteed_14 : decode cX6_isGuaranteed 14 = .ok (.bipush 7, 2) := by decide +kernel
theorem dX6_isGuaranteed_16 : decode cX6_isGuaranteed 16 = .ok (.iaload, 1) := by decide +kernel
theorem dX6_isGuaranteed_17 : decode cX6_isGuaranteed 17 = .ok (.invokestatic 59, 3) := by decide +kernel
theorem dX6_isGuaranteed_20 : decode cX6_isGuaranteed 20 = .ok (.imul, 1) := by decide +kernel
theorem dX6_isGuaranteed_21 : decode cX6_isGuaranteed 21 = .ok (.iadd, 1) := by decide +kernel
theorem dX6_isGuaranteed_22 : decode cX6_isGuaranteed 22 = .ok (.aload_n 0, 1) := by decide +kernel
theorem dX6_isGuaranteed_23 : decode cX6_isGuaranteed 23 = .ok (.getfield 55, 3) := by decide +kernel
theorem dX6_isGuaranteed_26 : decode cX6_isGuaranteed 26 = .ok (.aload_n 0, 1) := by decide +kernel
theorem dX6_isGuaranteed_27 : decode cX6_isGuaranteed 27 = .ok (.invokevirtual 90, 3) := by decide +kernel
theorem dX6_isGuaranteed_30 : decode cX6_isGuaranteed 30 = .ok (.imul, 1) := by decide +kernel
theorem dX6_isGuaranteed_31 : decode cX6_isGuaranteed 31 = .ok (.if_icmp .ge 7, 3) := by decide +kernel
theorem dX6_isGuaranteed_34 : decode cX6_isGuaranteed 34 = .ok (.iconst 1, 1) := by decide +kernel
theorem dX6_isGuaranteed_35 : decode cX6_isGuaranteed 35 = .ok (.goto 4, 3) := by decide +kernel
theorem dX6_isGuaranteed_38 : decode cX6_isGuaranteed 38 = .ok (.iconst 0, 1) := by decide +kernel
theorem dX6_isGuaranteed_39 : decode cX6_isGuaranteed 39 = .ok (.ireturn, 1) := by decide +kernel
set_option maxRecDepth 20000 in
theorem ggX6_isRight_X6_decodes : GoodIn wsX6_isRight wsX6_decodes := goodIn_r _ [7, 1, 8, 9, 10, 11, 6, 12, 2, 13, 14, 15, 16, 17, 18, 19, 20, 21, 22, 23, 24, 25, 26, 27, 28, 29, 30, 31, 32, 33, 34, 35, 36, 37, 38, 39, 40, 41, 42, 43, 44, 45, 46, 47, 48, 49, 50, 51, 52, 53, 54, 55, 56, 57, 58, 59, 60, 61, 62, 63, 64, 65] (by decide +kernel) (by decide +kernel)
set_option maxRecDepth 20000 in
theorem gX6_isRight_X6_decodes : GoodIn wsX6_isRight (wsV RX6 130 RX6 yX6_decodes wsX6_decodes) := goodIn_app (goodIn_of _ (by decide +kernel)) ggX6_isRight_X6_decodes
theorem dX6_isRight_0 : decode cX6_isRight 0 = .ok (.aload_n 0, 1) := by decide +kernel
theorem dX6_isRight_1 : decode cX6_isRight 1 = .ok (.invokevirtual 130, 3) := by decide +kernel
theorem dX6_isRight_4 : decode cX6_isRight 4 = .ok (.aload_n 0, 1) := by decide +kernel
theorem dX6_isRight_5 : decode cX6_isRight 5 = .ok (.getfield 115, 3) := by decide +kernel
theorem dX6_isRight_8 : decode cX6_isRight 8 = .ok (.aload_n 0, 1) := by decide +kernel
theorem dX6_isRight_9 : decode cX6_isRight 9 = .ok (.getfield 7, 3) := by decide +kernel
theorem dX6_isRight_12 : decode cX6_isRight 12 = .ok (.bipush 8, 2) := by decide +kernel
theorem dX6_isRight_14 : decode cX6_isRight 14 = .ok (.iaload, 1) := by decide +kernel
theorem dX6_isRight_15 : decode cX6_isRight 15 = .ok (.if_icmp .ne 7, 3) := by decide +kernel
theorem dX6_isRight_18 : decode cX6_isRight 18 = .ok (.iconst 1, 1) := by decide +kernel
theorem dX6_isRight_19 : decode cX6_isRight 19 = .ok (.goto 4, 3) := by decide +kernel
theorem dX6_isRight_22 : decode cX6_isRight 22 = .ok (.iconst 0, 1) := by decide +kernel
theorem dX6_isRight_23 : decode cX6_isRight 23 = .ok (.ireturn, 1) := by decide +kernel
set_option maxRecDepth 20000 in
theorem ggX6_fragileBits_X6_isLost : GoodIn wsX6_fragileBits wsX6_isLost := goodIn_r _ [6, 1, 53, 54, 55, 56, 57, 58, 59, 60, 61, 62, 63, 64, 65, 66, 67, 68, 69] (by decide +kernel) (by decide +kernel)
set_option maxRecDepth 20000 in
theorem gX6_fragileBits_X6_isLost : GoodIn wsX6_fragileBits (wsV RX6 87 RX6 yX6_isLost wsX6_isLost) := goodIn_app (goodIn_of _ (by decide +kernel)) ggX6_fragileBits_X6_isLost
set_option maxRecDepth 20000 in
theorem ggX6_fragileBits_X6_isRight : GoodIn wsX6_fragileBits wsX6_isRight := goodIn_r _ [10, 11, 1, 12, 13, 14, 5, 15, 16, 17, 18, 19, 20, 21, 22, 23, 24, 25, 26, 27, 2, 3, 4, 6, 28, 29, 30, 31, 32, 33, 34, 35, 36, 37, 38, 39, 40, 41, 42, 43, 44, 45, 46, 47, 48, 49, 50, 51, 52, 53, 54, 55, 56, 57, 58, 59, 60, 61, 62, 63, 64, 65, 66, 67, 68, 69] (by decide +kernel) (by decide +kernel)
set_option maxRecDepth 20000 in
theorem gX6_fragileBits_X6_isRight : GoodIn wsX6_fragileBits (wsV RX6 133 RX6 yX6_isRight wsX6_isRight) := goodIn_app (goodIn_of _ (by decide +kernel)) ggX6_fragileBits_X6_isRight
theorem dX6_fragileBits_0 : decode cX6_fragileBits 0 = .ok (.iconst 0, 1) := by decide +kernel
theorem dX6_fragileBits_1 : decode cX6_fragileBits 1 = .ok (.istore_n 1, 1) := by decide +kernel
theorem dX6_fragileBits_2 : decode cX6_fragileBits 2 = .ok (.iconst 0, 1) := by decide +kernel
theorem dX6_fragileBits_3 : decode cX6_fragileBits 3 = .ok (.istore_n 2, 1) := by decide +kernel
theorem dX6_fragileBits_4 : decode cX6_fragileBits 4 = .ok (.iload_n 2, 1) := by decide +kernel
theorem dX6_fragileBits_5 : decode cX6_fragileBits 5 = .ok (.aload_n 0, 1) := by decide +kernel
theorem dX6_fragileBits_6 : decode cX6_fragileBits 6 = .ok (.getfield 7, 3) := by decide +kernel
theorem dX6_fragileBits_9 : decode cX6_fragileBits 9 = .ok (.iconst 0, 1) := by decide +kernel
theorem dX6_fragileBits_10 : decode cX6_fragileBits 10 = .ok (.iaload, 1) := by decide +kernel
theorem dX6_fragileBits_11 : decode cX6_fragileBits 11 = .ok (.if_icmp .ge 80, 3) := by decide +kernel
theorem dX6_fragileBits_14 : decode cX6_fragileBits 14 = .ok (.iconst 0, 1) := by decide +kernel
theorem dX6_fragileBits_15 : decode cX6_fragileBits 15 = .ok (.istore_n 3, 1) := by decide +kernel
theorem dX6_fragileBits_16 : decode cX6_fragileBits 16 = .ok (.iload_n 3, 1) := by decide +kernel
theorem dX6_fragileBits_17 : decode cX6_fragileBits 17 = .ok (.aload_n 0, 1) := by decide +kernel
theorem dX6_fragileBits_18 : decode cX6_fragileBits 18 = .ok (.getfield 7, 3) := by decide +kernel
theorem dX6_fragileBits_21 : decode cX6_fragileBits 21 = .ok (.iconst 2, 1) := by decide +kernel
theorem dX6_fragileBits_22 : decode cX6_fragileBits 22 = .ok (.iaload, 1) := by decide +kernel
theorem dX6_fragileBits_23 : decode cX6_fragileBits 23 = .ok (.if_icmp .ge 62, 3) := by decide +kernel
theorem dX6_fragileBits_26 : decode cX6_fragileBits 26 = .ok (.aload_n 0, 1) := by decide +kernel
theorem dX6_fragileBits_27 : decode cX6_fragileBits 27 = .ok (.iload_n 2, 1) := by decide +kernel
theorem dX6_fragileBits_28 : decode cX6_fragileBits 28 = .ok (.invokevirtual 87, 3) := by decide +kernel
theorem dX6_fragileBits_31 : decode cX6_fragileBits 31 = .ok (.ifCond .ne 54, 3) := by decide +kernel
theorem dX6_fragileBits_34 : decode cX6_fragileBits 34 = .ok (.aload_n 0, 1) := by decide +kernel
theorem dX6_fragileBits_35 : decode cX6_fragileBits 35 = .ok (.getfield 7, 3) := by decide +kernel
theorem dX6_fragileBits_38 : decode cX6_fragileBits 38 = .ok (.bipush 9, 2) := by decide +kernel
theorem dX6_fragileBits_40 : decode cX6_fragileBits 40 = .ok (.iload_n 2, 1) := by decide +kernel
theorem dX6_fragileBits_41 : decode cX6_fragileBits 41 = .ok (.iadd, 1) := by decide +kernel
theorem dX6_fragileBits_42 : decode cX6_fragileBits 42 = .ok (.dup2, 1) := by decide +kernel
theorem dX6_fragileBits_43 : decode cX6_fragileBits 43 = .ok (.iaload, 1) := by decide +kernel
theorem dX6_fragileBits_44 : decode cX6_fragileBits 44 = .ok (.iconst 1, 1) := by decide +kernel
theorem dX6_fragileBits_45 : decode cX6_fragileBits 45 = .ok (.iload_n 3, 1) := by decide +kernel
theorem dX6_fragileBits_46 : decode cX6_fragileBits 46 = .ok (.ishl, 1) := by decide +kernel
theorem dX6_fragileBits_47 : decode cX6_fragileBits 47 = .ok (.ixor, 1) := by decide +kernel
theorem dX6_fragileBits_48 : decode cX6_fragileBits 48 = .ok (.iastore, 1) := by decide +kernel
theorem dX6_fragileBits_49 : decode cX6_fragileBits 49 = .ok (.iload_n 1, 1) := by decide +kernel
theorem dX6_fragileBits_50 : decode cX6_fragileBits 50 = .ok (.aload_n 0, 1) := by decide +kernel
theorem dX6_fragileBits_51 : decode cX6_fragileBits 51 = .ok (.invokevirtual 133, 3) := by decide +kernel
theorem dX6_fragileBits_54 : decode cX6_fragileBits 54 = .ok (.ifCond .eq 7, 3) := by decide +kernel
theorem dX6_fragileBits_57 : decode cX6_fragileBits 57 = .ok (.iconst 0, 1) := by decide +kernel
theorem dX6_fragileBits_58 : decode cX6_fragileBits 58 = .ok (.goto 4, 3) := by decide +kernel
theorem dX6_fragileBits_61 : decode cX6_fragileBits 61 = .ok (.iconst 1, 1) := by decide +kernel
theorem dX6_fragileBits_62 : decode cX6_fragileBits 62 = .ok (.iadd, 1) := by decide +kernel
theorem dX6_fragileBits_63 : decode cX6_fragileBits 63 = .ok (.istore_n 1, 1) := by decide +kernel
theorem dX6_fragileBits_64 : decode cX6_fragileBits 64 = .ok (.aload_n 0, 1) := by decide +kernel
theorem dX6_fragileBits_65 : decode cX6_fragileBits 65 = .ok (.getfield 7, 3) := by decide +kernel
theorem dX6_fragileBits_68 : decode cX6_fragileBits 68 = .ok (.bipush 9, 2) := by decide +kernel
theorem dX6_fragileBits_70 : decode cX6_fragileBits 70 = .ok (.iload_n 2, 1) := by decide +kernel
theorem dX6_fragileBits_71 : decode cX6_fragileBits 71 = .ok (.iadd, 1) := by decide +kernel
theorem dX6_fragileBits_72 : decode cX6_fragileBits 72 = .ok (.dup2, 1) := by decide +kernel
theorem dX6_fragileBits_73 : decode cX6_fragileBits 73 = .ok (.iaload, 1) := by decide +kernel
theorem dX6_fragileBits_74 : decode cX6_fragileBits 74 = .ok (.iconst 1, 1) := by decide +kernel
theorem dX6_fragileBits_75 : decode cX6_fragileBits 75 = .ok (.iload_n 3, 1) := by decide +kernel
theorem dX6_fragileBits_76 : decode cX6_fragileBits 76 = .ok (.ishl, 1) := by decide +kernel
theorem dX6_fragileBits_77 : decode cX6_fragileBits 77 = .ok (.ixor, 1) := by decide +kernel
theorem dX6_fragileBits_78 : decode cX6_fragileBits 78 = .ok (.iastore, 1) := by decide +kernel
theorem dX6_fragileBits_79 : decode cX6_fragileBits 79 = .ok (.iinc 3 1, 3) := by decide +kernel
theorem dX6_fragileBits_82 : decode cX6_fragileBits 82 = .ok (.goto (-66), 3) := by decide +kernel
theorem dX6_fragileBits_85 : decode cX6_fragileBits 85 = .ok (.iinc 2 1, 3) := by decide +kernel
theorem dX6_fragileBits_88 : decode cX6_fragileBits 88 = .ok (.goto (-84), 3) := by decide +kernel
theorem dX6_fragileBits_91 : decode cX6_fragileBits 91 = .ok (.iload_n 1, 1) := by decide +kernel
theorem dX6_fragileBits_92 : decode cX6_fragileBits 92 = .ok (.ireturn, 1) := by decide +kernel
set_option maxRecDepth 20000 in
theorem ggX6_fragileBlocks_X6_isRight : GoodIn wsX6_fragileBlocks wsX6_isRight := goodIn_r _ [6, 7, 1, 8, 9, 10, 5, 11, 12, 13, 14, 15, 16, 17, 18, 19, 20, 21, 22, 23, 24, 25, 26, 27, 28, 29, 30, 31, 32, 33, 34, 35, 36, 37, 38, 39, 40, 41, 42, 43, 44, 45, 46, 47, 48, 49, 50, 51, 52, 53, 54, 55, 56, 57, 58, 59, 60, 61, 62, 63, 64, 65, 66, 67, 68, 69] (by decide +kernel) (by decide +kernel)
set_option maxRecDepth 20000 in
theorem gX6_fragileBlocks_X6_isRight : GoodIn wsX6_fragileBlocks (wsV RX6 133 RX6 yX6_isRight wsX6_isRight) := goodIn_app (goodIn_of _ (by decide +kernel)) ggX6_fragileBlocks_X6_isRight
theorem dX6_fragileBlocks_0 : decode cX6_fragileBlocks 0 = .ok (.iconst 0, 1) := by decide +kernel
theorem dX6_fragileBlocks_1 : decode cX6_fragileBlocks 1 = .ok (.istore_n 1, 1) := by decide +kernel
theorem dX6_fragileBlocks_2 : decode cX6_fragileBlocks 2 = .ok (.aload_n 0, 1) := by decide +kernel
theorem dX6_fragileBlocks_3 : decode cX6_fragileBlocks 3 = .ok (.getfield 7, 3) := by decide +kernel
theorem dX6_fragileBlocks_6 : decode cX6_fragileBlocks 6 = .ok (.bipush 7, 2) := by decide +kernel
theorem dX6_fragileBlocks_8 : decode cX6_fragileBlocks 8 = .ok (.iaload, 1) := by decide +kernel
theorem dX6_fragileBlocks_9 : decode cX6_fragileBlocks 9 = .ok (.istore_n 2, 1) := by decide +kernel
theorem dX6_fragileBlocks_10 : decode cX6_fragileBlocks 10 = .ok (.iconst 0, 1) := by decide +kernel
theorem dX6_fragileBlocks_11 : decode cX6_fragileBlocks 11 = .ok (.istore_n 3, 1) := by decide +kernel
theorem dX6_fragileBlocks_12 : decode cX6_fragileBlocks 12 = .ok (.iload_n 3, 1) := by decide +kernel
theorem dX6_fragileBlocks_13 : decode cX6_fragileBlocks 13 = .ok (.aload_n 0, 1) := by decide +kernel
theorem dX6_fragileBlocks_14 : decode cX6_fragileBlocks 14 = .ok (.getfield 7, 3) := by decide +kernel
theorem dX6_fragileBlocks_17 : decode cX6_fragileBlocks 17 = .ok (.iconst 0, 1) := by decide +kernel
theorem dX6_fragileBlocks_18 : decode cX6_fragileBlocks 18 = .ok (.iaload, 1) := by decide +kernel
theorem dX6_fragileBlocks_19 : decode cX6_fragileBlocks 19 = .ok (.if_icmp .ge 36, 3) := by decide +kernel
theorem dX6_fragileBlocks_22 : decode cX6_fragileBlocks 22 = .ok (.aload_n 0, 1) := by decide +kernel
theorem dX6_fragileBlocks_23 : decode cX6_fragileBlocks 23 = .ok (.getfield 7, 3) := by decide +kernel
theorem dX6_fragileBlocks_26 : decode cX6_fragileBlocks 26 = .ok (.bipush 7, 2) := by decide +kernel
theorem dX6_fragileBlocks_28 : decode cX6_fragileBlocks 28 = .ok (.iload_n 2, 1) := by decide +kernel
theorem dX6_fragileBlocks_29 : decode cX6_fragileBlocks 29 = .ok (.iconst 1, 1) := by decide +kernel
theorem dX6_fragileBlocks_30 : decode cX6_fragileBlocks 30 = .ok (.iload_n 3, 1) := by decide +kernel
theorem dX6_fragileBlocks_31 : decode cX6_fragileBlocks 31 = .ok (.ishl, 1) := by decide +kernel
theorem dX6_fragileBlocks_32 : decode cX6_fragileBlocks 32 = .ok (.ior, 1) := by decide +kernel
theorem dX6_fragileBlocks_33 : decode cX6_fragileBlocks 33 = .ok (.iastore, 1) := by decide +kernel
theorem dX6_fragileBlocks_34 : decode cX6_fragileBlocks 34 = .ok (.iload_n 1, 1) := by decide +kernel
theorem dX6_fragileBlocks_35 : decode cX6_fragileBlocks 35 = .ok (.aload_n 0, 1) := by decide +kernel
theorem dX6_fragileBlocks_36 : decode cX6_fragileBlocks 36 = .ok (.invokevirtual 133, 3) := by decide +kernel
theorem dX6_fragileBlocks_39 : decode cX6_fragileBlocks 39 = .ok (.ifCond .eq 7, 3) := by decide +kernel
theorem dX6_fragileBlocks_42 : decode cX6_fragileBlocks 42 = .ok (.iconst 0, 1) := by decide +kernel
theorem dX6_fragileBlocks_43 : decode cX6_fragileBlocks 43 = .ok (.goto 4, 3) := by decide +kernel
theorem dX6_fragileBlocks_46 : decode cX6_fragileBlocks 46 = .ok (.iconst 1, 1) := by decide +kernel
theorem dX6_fragileBlocks_47 : decode cX6_fragileBlocks 47 = .ok (.iadd, 1) := by decide +kernel
theorem dX6_fragileBlocks_48 : decode cX6_fragileBlocks 48 = .ok (.istore_n 1, 1) := by decide +kernel
theorem dX6_fragileBlocks_49 : decode cX6_fragileBlocks 49 = .ok (.iinc 3 1, 3) := by decide +kernel
theorem dX6_fragileBlocks_52 : decode cX6_fragileBlocks 52 = .ok (.goto (-40), 3) := by decide +kernel
theorem dX6_fragileBlocks_55 : decode cX6_fragileBlocks 55 = .ok (.aload_n 0, 1) := by decide +kernel
theorem dX6_fragileBlocks_56 : decode cX6_fragileBlocks 56 = .ok (.getfield 7, 3) := by decide +kernel
theorem dX6_fragileBlocks_59 : decode cX6_fragileBlocks 59 = .ok (.bipush 7, 2) := by decide +kernel
theorem dX6_fragileBlocks_61 : decode cX6_fragileBlocks 61 = .ok (.iload_n 2, 1) := by decide +kernel
theorem dX6_fragileBlocks_62 : decode cX6_fragileBlocks 62 = .ok (.iastore, 1) := by decide +kernel
theorem dX6_fragileBlocks_63 : decode cX6_fragileBlocks 63 = .ok (.iload_n 1, 1) := by decide +kernel
theorem dX6_fragileBlocks_64 : decode cX6_fragileBlocks 64 = .ok (.ireturn, 1) := by decide +kernel
set_option maxRecDepth 20000 in
theorem ggX6_nearest_X6_in : GoodIn wsX6_nearest wsX6_in := goodIn_r _ [7] (by decide +kernel) (by decide +kernel)
set_option maxRecDepth 20000 in
theorem gX6_nearest_X6_in : GoodIn wsX6_nearest (va_wsS RX6 63 yX6_in wsX6_in) := goodIn_app (goodIn_of _ (by decide +kernel)) ggX6_nearest_X6_in
set_option maxRecDepth 20000 in
theorem ggX6_nearest_X6_decodes : GoodIn wsX6_nearest wsX6_decodes := goodIn_r _ [11, 1, 12, 13, 14, 15, 6, 16, 2, 17, 18, 19, 20, 21, 22, 23, 24, 25, 26, 27, 28, 29, 30, 31, 32, 33, 34, 35, 3, 36, 37, 38, 39, 40, 41, 42, 43, 44, 45, 46, 47, 48, 49, 50, 51, 52, 53, 54, 55, 56, 57, 58, 59, 60, 61, 62, 63, 64, 65, 66, 67, 68] (by decide +kernel) (by decide +kernel)
set_option maxRecDepth 20000 in
theorem gX6_nearest_X6_decodes : GoodIn wsX6_nearest (wsV RX6 130 RX6 yX6_decodes wsX6_decodes) := goodIn_app (goodIn_of _ (by decide +kernel)) ggX6_nearest_X6_decodes
set_option maxRecDepth 20000 in
theorem ggX6_nearest_X6_messages : GoodIn wsX6_nearest wsX6_messages := goodIn_r _ [31, 2, 52, 53, 54, 55, 56, 57, 58, 59, 60, 61, 62, 63, 64, 65, 66, 67, 68] (by decide +kernel) (by decide +kernel)
set_option maxRecDepth 20000 in
theorem gX6_nearest_X6_messages : GoodIn wsX6_nearest (wsV RX6 67 RX6 yX6_messages wsX6_messages) := goodIn_app (goodIn_of _ (by decide +kernel)) ggX6_nearest_X6_messages
theorem dX6_nearest_0 : decode cX6_nearest 0 = .ok (.iload_n 1, 1) := by decide +kernel
theorem dX6_nearest_1 : decode cX6_nearest 1 = .ok (.iconst 0, 1) := by decide +kernel
theorem dX6_nearest_2 : decode cX6_nearest 2 = .ok (.iconst 1, 1) := by decide +kernel
theorem dX6_nearest_3 : decode cX6_nearest 3 = .ok (.invokestatic 63, 3) := by decide +kernel
theorem dX6_nearest_6 : decode cX6_nearest 6 = .ok (.ifCond .ne 7, 3) := by decide +kernel
theorem dX6_nearest_9 : decode cX6_nearest 9 = .ok (.sipush (-1001), 3) := by decide +kernel
theorem dX6_nearest_12 : decode cX6_nearest 12 = .ok (.ireturn, 1) := by decide +kernel
theorem dX6_nearest_13 : decode cX6_nearest 13 = .ok (.aload_n 0, 1) := by decide +kernel
theorem dX6_nearest_14 : decode cX6_nearest 14 = .ok (.invokevirtual 130, 3) := by decide +kernel
theorem dX6_nearest_17 : decode cX6_nearest 17 = .ok (.aload_n 0, 1) := by decide +kernel
theorem dX6_nearest_18 : decode cX6_nearest 18 = .ok (.getfield 115, 3) := by decide +kernel
theorem dX6_nearest_21 : decode cX6_nearest 21 = .ok (.ifCond .ge 7, 3) := by decide +kernel
theorem dX6_nearest_24 : decode cX6_nearest 24 = .ok (.sipush (-1004), 3) := by decide +kernel
theorem dX6_nearest_27 : decode cX6_nearest 27 = .ok (.ireturn, 1) := by decide +kernel
theorem dX6_nearest_28 : decode cX6_nearest 28 = .ok (.bipush 99, 2) := by decide +kernel
theorem dX6_nearest_30 : decode cX6_nearest 30 = .ok (.istore_n 2, 1) := by decide +kernel
theorem dX6_nearest_31 : decode cX6_nearest 31 = .ok (.iconst 0, 1) := by decide +kernel
theorem dX6_nearest_32 : decode cX6_nearest 32 = .ok (.istore_n 3, 1) := by decide +kernel
theorem dX6_nearest_33 : decode cX6_nearest 33 = .ok (.iconst 0, 1) := by decide +kernel
theorem dX6_nearest_34 : decode cX6_nearest 34 = .ok (.istore 4, 2) := by decide +kernel
theorem dX6_nearest_36 : decode cX6_nearest 36 = .ok (.iload 4, 2) := by decide +kernel
theorem dX6_nearest_38 : decode cX6_nearest 38 = .ok (.aload_n 0, 1) := by decide +kernel
theorem dX6_nearest_39 : decode cX6_nearest 39 = .ok (.invokevirtual 67, 3) := by decide +kernel
theorem dX6_nearest_42 : decode cX6_nearest 42 = .ok (.if_icmp .ge 94, 3) := by decide +kernel
theorem dX6_nearest_45 : decode cX6_nearest 45 = .ok (.iconst 0, 1) := by decide +kernel
theorem dX6_nearest_46 : decode cX6_nearest 46 = .ok (.istore 5, 2) := by decide +kernel
theorem dX6_nearest_48 : decode cX6_nearest 48 = .ok (.iconst 0, 1) := by decide +kernel
theorem dX6_nearest_49 : decode cX6_nearest 49 = .ok (.istore 6, 2) := by decide +kernel
theorem dX6_nearest_51 : decode cX6_nearest 51 = .ok (.iload 6, 2) := by decide +kernel
theorem dX6_nearest_53 : decode cX6_nearest 53 = .ok (.aload_n 0, 1) := by decide +kernel
theorem dX6_nearest_54 : decode cX6_nearest 54 = .ok (.getfield 7, 3) := by decide +kernel
theorem dX6_nearest_57 : decode cX6_nearest 57 = .ok (.iconst 0, 1) := by decide +kernel
theorem dX6_nearest_58 : decode cX6_nearest 58 = .ok (.iaload, 1) := by decide +kernel
theorem dX6_nearest_59 : decode cX6_nearest 59 = .ok (.if_icmp .ge 50, 3) := by decide +kernel
theorem dX6_nearest_62 : decode cX6_nearest 62 = .ok (.iload 5, 2) := by decide +kernel
theorem dX6_nearest_64 : decode cX6_nearest 64 = .ok (.aload_n 0, 1) := by decide +kernel
theorem dX6_nearest_65 : decode cX6_nearest 65 = .ok (.getfield 23, 3) := by decide +kernel
theorem dX6_nearest_68 : decode cX6_nearest 68 = .ok (.bipush 12, 2) := by decide +kernel
theorem dX6_nearest_70 : decode cX6_nearest 70 = .ok (.iload 4, 2) := by decide +kernel
theorem dX6_nearest_72 : decode cX6_nearest 72 = .ok (.imul, 1) := by decide +kernel
theorem dX6_nearest_73 : decode cX6_nearest 73 = .ok (.iload 6, 2) := by decide +kernel
theorem dX6_nearest_75 : decode cX6_nearest 75 = .ok (.iadd, 1) := by decide +kernel
theorem dX6_nearest_76 : decode cX6_nearest 76 = .ok (.baload, 1) := by decide +kernel
theorem dX6_nearest_77 : decode cX6_nearest 77 = .ok (.aload_n 0, 1) := by decide +kernel
theorem dX6_nearest_78 : decode cX6_nearest 78 = .ok (.getfield 23, 3) := by decide +kernel
theorem dX6_nearest_81 : decode cX6_nearest 81 = .ok (.bipush 12, 2) := by decide +kernel
theorem dX6_nearest_83 : decode cX6_nearest 83 = .ok (.aload_n 0, 1) := by decide +kernel
theorem dX6_nearest_84 : decode cX6_nearest 84 = .ok (.getfield 115, 3) := by decide +kernel
theorem dX6_nearest_87 : decode cX6_nearest 87 = .ok (.imul, 1) := by decide +kernel
theorem dX6_nearest_88 : decode cX6_nearest 88 = .ok (.iload 6, 2) := by decide +kernel
theorem dX6_nearest_90 : decode cX6_nearest 90 = .ok (.iadd, 1) := by decide +kernel
theorem dX6_nearest_91 : decode cX6_nearest 91 = .ok (.baload, 1) := by decide +kernel
theorem dX6_nearest_92 : decode cX6_nearest 92 = .ok (.if_icmp .ne 7, 3) := by decide +kernel
theorem dX6_nearest_95 : decode cX6_nearest 95 = .ok (.iconst 0, 1) := by decide +kernel
theorem dX6_nearest_96 : decode cX6_nearest 96 = .ok (.goto 4, 3) := by decide +kernel
theorem dX6_nearest_99 : decode cX6_nearest 99 = .ok (.iconst 1, 1) := by decide +kernel
theorem dX6_nearest_100 : decode cX6_nearest 100 = .ok (.iadd, 1) := by decide +kernel
theorem dX6_nearest_101 : decode cX6_nearest 101 = .ok (.istore 5, 2) := by decide +kernel
theorem dX6_nearest_103 : decode cX6_nearest 103 = .ok (.iinc 6 1, 3) := by decide +kernel
theorem dX6_nearest_106 : decode cX6_nearest 106 = .ok (.goto (-55), 3) := by decide +kernel
theorem dX6_nearest_109 : decode cX6_nearest 109 = .ok (.iload 4, 2) := by decide +kernel
theorem dX6_nearest_111 : decode cX6_nearest 111 = .ok (.aload_n 0, 1) := by decide +kernel
theorem dX6_nearest_112 : decode cX6_nearest 112 = .ok (.getfield 115, 3) := by decide +kernel
theorem dX6_nearest_115 : decode cX6_nearest 115 = .ok (.if_icmp .eq 15, 3) := by decide +kernel
theorem dX6_nearest_118 : decode cX6_nearest 118 = .ok (.iload 5, 2) := by decide +kernel
theorem dX6_nearest_120 : decode cX6_nearest 120 = .ok (.iload_n 2, 1) := by decide +kernel
theorem dX6_nearest_121 : decode cX6_nearest 121 = .ok (.if_icmp .ge 9, 3) := by decide +kernel
theorem dX6_nearest_124 : decode cX6_nearest 124 = .ok (.iload 5, 2) := by decide +kernel
theorem dX6_nearest_126 : decode cX6_nearest 126 = .ok (.istore_n 2, 1) := by decide +kernel
theorem dX6_nearest_127 : decode cX6_nearest 127 = .ok (.iload 4, 2) := by decide +kernel
theorem dX6_nearest_129 : decode cX6_nearest 129 = .ok (.istore_n 3, 1) := by decide +kernel
theorem dX6_nearest_130 : decode cX6_nearest 130 = .ok (.iinc 4 1, 3) := by decide +kernel
theorem dX6_nearest_133 : decode cX6_nearest 133 = .ok (.goto (-97), 3) := by decide +kernel
theorem dX6_nearest_136 : decode cX6_nearest 136 = .ok (.iload_n 1, 1) := by decide +kernel
theorem dX6_nearest_137 : decode cX6_nearest 137 = .ok (.ifCond .ne 7, 3) := by decide +kernel
theorem dX6_nearest_140 : decode cX6_nearest 140 = .ok (.iload_n 2, 1) := by decide +kernel
theorem dX6_nearest_141 : decode cX6_nearest 141 = .ok (.goto 4, 3) := by decide +kernel
theorem dX6_nearest_144 : decode cX6_nearest 144 = .ok (.iload_n 3, 1) := by decide +kernel
theorem dX6_nearest_145 : decode cX6_nearest 145 = .ok (.ireturn, 1) := by decide +kernel
