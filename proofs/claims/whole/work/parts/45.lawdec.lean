theorem d_Law_law_0 : decode code 0 = .ok (.new 8, 3) := by decide +kernel
theorem d_Law_law_3 : decode code 3 = .ok (.dup, 1) := by decide +kernel
theorem d_Law_law_4 : decode code 4 = .ok (.invokespecial 68, 3) := by decide +kernel
theorem d_Law_law_7 : decode code 7 = .ok (.astore_n 1, 1) := by decide +kernel
theorem d_Law_law_8 : decode code 8 = .ok (.new 69, 3) := by decide +kernel
theorem d_Law_law_11 : decode code 11 = .ok (.dup, 1) := by decide +kernel
theorem d_Law_law_12 : decode code 12 = .ok (.invokespecial 71, 3) := by decide +kernel
theorem d_Law_law_15 : decode code 15 = .ok (.astore_n 2, 1) := by decide +kernel
theorem d_Law_law_16 : decode code 16 = .ok (.iconst 1, 1) := by decide +kernel
theorem d_Law_law_17 : decode code 17 = .ok (.newarray .long, 2) := by decide +kernel
theorem d_Law_law_19 : decode code 19 = .ok (.astore_n 3, 1) := by decide +kernel
theorem d_Law_law_20 : decode code 20 = .ok (.iconst 1, 1) := by decide +kernel
theorem d_Law_law_21 : decode code 21 = .ok (.newarray .double, 2) := by decide +kernel
theorem d_Law_law_23 : decode code 23 = .ok (.astore 4, 2) := by decide +kernel
theorem d_Law_law_25 : decode code 25 = .ok (.iconst 0, 1) := by decide +kernel
theorem d_Law_law_26 : decode code 26 = .ok (.istore 5, 2) := by decide +kernel
theorem d_Law_law_28 : decode code 28 = .ok (.iload 5, 2) := by decide +kernel
theorem d_Law_law_30 : decode code 30 = .ok (.aload_n 0, 1) := by decide +kernel
theorem d_Law_law_31 : decode code 31 = .ok (.arraylength, 1) := by decide +kernel
theorem d_Law_law_32 : decode code 32 = .ok (.iconst 5, 1) := by decide +kernel
theorem d_Law_law_33 : decode code 33 = .ok (.isub, 1) := by decide +kernel
theorem d_Law_law_34 : decode code 34 = .ok (.if_icmp .gt 969, 3) := by decide +kernel
theorem d_Law_law_37 : decode code 37 = .ok (.aload_n 0, 1) := by decide +kernel
theorem d_Law_law_38 : decode code 38 = .ok (.iload 5, 2) := by decide +kernel
theorem d_Law_law_40 : decode code 40 = .ok (.iaload, 1) := by decide +kernel
theorem d_Law_law_41 : decode code 41 = .ok (.bipush 15, 2) := by decide +kernel
theorem d_Law_law_43 : decode code 43 = .ok (.iand, 1) := by decide +kernel
theorem d_Law_law_44 : decode code 44 = .ok (.tableswitch 953 0 12 #[68, 160, 260, 348, 392, 436, 492, 564, 620, 676, 743, 820, 897], 68) := by decide +kernel
theorem d_Law_law_112 : decode code 112 = .ok (.aload_n 1, 1) := by decide +kernel
theorem d_Law_law_113 : decode code 113 = .ok (.aload_n 0, 1) := by decide +kernel
theorem d_Law_law_114 : decode code 114 = .ok (.iload 5, 2) := by decide +kernel
theorem d_Law_law_116 : decode code 116 = .ok (.iconst 1, 1) := by decide +kernel
theorem d_Law_law_117 : decode code 117 = .ok (.iadd, 1) := by decide +kernel
theorem d_Law_law_118 : decode code 118 = .ok (.iaload, 1) := by decide +kernel
theorem d_Law_law_119 : decode code 119 = .ok (.aload_n 0, 1) := by decide +kernel
theorem d_Law_law_120 : decode code 120 = .ok (.iload 5, 2) := by decide +kernel
theorem d_Law_law_122 : decode code 122 = .ok (.iconst 2, 1) := by decide +kernel
theorem d_Law_law_123 : decode code 123 = .ok (.iadd, 1) := by decide +kernel
theorem d_Law_law_124 : decode code 124 = .ok (.iaload, 1) := by decide +kernel
theorem d_Law_law_125 : decode code 125 = .ok (.aload_n 0, 1) := by decide +kernel
theorem d_Law_law_126 : decode code 126 = .ok (.iload 5, 2) := by decide +kernel
theorem d_Law_law_128 : decode code 128 = .ok (.iconst 3, 1) := by decide +kernel
theorem d_Law_law_129 : decode code 129 = .ok (.iadd, 1) := by decide +kernel
theorem d_Law_law_130 : decode code 130 = .ok (.iaload, 1) := by decide +kernel
theorem d_Law_law_131 : decode code 131 = .ok (.aload_n 0, 1) := by decide +kernel
theorem d_Law_law_132 : decode code 132 = .ok (.iload 5, 2) := by decide +kernel
theorem d_Law_law_134 : decode code 134 = .ok (.iconst 4, 1) := by decide +kernel
theorem d_Law_law_135 : decode code 135 = .ok (.iadd, 1) := by decide +kernel
theorem d_Law_law_136 : decode code 136 = .ok (.iaload, 1) := by decide +kernel
theorem d_Law_law_137 : decode code 137 = .ok (.aload_n 3, 1) := by decide +kernel
theorem d_Law_law_138 : decode code 138 = .ok (.invokestatic 72, 3) := by decide +kernel
theorem d_Law_law_141 : decode code 141 = .ok (.istore 6, 2) := by decide +kernel
theorem d_Law_law_143 : decode code 143 = .ok (.aload_n 2, 1) := by decide +kernel
theorem d_Law_law_144 : decode code 144 = .ok (.aload_n 0, 1) := by decide +kernel
theorem d_Law_law_145 : decode code 145 = .ok (.iload 5, 2) := by decide +kernel
theorem d_Law_law_147 : decode code 147 = .ok (.iconst 1, 1) := by decide +kernel
theorem d_Law_law_148 : decode code 148 = .ok (.iadd, 1) := by decide +kernel
theorem d_Law_law_149 : decode code 149 = .ok (.iaload, 1) := by decide +kernel
theorem d_Law_law_150 : decode code 150 = .ok (.aload_n 0, 1) := by decide +kernel
theorem d_Law_law_151 : decode code 151 = .ok (.iload 5, 2) := by decide +kernel
theorem d_Law_law_153 : decode code 153 = .ok (.iconst 2, 1) := by decide +kernel
theorem d_Law_law_154 : decode code 154 = .ok (.iadd, 1) := by decide +kernel
theorem d_Law_law_155 : decode code 155 = .ok (.iaload, 1) := by decide +kernel
theorem d_Law_law_156 : decode code 156 = .ok (.aload_n 0, 1) := by decide +kernel
theorem d_Law_law_157 : decode code 157 = .ok (.iload 5, 2) := by decide +kernel
theorem d_Law_law_159 : decode code 159 = .ok (.iconst 3, 1) := by decide +kernel
theorem d_Law_law_160 : decode code 160 = .ok (.iadd, 1) := by decide +kernel
theorem d_Law_law_161 : decode code 161 = .ok (.iaload, 1) := by decide +kernel
theorem d_Law_law_162 : decode code 162 = .ok (.aload_n 0, 1) := by decide +kernel
theorem d_Law_law_163 : decode code 163 = .ok (.iload 5, 2) := by decide +kernel
theorem d_Law_law_165 : decode code 165 = .ok (.iconst 4, 1) := by decide +kernel
theorem d_Law_law_166 : decode code 166 = .ok (.iadd, 1) := by decide +kernel
theorem d_Law_law_167 : decode code 167 = .ok (.iaload, 1) := by decide +kernel
theorem d_Law_law_168 : decode code 168 = .ok (.invokevirtual 77, 3) := by decide +kernel
theorem d_Law_law_171 : decode code 171 = .ok (.istore 7, 2) := by decide +kernel
theorem d_Law_law_173 : decode code 173 = .ok (.aload_n 2, 1) := by decide +kernel
theorem d_Law_law_174 : decode code 174 = .ok (.invokevirtual 78, 3) := by decide +kernel
theorem d_Law_law_177 : decode code 177 = .ok (.iload 6, 2) := by decide +kernel
theorem d_Law_law_179 : decode code 179 = .ok (.if_icmp .eq 5, 3) := by decide +kernel
theorem d_Law_law_182 : decode code 182 = .ok (.iconst 0, 1) := by decide +kernel
theorem d_Law_law_183 : decode code 183 = .ok (.ireturn, 1) := by decide +kernel
theorem d_Law_law_184 : decode code 184 = .ok (.iload 6, 2) := by decide +kernel
theorem d_Law_law_186 : decode code 186 = .ok (.ifCond .ne 15, 3) := by decide +kernel
theorem d_Law_law_189 : decode code 189 = .ok (.aload_n 3, 1) := by decide +kernel
theorem d_Law_law_190 : decode code 190 = .ok (.iconst 0, 1) := by decide +kernel
theorem d_Law_law_191 : decode code 191 = .ok (.laload, 1) := by decide +kernel
theorem d_Law_law_192 : decode code 192 = .ok (.iload 7, 2) := by decide +kernel
theorem d_Law_law_194 : decode code 194 = .ok (.i2l, 1) := by decide +kernel
theorem d_Law_law_195 : decode code 195 = .ok (.lcmp, 1) := by decide +kernel
theorem d_Law_law_196 : decode code 196 = .ok (.ifCond .eq 5, 3) := by decide +kernel
theorem d_Law_law_199 : decode code 199 = .ok (.iconst 0, 1) := by decide +kernel
theorem d_Law_law_200 : decode code 200 = .ok (.ireturn, 1) := by decide +kernel
theorem d_Law_law_201 : decode code 201 = .ok (.goto 796, 3) := by decide +kernel
theorem d_Law_law_204 : decode code 204 = .ok (.aload_n 1, 1) := by decide +kernel
theorem d_Law_law_205 : decode code 205 = .ok (.aload_n 0, 1) := by decide +kernel
theorem d_Law_law_206 : decode code 206 = .ok (.iload 5, 2) := by decide +kernel
theorem d_Law_law_208 : decode code 208 = .ok (.iconst 1, 1) := by decide +kernel
theorem d_Law_law_209 : decode code 209 = .ok (.iadd, 1) := by decide +kernel
theorem d_Law_law_210 : decode code 210 = .ok (.iaload, 1) := by decide +kernel
theorem d_Law_law_211 : decode code 211 = .ok (.i2d, 1) := by decide +kernel
theorem d_Law_law_212 : decode code 212 = .ok (.ldc2_w 81, 3) := by decide +kernel
theorem d_Law_law_215 : decode code 215 = .ok (.dmul, 1) := by decide +kernel
theorem d_Law_law_216 : decode code 216 = .ok (.aload_n 0, 1) := by decide +kernel
theorem d_Law_law_217 : decode code 217 = .ok (.iload 5, 2) := by decide +kernel
theorem d_Law_law_219 : decode code 219 = .ok (.iconst 2, 1) := by decide +kernel
theorem d_Law_law_220 : decode code 220 = .ok (.iadd, 1) := by decide +kernel
theorem d_Law_law_221 : decode code 221 = .ok (.iaload, 1) := by decide +kernel
theorem d_Law_law_222 : decode code 222 = .ok (.i2d, 1) := by decide +kernel
theorem d_Law_law_223 : decode code 223 = .ok (.ldc2_w 81, 3) := by decide +kernel
theorem d_Law_law_226 : decode code 226 = .ok (.dmul, 1) := by decide +kernel
theorem d_Law_law_227 : decode code 227 = .ok (.aload_n 0, 1) := by decide +kernel
theorem d_Law_law_228 : decode code 228 = .ok (.iload 5, 2) := by decide +kernel
theorem d_Law_law_230 : decode code 230 = .ok (.iconst 3, 1) := by decide +kernel
theorem d_Law_law_231 : decode code 231 = .ok (.iadd, 1) := by decide +kernel
theorem d_Law_law_232 : decode code 232 = .ok (.iaload, 1) := by decide +kernel
theorem d_Law_law_233 : decode code 233 = .ok (.aload_n 3, 1) := by decide +kernel
theorem d_Law_law_234 : decode code 234 = .ok (.invokestatic 83, 3) := by decide +kernel
theorem d_Law_law_237 : decode code 237 = .ok (.istore 6, 2) := by decide +kernel
theorem d_Law_law_239 : decode code 239 = .ok (.aload_n 2, 1) := by decide +kernel
theorem d_Law_law_240 : decode code 240 = .ok (.aload_n 0, 1) := by decide +kernel
theorem d_Law_law_241 : decode code 241 = .ok (.iload 5, 2) := by decide +kernel
theorem d_Law_law_243 : decode code 243 = .ok (.iconst 1, 1) := by decide +kernel
theorem d_Law_law_244 : decode code 244 = .ok (.iadd, 1) := by decide +kernel
theorem d_Law_law_245 : decode code 245 = .ok (.iaload, 1) := by decide +kernel
theorem d_Law_law_246 : decode code 246 = .ok (.i2d, 1) := by decide +kernel
theorem d_Law_law_247 : decode code 247 = .ok (.ldc2_w 81, 3) := by decide +kernel
theorem d_Law_law_250 : decode code 250 = .ok (.dmul, 1) := by decide +kernel
theorem d_Law_law_251 : decode code 251 = .ok (.aload_n 0, 1) := by decide +kernel
theorem d_Law_law_252 : decode code 252 = .ok (.iload 5, 2) := by decide +kernel
theorem d_Law_law_254 : decode code 254 = .ok (.iconst 2, 1) := by decide +kernel
theorem d_Law_law_255 : decode code 255 = .ok (.iadd, 1) := by decide +kernel
theorem d_Law_law_256 : decode code 256 = .ok (.iaload, 1) := by decide +kernel
theorem d_Law_law_257 : decode code 257 = .ok (.i2d, 1) := by decide +kernel
theorem d_Law_law_258 : decode code 258 = .ok (.ldc2_w 81, 3) := by decide +kernel
theorem d_Law_law_261 : decode code 261 = .ok (.dmul, 1) := by decide +kernel
theorem d_Law_law_262 : decode code 262 = .ok (.aload_n 0, 1) := by decide +kernel
theorem d_Law_law_263 : decode code 263 = .ok (.iload 5, 2) := by decide +kernel
theorem d_Law_law_265 : decode code 265 = .ok (.iconst 3, 1) := by decide +kernel
theorem d_Law_law_266 : decode code 266 = .ok (.iadd, 1) := by decide +kernel
theorem d_Law_law_267 : decode code 267 = .ok (.iaload, 1) := by decide +kernel
theorem d_Law_law_268 : decode code 268 = .ok (.invokevirtual 86, 3) := by decide +kernel
theorem d_Law_law_271 : decode code 271 = .ok (.istore 7, 2) := by decide +kernel
theorem d_Law_law_273 : decode code 273 = .ok (.aload_n 2, 1) := by decide +kernel
theorem d_Law_law_274 : decode code 274 = .ok (.invokevirtual 78, 3) := by decide +kernel
theorem d_Law_law_277 : decode code 277 = .ok (.iload 6, 2) := by decide +kernel
theorem d_Law_law_279 : decode code 279 = .ok (.if_icmp .eq 5, 3) := by decide +kernel
theorem d_Law_law_282 : decode code 282 = .ok (.iconst 0, 1) := by decide +kernel
theorem d_Law_law_283 : decode code 283 = .ok (.ireturn, 1) := by decide +kernel
theorem d_Law_law_284 : decode code 284 = .ok (.iload 6, 2) := by decide +kernel
