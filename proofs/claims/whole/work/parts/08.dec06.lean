theorem dX9_spreads_194 : decode cX9_spreads 194 = .ok (.sipush 231, 3) := by decide +kernel
theorem dX9_spreads_197 : decode cX9_spreads 197 = .ok (.aload_n 0, 1) := by decide +kernel
theorem dX9_spreads_198 : decode cX9_spreads 198 = .ok (.getfield 52, 3) := by decide +kernel
theorem dX9_spreads_201 : decode cX9_spreads 201 = .ok (.aload_n 0, 1) := by decide +kernel
theorem dX9_spreads_202 : decode cX9_spreads 202 = .ok (.getfield 109, 3) := by decide +kernel
theorem dX9_spreads_205 : decode cX9_spreads 205 = .ok (.iconst 1, 1) := by decide +kernel
theorem dX9_spreads_206 : decode cX9_spreads 206 = .ok (.isub, 1) := by decide +kernel
theorem dX9_spreads_207 : decode cX9_spreads 207 = .ok (.iaload, 1) := by decide +kernel
theorem dX9_spreads_208 : decode cX9_spreads 208 = .ok (.iadd, 1) := by decide +kernel
theorem dX9_spreads_209 : decode cX9_spreads 209 = .ok (.invokevirtual 85, 3) := by decide +kernel
theorem dX9_spreads_212 : decode cX9_spreads 212 = .ok (.i2l, 1) := by decide +kernel
theorem dX9_spreads_213 : decode cX9_spreads 213 = .ok (.invokevirtual 153, 3) := by decide +kernel
theorem dX9_spreads_216 : decode cX9_spreads 216 = .ok (.iload_n 3, 1) := by decide +kernel
theorem dX9_spreads_217 : decode cX9_spreads 217 = .ok (.ireturn, 1) := by decide +kernel
theorem dX9_readsAct_0 : decode cX9_readsAct 0 = .ok (.iconst 4, 1) := by decide +kernel
theorem dX9_readsAct_1 : decode cX9_readsAct 1 = .ok (.iload_n 1, 1) := by decide +kernel
theorem dX9_readsAct_2 : decode cX9_readsAct 2 = .ok (.imul, 1) := by decide +kernel
theorem dX9_readsAct_3 : decode cX9_readsAct 3 = .ok (.istore_n 2, 1) := by decide +kernel
theorem dX9_readsAct_4 : decode cX9_readsAct 4 = .ok (.aload_n 0, 1) := by decide +kernel
theorem dX9_readsAct_5 : decode cX9_readsAct 5 = .ok (.bipush 115, 2) := by decide +kernel
theorem dX9_readsAct_7 : decode cX9_readsAct 7 = .ok (.invokevirtual 228, 3) := by decide +kernel
theorem dX9_readsAct_10 : decode cX9_readsAct 10 = .ok (.ifCond .eq 146, 3) := by decide +kernel
theorem dX9_readsAct_13 : decode cX9_readsAct 13 = .ok (.aload_n 0, 1) := by decide +kernel
theorem dX9_readsAct_14 : decode cX9_readsAct 14 = .ok (.getfield 64, 3) := by decide +kernel
theorem dX9_readsAct_17 : decode cX9_readsAct 17 = .ok (.iload_n 2, 1) := by decide +kernel
theorem dX9_readsAct_18 : decode cX9_readsAct 18 = .ok (.iconst 0, 1) := by decide +kernel
theorem dX9_readsAct_19 : decode cX9_readsAct 19 = .ok (.iastore, 1) := by decide +kernel
theorem dX9_readsAct_20 : decode cX9_readsAct 20 = .ok (.aload_n 0, 1) := by decide +kernel
theorem dX9_readsAct_21 : decode cX9_readsAct 21 = .ok (.getfield 64, 3) := by decide +kernel
theorem dX9_readsAct_24 : decode cX9_readsAct 24 = .ok (.iload_n 2, 1) := by decide +kernel
theorem dX9_readsAct_25 : decode cX9_readsAct 25 = .ok (.iconst 1, 1) := by decide +kernel
theorem dX9_readsAct_26 : decode cX9_readsAct 26 = .ok (.iadd, 1) := by decide +kernel
theorem dX9_readsAct_27 : decode cX9_readsAct 27 = .ok (.aload_n 0, 1) := by decide +kernel
theorem dX9_readsAct_28 : decode cX9_readsAct 28 = .ok (.iconst 4, 1) := by decide +kernel
theorem dX9_readsAct_29 : decode cX9_readsAct 29 = .ok (.iconst 1, 1) := by decide +kernel
theorem dX9_readsAct_30 : decode cX9_readsAct 30 = .ok (.sipush 9999, 3) := by decide +kernel
theorem dX9_readsAct_33 : decode cX9_readsAct 33 = .ok (.invokevirtual 231, 3) := by decide +kernel
theorem dX9_readsAct_36 : decode cX9_readsAct 36 = .ok (.iastore, 1) := by decide +kernel
theorem dX9_readsAct_37 : decode cX9_readsAct 37 = .ok (.aload_n 0, 1) := by decide +kernel
theorem dX9_readsAct_38 : decode cX9_readsAct 38 = .ok (.getfield 64, 3) := by decide +kernel
theorem dX9_readsAct_41 : decode cX9_readsAct 41 = .ok (.iload_n 2, 1) := by decide +kernel
theorem dX9_readsAct_42 : decode cX9_readsAct 42 = .ok (.iconst 1, 1) := by decide +kernel
theorem dX9_readsAct_43 : decode cX9_readsAct 43 = .ok (.iadd, 1) := by decide +kernel
theorem dX9_readsAct_44 : decode cX9_readsAct 44 = .ok (.iaload, 1) := by decide +kernel
theorem dX9_readsAct_45 : decode cX9_readsAct 45 = .ok (.ifCond .lt 12, 3) := by decide +kernel
theorem dX9_readsAct_48 : decode cX9_readsAct 48 = .ok (.aload_n 0, 1) := by decide +kernel
theorem dX9_readsAct_49 : decode cX9_readsAct 49 = .ok (.bipush 44, 2) := by decide +kernel
theorem dX9_readsAct_51 : decode cX9_readsAct 51 = .ok (.invokevirtual 228, 3) := by decide +kernel
theorem dX9_readsAct_54 : decode cX9_readsAct 54 = .ok (.ifCond .ne 5, 3) := by decide +kernel
theorem dX9_readsAct_57 : decode cX9_readsAct 57 = .ok (.iconst 0, 1) := by decide +kernel
theorem dX9_readsAct_58 : decode cX9_readsAct 58 = .ok (.ireturn, 1) := by decide +kernel
theorem dX9_readsAct_59 : decode cX9_readsAct 59 = .ok (.aload_n 0, 1) := by decide +kernel
theorem dX9_readsAct_60 : decode cX9_readsAct 60 = .ok (.getfield 64, 3) := by decide +kernel
theorem dX9_readsAct_63 : decode cX9_readsAct 63 = .ok (.iload_n 2, 1) := by decide +kernel
theorem dX9_readsAct_64 : decode cX9_readsAct 64 = .ok (.iconst 2, 1) := by decide +kernel
theorem dX9_readsAct_65 : decode cX9_readsAct 65 = .ok (.iadd, 1) := by decide +kernel
theorem dX9_readsAct_66 : decode cX9_readsAct 66 = .ok (.aload_n 0, 1) := by decide +kernel
theorem dX9_readsAct_67 : decode cX9_readsAct 67 = .ok (.iconst 1, 1) := by decide +kernel
theorem dX9_readsAct_68 : decode cX9_readsAct 68 = .ok (.iconst 0, 1) := by decide +kernel
theorem dX9_readsAct_69 : decode cX9_readsAct 69 = .ok (.iconst 3, 1) := by decide +kernel
theorem dX9_readsAct_70 : decode cX9_readsAct 70 = .ok (.invokevirtual 231, 3) := by decide +kernel
theorem dX9_readsAct_73 : decode cX9_readsAct 73 = .ok (.iastore, 1) := by decide +kernel
theorem dX9_readsAct_74 : decode cX9_readsAct 74 = .ok (.aload_n 0, 1) := by decide +kernel
theorem dX9_readsAct_75 : decode cX9_readsAct 75 = .ok (.getfield 64, 3) := by decide +kernel
theorem dX9_readsAct_78 : decode cX9_readsAct 78 = .ok (.iload_n 2, 1) := by decide +kernel
theorem dX9_readsAct_79 : decode cX9_readsAct 79 = .ok (.iconst 3, 1) := by decide +kernel
theorem dX9_readsAct_80 : decode cX9_readsAct 80 = .ok (.iadd, 1) := by decide +kernel
theorem dX9_readsAct_81 : decode cX9_readsAct 81 = .ok (.iconst 1, 1) := by decide +kernel
theorem dX9_readsAct_82 : decode cX9_readsAct 82 = .ok (.iastore, 1) := by decide +kernel
theorem dX9_readsAct_83 : decode cX9_readsAct 83 = .ok (.aload_n 0, 1) := by decide +kernel
theorem dX9_readsAct_84 : decode cX9_readsAct 84 = .ok (.getfield 64, 3) := by decide +kernel
theorem dX9_readsAct_87 : decode cX9_readsAct 87 = .ok (.iload_n 2, 1) := by decide +kernel
theorem dX9_readsAct_88 : decode cX9_readsAct 88 = .ok (.iconst 2, 1) := by decide +kernel
theorem dX9_readsAct_89 : decode cX9_readsAct 89 = .ok (.iadd, 1) := by decide +kernel
theorem dX9_readsAct_90 : decode cX9_readsAct 90 = .ok (.iaload, 1) := by decide +kernel
theorem dX9_readsAct_91 : decode cX9_readsAct 91 = .ok (.ifCond .gt 20, 3) := by decide +kernel
theorem dX9_readsAct_94 : decode cX9_readsAct 94 = .ok (.aload_n 0, 1) := by decide +kernel
theorem dX9_readsAct_95 : decode cX9_readsAct 95 = .ok (.getfield 64, 3) := by decide +kernel
theorem dX9_readsAct_98 : decode cX9_readsAct 98 = .ok (.iload_n 2, 1) := by decide +kernel
theorem dX9_readsAct_99 : decode cX9_readsAct 99 = .ok (.iconst 2, 1) := by decide +kernel
theorem dX9_readsAct_100 : decode cX9_readsAct 100 = .ok (.iadd, 1) := by decide +kernel
theorem dX9_readsAct_101 : decode cX9_readsAct 101 = .ok (.iaload, 1) := by decide +kernel
theorem dX9_readsAct_102 : decode cX9_readsAct 102 = .ok (.ifCond .ne 7, 3) := by decide +kernel
theorem dX9_readsAct_105 : decode cX9_readsAct 105 = .ok (.iconst 1, 1) := by decide +kernel
theorem dX9_readsAct_106 : decode cX9_readsAct 106 = .ok (.goto 4, 3) := by decide +kernel
theorem dX9_readsAct_109 : decode cX9_readsAct 109 = .ok (.iconst 0, 1) := by decide +kernel
theorem dX9_readsAct_110 : decode cX9_readsAct 110 = .ok (.ireturn, 1) := by decide +kernel
theorem dX9_readsAct_111 : decode cX9_readsAct 111 = .ok (.aload_n 0, 1) := by decide +kernel
theorem dX9_readsAct_112 : decode cX9_readsAct 112 = .ok (.bipush 44, 2) := by decide +kernel
theorem dX9_readsAct_114 : decode cX9_readsAct 114 = .ok (.invokevirtual 228, 3) := by decide +kernel
theorem dX9_readsAct_117 : decode cX9_readsAct 117 = .ok (.ifCond .ne 5, 3) := by decide +kernel
theorem dX9_readsAct_120 : decode cX9_readsAct 120 = .ok (.iconst 0, 1) := by decide +kernel
theorem dX9_readsAct_121 : decode cX9_readsAct 121 = .ok (.ireturn, 1) := by decide +kernel
theorem dX9_readsAct_122 : decode cX9_readsAct 122 = .ok (.aload_n 0, 1) := by decide +kernel
theorem dX9_readsAct_123 : decode cX9_readsAct 123 = .ok (.getfield 64, 3) := by decide +kernel
theorem dX9_readsAct_126 : decode cX9_readsAct 126 = .ok (.iload_n 2, 1) := by decide +kernel
theorem dX9_readsAct_127 : decode cX9_readsAct 127 = .ok (.iconst 3, 1) := by decide +kernel
theorem dX9_readsAct_128 : decode cX9_readsAct 128 = .ok (.iadd, 1) := by decide +kernel
theorem dX9_readsAct_129 : decode cX9_readsAct 129 = .ok (.aload_n 0, 1) := by decide +kernel
theorem dX9_readsAct_130 : decode cX9_readsAct 130 = .ok (.iconst 4, 1) := by decide +kernel
theorem dX9_readsAct_131 : decode cX9_readsAct 131 = .ok (.iconst 1, 1) := by decide +kernel
theorem dX9_readsAct_132 : decode cX9_readsAct 132 = .ok (.sipush 1000, 3) := by decide +kernel
theorem dX9_readsAct_135 : decode cX9_readsAct 135 = .ok (.invokevirtual 231, 3) := by decide +kernel
theorem dX9_readsAct_138 : decode cX9_readsAct 138 = .ok (.iastore, 1) := by decide +kernel
theorem dX9_readsAct_139 : decode cX9_readsAct 139 = .ok (.aload_n 0, 1) := by decide +kernel
theorem dX9_readsAct_140 : decode cX9_readsAct 140 = .ok (.getfield 64, 3) := by decide +kernel
theorem dX9_readsAct_143 : decode cX9_readsAct 143 = .ok (.iload_n 2, 1) := by decide +kernel
theorem dX9_readsAct_144 : decode cX9_readsAct 144 = .ok (.iconst 3, 1) := by decide +kernel
theorem dX9_readsAct_145 : decode cX9_readsAct 145 = .ok (.iadd, 1) := by decide +kernel
theorem dX9_readsAct_146 : decode cX9_readsAct 146 = .ok (.iaload, 1) := by decide +kernel
theorem dX9_readsAct_147 : decode cX9_readsAct 147 = .ok (.ifCond .le 7, 3) := by decide +kernel
theorem dX9_readsAct_150 : decode cX9_readsAct 150 = .ok (.iconst 1, 1) := by decide +kernel
theorem dX9_readsAct_151 : decode cX9_readsAct 151 = .ok (.goto 4, 3) := by decide +kernel
theorem dX9_readsAct_154 : decode cX9_readsAct 154 = .ok (.iconst 0, 1) := by decide +kernel
theorem dX9_readsAct_155 : decode cX9_readsAct 155 = .ok (.ireturn, 1) := by decide +kernel
theorem dX9_readsAct_156 : decode cX9_readsAct 156 = .ok (.aload_n 0, 1) := by decide +kernel
theorem dX9_readsAct_157 : decode cX9_readsAct 157 = .ok (.bipush 116, 2) := by decide +kernel
theorem dX9_readsAct_159 : decode cX9_readsAct 159 = .ok (.invokevirtual 228, 3) := by decide +kernel
theorem dX9_readsAct_162 : decode cX9_readsAct 162 = .ok (.ifCond .eq 43, 3) := by decide +kernel
theorem dX9_readsAct_165 : decode cX9_readsAct 165 = .ok (.aload_n 0, 1) := by decide +kernel
theorem dX9_readsAct_166 : decode cX9_readsAct 166 = .ok (.getfield 64, 3) := by decide +kernel
theorem dX9_readsAct_169 : decode cX9_readsAct 169 = .ok (.iload_n 2, 1) := by decide +kernel
theorem dX9_readsAct_170 : decode cX9_readsAct 170 = .ok (.iconst 1, 1) := by decide +kernel
theorem dX9_readsAct_171 : decode cX9_readsAct 171 = .ok (.iastore, 1) := by decide +kernel
theorem dX9_readsAct_172 : decode cX9_readsAct 172 = .ok (.aload_n 0, 1) := by decide +kernel
theorem dX9_readsAct_173 : decode cX9_readsAct 173 = .ok (.getfield 64, 3) := by decide +kernel
theorem dX9_readsAct_176 : decode cX9_readsAct 176 = .ok (.iload_n 2, 1) := by decide +kernel
theorem dX9_readsAct_177 : decode cX9_readsAct 177 = .ok (.iconst 1, 1) := by decide +kernel
theorem dX9_readsAct_178 : decode cX9_readsAct 178 = .ok (.iadd, 1) := by decide +kernel
theorem dX9_readsAct_179 : decode cX9_readsAct 179 = .ok (.aload_n 0, 1) := by decide +kernel
theorem dX9_readsAct_180 : decode cX9_readsAct 180 = .ok (.iconst 1, 1) := by decide +kernel
theorem dX9_readsAct_181 : decode cX9_readsAct 181 = .ok (.iconst 1, 1) := by decide +kernel
theorem dX9_readsAct_182 : decode cX9_readsAct 182 = .ok (.bipush 9, 2) := by decide +kernel
theorem dX9_readsAct_184 : decode cX9_readsAct 184 = .ok (.invokevirtual 231, 3) := by decide +kernel
theorem dX9_readsAct_187 : decode cX9_readsAct 187 = .ok (.iastore, 1) := by decide +kernel
theorem dX9_readsAct_188 : decode cX9_readsAct 188 = .ok (.aload_n 0, 1) := by decide +kernel
theorem dX9_readsAct_189 : decode cX9_readsAct 189 = .ok (.getfield 64, 3) := by decide +kernel
theorem dX9_readsAct_192 : decode cX9_readsAct 192 = .ok (.iload_n 2, 1) := by decide +kernel
theorem dX9_readsAct_193 : decode cX9_readsAct 193 = .ok (.iconst 1, 1) := by decide +kernel
theorem dX9_readsAct_194 : decode cX9_readsAct 194 = .ok (.iadd, 1) := by decide +kernel
theorem dX9_readsAct_195 : decode cX9_readsAct 195 = .ok (.iaload, 1) := by decide +kernel
theorem dX9_readsAct_196 : decode cX9_readsAct 196 = .ok (.ifCond .le 7, 3) := by decide +kernel
theorem dX9_readsAct_199 : decode cX9_readsAct 199 = .ok (.iconst 1, 1) := by decide +kernel
theorem dX9_readsAct_200 : decode cX9_readsAct 200 = .ok (.goto 4, 3) := by decide +kernel
theorem dX9_readsAct_203 : decode cX9_readsAct 203 = .ok (.iconst 0, 1) := by decide +kernel
theorem dX9_readsAct_204 : decode cX9_readsAct 204 = .ok (.ireturn, 1) := by decide +kernel
theorem dX9_readsAct_205 : decode cX9_readsAct 205 = .ok (.aload_n 0, 1) := by decide +kernel
theorem dX9_readsAct_206 : decode cX9_readsAct 206 = .ok (.bipush 108, 2) := by decide +kernel
theorem dX9_readsAct_208 : decode cX9_readsAct 208 = .ok (.invokevirtual 228, 3) := by decide +kernel
theorem dX9_readsAct_211 : decode cX9_readsAct 211 = .ok (.ifCond .eq 59, 3) := by decide +kernel
theorem dX9_readsAct_214 : decode cX9_readsAct 214 = .ok (.aload_n 0, 1) := by decide +kernel
theorem dX9_readsAct_215 : decode cX9_readsAct 215 = .ok (.getfield 64, 3) := by decide +kernel
theorem dX9_readsAct_218 : decode cX9_readsAct 218 = .ok (.iload_n 2, 1) := by decide +kernel
theorem dX9_readsAct_219 : decode cX9_readsAct 219 = .ok (.iconst 2, 1) := by decide +kernel
theorem dX9_readsAct_220 : decode cX9_readsAct 220 = .ok (.iastore, 1) := by decide +kernel
theorem dX9_readsAct_221 : decode cX9_readsAct 221 = .ok (.aload_n 0, 1) := by decide +kernel
theorem dX9_readsAct_222 : decode cX9_readsAct 222 = .ok (.bipush 45, 2) := by decide +kernel
theorem dX9_readsAct_224 : decode cX9_readsAct 224 = .ok (.invokevirtual 228, 3) := by decide +kernel
theorem dX9_readsAct_227 : decode cX9_readsAct 227 = .ok (.istore_n 3, 1) := by decide +kernel
theorem dX9_readsAct_228 : decode cX9_readsAct 228 = .ok (.aload_n 0, 1) := by decide +kernel
theorem dX9_readsAct_229 : decode cX9_readsAct 229 = .ok (.iconst 4, 1) := by decide +kernel
theorem dX9_readsAct_230 : decode cX9_readsAct 230 = .ok (.iconst 1, 1) := by decide +kernel
theorem dX9_readsAct_231 : decode cX9_readsAct 231 = .ok (.sipush 9999, 3) := by decide +kernel
theorem dX9_readsAct_234 : decode cX9_readsAct 234 = .ok (.invokevirtual 231, 3) := by decide +kernel
theorem dX9_readsAct_237 : decode cX9_readsAct 237 = .ok (.istore 4, 2) := by decide +kernel
theorem dX9_readsAct_239 : decode cX9_readsAct 239 = .ok (.aload_n 0, 1) := by decide +kernel
theorem dX9_readsAct_240 : decode cX9_readsAct 240 = .ok (.getfield 64, 3) := by decide +kernel
theorem dX9_readsAct_243 : decode cX9_readsAct 243 = .ok (.iload_n 2, 1) := by decide +kernel
theorem dX9_readsAct_244 : decode cX9_readsAct 244 = .ok (.iconst 1, 1) := by decide +kernel
theorem dX9_readsAct_245 : decode cX9_readsAct 245 = .ok (.iadd, 1) := by decide +kernel
theorem dX9_readsAct_246 : decode cX9_readsAct 246 = .ok (.iload_n 3, 1) := by decide +kernel
theorem dX9_readsAct_247 : decode cX9_readsAct 247 = .ok (.ifCond .eq 9, 3) := by decide +kernel
theorem dX9_readsAct_250 : decode cX9_readsAct 250 = .ok (.iload 4, 2) := by decide +kernel
theorem dX9_readsAct_252 : decode cX9_readsAct 252 = .ok (.ineg, 1) := by decide +kernel
theorem dX9_readsAct_253 : decode cX9_readsAct 253 = .ok (.goto 5, 3) := by decide +kernel
theorem dX9_readsAct_256 : decode cX9_readsAct 256 = .ok (.iload 4, 2) := by decide +kernel
theorem dX9_readsAct_258 : decode cX9_readsAct 258 = .ok (.iastore, 1) := by decide +kernel
theorem dX9_readsAct_259 : decode cX9_readsAct 259 = .ok (.iload 4, 2) := by decide +kernel
theorem dX9_readsAct_261 : decode cX9_readsAct 261 = .ok (.ifCond .le 7, 3) := by decide +kernel
theorem dX9_readsAct_264 : decode cX9_readsAct 264 = .ok (.iconst 1, 1) := by decide +kernel
theorem dX9_readsAct_265 : decode cX9_readsAct 265 = .ok (.goto 4, 3) := by decide +kernel
theorem dX9_readsAct_268 : decode cX9_readsAct 268 = .ok (.iconst 0, 1) := by decide +kernel
theorem dX9_readsAct_269 : decode cX9_readsAct 269 = .ok (.ireturn, 1) := by decide +kernel
theorem dX9_readsAct_270 : decode cX9_readsAct 270 = .ok (.aload_n 0, 1) := by decide +kernel
theorem dX9_readsAct_271 : decode cX9_readsAct 271 = .ok (.bipush 99, 2) := by decide +kernel
theorem dX9_readsAct_273 : decode cX9_readsAct 273 = .ok (.invokevirtual 228, 3) := by decide +kernel
theorem dX9_readsAct_276 : decode cX9_readsAct 276 = .ok (.ifCond .eq 43, 3) := by decide +kernel
theorem dX9_readsAct_279 : decode cX9_readsAct 279 = .ok (.aload_n 0, 1) := by decide +kernel
theorem dX9_readsAct_280 : decode cX9_readsAct 280 = .ok (.getfield 64, 3) := by decide +kernel
theorem dX9_readsAct_283 : decode cX9_readsAct 283 = .ok (.iload_n 2, 1) := by decide +kernel
theorem dX9_readsAct_284 : decode cX9_readsAct 284 = .ok (.iconst 3, 1) := by decide +kernel
theorem dX9_readsAct_285 : decode cX9_readsAct 285 = .ok (.iastore, 1) := by decide +kernel
theorem dX9_readsAct_286 : decode cX9_readsAct 286 = .ok (.aload_n 0, 1) := by decide +kernel
theorem dX9_readsAct_287 : decode cX9_readsAct 287 = .ok (.getfield 64, 3) := by decide +kernel
theorem dX9_readsAct_290 : decode cX9_readsAct 290 = .ok (.iload_n 2, 1) := by decide +kernel
theorem dX9_readsAct_291 : decode cX9_readsAct 291 = .ok (.iconst 1, 1) := by decide +kernel
theorem dX9_readsAct_292 : decode cX9_readsAct 292 = .ok (.iadd, 1) := by decide +kernel
theorem dX9_readsAct_293 : decode cX9_readsAct 293 = .ok (.aload_n 0, 1) := by decide +kernel
theorem dX9_readsAct_294 : decode cX9_readsAct 294 = .ok (.iconst 2, 1) := by decide +kernel
theorem dX9_readsAct_295 : decode cX9_readsAct 295 = .ok (.iconst 0, 1) := by decide +kernel
theorem dX9_readsAct_296 : decode cX9_readsAct 296 = .ok (.bipush 99, 2) := by decide +kernel
theorem dX9_readsAct_298 : decode cX9_readsAct 298 = .ok (.invokevirtual 231, 3) := by decide +kernel
theorem dX9_readsAct_301 : decode cX9_readsAct 301 = .ok (.iastore, 1) := by decide +kernel
theorem dX9_readsAct_302 : decode cX9_readsAct 302 = .ok (.aload_n 0, 1) := by decide +kernel
theorem dX9_readsAct_303 : decode cX9_readsAct 303 = .ok (.getfield 64, 3) := by decide +kernel
theorem dX9_readsAct_306 : decode cX9_readsAct 306 = .ok (.iload_n 2, 1) := by decide +kernel
theorem dX9_readsAct_307 : decode cX9_readsAct 307 = .ok (.iconst 1, 1) := by decide +kernel
theorem dX9_readsAct_308 : decode cX9_readsAct 308 = .ok (.iadd, 1) := by decide +kernel
theorem dX9_readsAct_309 : decode cX9_readsAct 309 = .ok (.iaload, 1) := by decide +kernel
theorem dX9_readsAct_310 : decode cX9_readsAct 310 = .ok (.ifCond .lt 7, 3) := by decide +kernel
theorem dX9_readsAct_313 : decode cX9_readsAct 313 = .ok (.iconst 1, 1) := by decide +kernel
theorem dX9_readsAct_314 : decode cX9_readsAct 314 = .ok (.goto 4, 3) := by decide +kernel
theorem dX9_readsAct_317 : decode cX9_readsAct 317 = .ok (.iconst 0, 1) := by decide +kernel
theorem dX9_readsAct_318 : decode cX9_readsAct 318 = .ok (.ireturn, 1) := by decide +kernel
theorem dX9_readsAct_319 : decode cX9_readsAct 319 = .ok (.iconst 0, 1) := by decide +kernel
theorem dX9_readsAct_320 : decode cX9_readsAct 320 = .ok (.ireturn, 1) := by decide +kernel
theorem dX9_doesAct_0 : decode cX9_doesAct 0 = .ok (.iconst 4, 1) := by decide +kernel
theorem dX9_doesAct_1 : decode cX9_doesAct 1 = .ok (.iload_n 1, 1) := by decide +kernel
theorem dX9_doesAct_2 : decode cX9_doesAct 2 = .ok (.imul, 1) := by decide +kernel
theorem dX9_doesAct_3 : decode cX9_doesAct 3 = .ok (.istore_n 2, 1) := by decide +kernel
theorem dX9_doesAct_4 : decode cX9_doesAct 4 = .ok (.aload_n 0, 1) := by decide +kernel
theorem dX9_doesAct_5 : decode cX9_doesAct 5 = .ok (.iconst 0, 1) := by decide +kernel
theorem dX9_doesAct_6 : decode cX9_doesAct 6 = .ok (.putfield 129, 3) := by decide +kernel
theorem dX9_doesAct_9 : decode cX9_doesAct 9 = .ok (.aload_n 0, 1) := by decide +kernel
theorem dX9_doesAct_10 : decode cX9_doesAct 10 = .ok (.getfield 64, 3) := by decide +kernel
theorem dX9_doesAct_13 : decode cX9_doesAct 13 = .ok (.iload_n 2, 1) := by decide +kernel
theorem dX9_doesAct_14 : decode cX9_doesAct 14 = .ok (.iaload, 1) := by decide +kernel
theorem dX9_doesAct_15 : decode cX9_doesAct 15 = .ok (.tableswitch 82 0 2 #[25, 56, 69], 25) := by decide +kernel
theorem dX9_doesAct_40 : decode cX9_doesAct 40 = .ok (.aload_n 0, 1) := by decide +kernel
theorem dX9_doesAct_41 : decode cX9_doesAct 41 = .ok (.aload_n 0, 1) := by decide +kernel
theorem dX9_doesAct_42 : decode cX9_doesAct 42 = .ok (.getfield 64, 3) := by decide +kernel
theorem dX9_doesAct_45 : decode cX9_doesAct 45 = .ok (.iload_n 2, 1) := by decide +kernel
theorem dX9_doesAct_46 : decode cX9_doesAct 46 = .ok (.iconst 1, 1) := by decide +kernel
theorem dX9_doesAct_47 : decode cX9_doesAct 47 = .ok (.iadd, 1) := by decide +kernel
theorem dX9_doesAct_48 : decode cX9_doesAct 48 = .ok (.iaload, 1) := by decide +kernel
theorem dX9_doesAct_49 : decode cX9_doesAct 49 = .ok (.iconst 0, 1) := by decide +kernel
theorem dX9_doesAct_50 : decode cX9_doesAct 50 = .ok (.aload_n 0, 1) := by decide +kernel
theorem dX9_doesAct_51 : decode cX9_doesAct 51 = .ok (.getfield 64, 3) := by decide +kernel
theorem dX9_doesAct_54 : decode cX9_doesAct 54 = .ok (.iload_n 2, 1) := by decide +kernel
theorem dX9_doesAct_55 : decode cX9_doesAct 55 = .ok (.iconst 2, 1) := by decide +kernel
theorem dX9_doesAct_56 : decode cX9_doesAct 56 = .ok (.iadd, 1) := by decide +kernel
theorem dX9_doesAct_57 : decode cX9_doesAct 57 = .ok (.iaload, 1) := by decide +kernel
theorem dX9_doesAct_58 : decode cX9_doesAct 58 = .ok (.aload_n 0, 1) := by decide +kernel
theorem dX9_doesAct_59 : decode cX9_doesAct 59 = .ok (.getfield 64, 3) := by decide +kernel
theorem dX9_doesAct_62 : decode cX9_doesAct 62 = .ok (.iload_n 2, 1) := by decide +kernel
theorem dX9_doesAct_63 : decode cX9_doesAct 63 = .ok (.iconst 3, 1) := by decide +kernel
theorem dX9_doesAct_64 : decode cX9_doesAct 64 = .ok (.iadd, 1) := by decide +kernel
theorem dX9_doesAct_65 : decode cX9_doesAct 65 = .ok (.iaload, 1) := by decide +kernel
theorem dX9_doesAct_66 : decode cX9_doesAct 66 = .ok (.iconst 0, 1) := by decide +kernel
theorem dX9_doesAct_67 : decode cX9_doesAct 67 = .ok (.invokevirtual 209, 3) := by decide +kernel
theorem dX9_doesAct_70 : decode cX9_doesAct 70 = .ok (.ireturn, 1) := by decide +kernel
theorem dX9_doesAct_71 : decode cX9_doesAct 71 = .ok (.aload_n 0, 1) := by decide +kernel
theorem dX9_doesAct_72 : decode cX9_doesAct 72 = .ok (.aload_n 0, 1) := by decide +kernel
theorem dX9_doesAct_73 : decode cX9_doesAct 73 = .ok (.getfield 64, 3) := by decide +kernel
theorem dX9_doesAct_76 : decode cX9_doesAct 76 = .ok (.iload_n 2, 1) := by decide +kernel
theorem dX9_doesAct_77 : decode cX9_doesAct 77 = .ok (.iconst 1, 1) := by decide +kernel
theorem dX9_doesAct_78 : decode cX9_doesAct 78 = .ok (.iadd, 1) := by decide +kernel
theorem dX9_doesAct_79 : decode cX9_doesAct 79 = .ok (.iaload, 1) := by decide +kernel
theorem dX9_doesAct_80 : decode cX9_doesAct 80 = .ok (.invokevirtual 185, 3) := by decide +kernel
theorem dX9_doesAct_83 : decode cX9_doesAct 83 = .ok (.ireturn, 1) := by decide +kernel
theorem dX9_doesAct_84 : decode cX9_doesAct 84 = .ok (.aload_n 0, 1) := by decide +kernel
theorem dX9_doesAct_85 : decode cX9_doesAct 85 = .ok (.aload_n 0, 1) := by decide +kernel
theorem dX9_doesAct_86 : decode cX9_doesAct 86 = .ok (.getfield 64, 3) := by decide +kernel
theorem dX9_doesAct_89 : decode cX9_doesAct 89 = .ok (.iload_n 2, 1) := by decide +kernel
theorem dX9_doesAct_90 : decode cX9_doesAct 90 = .ok (.iconst 1, 1) := by decide +kernel
theorem dX9_doesAct_91 : decode cX9_doesAct 91 = .ok (.iadd, 1) := by decide +kernel
theorem dX9_doesAct_92 : decode cX9_doesAct 92 = .ok (.iaload, 1) := by decide +kernel
theorem dX9_doesAct_93 : decode cX9_doesAct 93 = .ok (.invokevirtual 198, 3) := by decide +kernel
theorem dX9_doesAct_96 : decode cX9_doesAct 96 = .ok (.ireturn, 1) := by decide +kernel
theorem dX9_doesAct_97 : decode cX9_doesAct 97 = .ok (.aload_n 0, 1) := by decide +kernel
theorem dX9_doesAct_98 : decode cX9_doesAct 98 = .ok (.aload_n 0, 1) := by decide +kernel
theorem dX9_doesAct_99 : decode cX9_doesAct 99 = .ok (.getfield 64, 3) := by decide +kernel
theorem dX9_doesAct_102 : decode cX9_doesAct 102 = .ok (.iload_n 2, 1) := by decide +kernel
theorem dX9_doesAct_103 : decode cX9_doesAct 103 = .ok (.iconst 1, 1) := by decide +kernel
theorem dX9_doesAct_104 : decode cX9_doesAct 104 = .ok (.iadd, 1) := by decide +kernel
theorem dX9_doesAct_105 : decode cX9_doesAct 105 = .ok (.iaload, 1) := by decide +kernel
theorem dX9_doesAct_106 : decode cX9_doesAct 106 = .ok (.invokevirtual 216, 3) := by decide +kernel
theorem dX9_doesAct_109 : decode cX9_doesAct 109 = .ok (.ireturn, 1) := by decide +kernel
theorem dX9_run_0 : decode cX9_run 0 = .ok (.aload_n 0, 1) := by decide +kernel
theorem dX9_run_1 : decode cX9_run 1 = .ok (.iconst 0, 1) := by decide +kernel
theorem dX9_run_2 : decode cX9_run 2 = .ok (.putfield 1, 3) := by decide +kernel
theorem dX9_run_5 : decode cX9_run 5 = .ok (.aload_n 0, 1) := by decide +kernel
theorem dX9_run_6 : decode cX9_run 6 = .ok (.aload_n 0, 1) := by decide +kernel
theorem dX9_run_7 : decode cX9_run 7 = .ok (.getfield 14, 3) := by decide +kernel
theorem dX9_run_10 : decode cX9_run 10 = .ok (.putfield 28, 3) := by decide +kernel
theorem dX9_run_13 : decode cX9_run 13 = .ok (.aload_n 0, 1) := by decide +kernel
theorem dX9_run_14 : decode cX9_run 14 = .ok (.iconst 0, 1) := by decide +kernel
theorem dX9_run_15 : decode cX9_run 15 = .ok (.putfield 14, 3) := by decide +kernel
theorem dX9_run_18 : decode cX9_run 18 = .ok (.aload_n 0, 1) := by decide +kernel
theorem dX9_run_19 : decode cX9_run 19 = .ok (.iconst 0, 1) := by decide +kernel
theorem dX9_run_20 : decode cX9_run 20 = .ok (.putfield 25, 3) := by decide +kernel
theorem dX9_run_23 : decode cX9_run 23 = .ok (.iconst 0, 1) := by decide +kernel
theorem dX9_run_24 : decode cX9_run 24 = .ok (.istore_n 1, 1) := by decide +kernel
theorem dX9_run_25 : decode cX9_run 25 = .ok (.aload_n 0, 1) := by decide +kernel
theorem dX9_run_26 : decode cX9_run 26 = .ok (.getfield 25, 3) := by decide +kernel
theorem dX9_run_29 : decode cX9_run 29 = .ok (.aload_n 0, 1) := by decide +kernel
theorem dX9_run_30 : decode cX9_run 30 = .ok (.getfield 28, 3) := by decide +kernel
theorem dX9_run_33 : decode cX9_run 33 = .ok (.if_icmp .ge 37, 3) := by decide +kernel
theorem dX9_run_36 : decode cX9_run 36 = .ok (.iload_n 1, 1) := by decide +kernel
theorem dX9_run_37 : decode cX9_run 37 = .ok (.ifCond .le 12, 3) := by decide +kernel
theorem dX9_run_40 : decode cX9_run 40 = .ok (.aload_n 0, 1) := by decide +kernel
theorem dX9_run_41 : decode cX9_run 41 = .ok (.bipush 59, 2) := by decide +kernel
theorem dX9_run_43 : decode cX9_run 43 = .ok (.invokevirtual 228, 3) := by decide +kernel
theorem dX9_run_46 : decode cX9_run 46 = .ok (.ifCond .eq 11, 3) := by decide +kernel
theorem dX9_run_49 : decode cX9_run 49 = .ok (.aload_n 0, 1) := by decide +kernel
theorem dX9_run_50 : decode cX9_run 50 = .ok (.iload_n 1, 1) := by decide +kernel
theorem dX9_run_51 : decode cX9_run 51 = .ok (.invokevirtual 235, 3) := by decide +kernel
theorem dX9_run_54 : decode cX9_run 54 = .ok (.ifCond .ne 10, 3) := by decide +kernel
theorem dX9_run_57 : decode cX9_run 57 = .ok (.iconst (-1), 1) := by decide +kernel
theorem dX9_run_58 : decode cX9_run 58 = .ok (.aload_n 0, 1) := by decide +kernel
theorem dX9_run_59 : decode cX9_run 59 = .ok (.getfield 25, 3) := by decide +kernel
theorem dX9_run_62 : decode cX9_run 62 = .ok (.isub, 1) := by decide +kernel
theorem dX9_run_63 : decode cX9_run 63 = .ok (.ireturn, 1) := by decide +kernel
theorem dX9_run_64 : decode cX9_run 64 = .ok (.iinc 1 1, 3) := by decide +kernel
theorem dX9_run_67 : decode cX9_run 67 = .ok (.goto (-42), 3) := by decide +kernel
theorem dX9_run_70 : decode cX9_run 70 = .ok (.iconst 0, 1) := by decide +kernel
theorem dX9_run_71 : decode cX9_run 71 = .ok (.istore_n 2, 1) := by decide +kernel
theorem dX9_run_72 : decode cX9_run 72 = .ok (.iconst 0, 1) := by decide +kernel
theorem dX9_run_73 : decode cX9_run 73 = .ok (.istore_n 3, 1) := by decide +kernel
theorem dX9_run_74 : decode cX9_run 74 = .ok (.iconst 1, 1) := by decide +kernel
theorem dX9_run_75 : decode cX9_run 75 = .ok (.istore 4, 2) := by decide +kernel
theorem dX9_run_77 : decode cX9_run 77 = .ok (.iload_n 2, 1) := by decide +kernel
theorem dX9_run_78 : decode cX9_run 78 = .ok (.iload_n 1, 1) := by decide +kernel
theorem dX9_run_79 : decode cX9_run 79 = .ok (.if_icmp .ge 50, 3) := by decide +kernel
theorem dX9_run_82 : decode cX9_run 82 = .ok (.iload 4, 2) := by decide +kernel
theorem dX9_run_84 : decode cX9_run 84 = .ok (.ifCond .eq 45, 3) := by decide +kernel
theorem dX9_run_87 : decode cX9_run 87 = .ok (.aload_n 0, 1) := by decide +kernel
theorem dX9_run_88 : decode cX9_run 88 = .ok (.iload_n 2, 1) := by decide +kernel
theorem dX9_run_89 : decode cX9_run 89 = .ok (.invokevirtual 238, 3) := by decide +kernel
theorem dX9_run_92 : decode cX9_run 92 = .ok (.ifCond .lt 7, 3) := by decide +kernel
theorem dX9_run_95 : decode cX9_run 95 = .ok (.iconst 1, 1) := by decide +kernel
theorem dX9_run_96 : decode cX9_run 96 = .ok (.goto 4, 3) := by decide +kernel
theorem dX9_run_99 : decode cX9_run 99 = .ok (.iconst 0, 1) := by decide +kernel
theorem dX9_run_100 : decode cX9_run 100 = .ok (.istore 4, 2) := by decide +kernel
theorem dX9_run_102 : decode cX9_run 102 = .ok (.iload_n 3, 1) := by decide +kernel
theorem dX9_run_103 : decode cX9_run 103 = .ok (.iload 4, 2) := by decide +kernel
theorem dX9_run_105 : decode cX9_run 105 = .ok (.ifCond .eq 10, 3) := by decide +kernel
theorem dX9_run_108 : decode cX9_run 108 = .ok (.aload_n 0, 1) := by decide +kernel
theorem dX9_run_109 : decode cX9_run 109 = .ok (.getfield 129, 3) := by decide +kernel
theorem dX9_run_112 : decode cX9_run 112 = .ok (.goto 4, 3) := by decide +kernel
theorem dX9_run_115 : decode cX9_run 115 = .ok (.iconst 0, 1) := by decide +kernel
theorem dX9_run_116 : decode cX9_run 116 = .ok (.iadd, 1) := by decide +kernel
theorem dX9_run_117 : decode cX9_run 117 = .ok (.istore_n 3, 1) := by decide +kernel
theorem dX9_run_118 : decode cX9_run 118 = .ok (.iload_n 2, 1) := by decide +kernel
theorem dX9_run_119 : decode cX9_run 119 = .ok (.iload 4, 2) := by decide +kernel
theorem dX9_run_121 : decode cX9_run 121 = .ok (.invokestatic 31, 3) := by decide +kernel
theorem dX9_run_124 : decode cX9_run 124 = .ok (.iadd, 1) := by decide +kernel
theorem dX9_run_125 : decode cX9_run 125 = .ok (.istore_n 2, 1) := by decide +kernel
theorem dX9_run_126 : decode cX9_run 126 = .ok (.goto (-49), 3) := by decide +kernel
theorem dX9_run_129 : decode cX9_run 129 = .ok (.aload_n 0, 1) := by decide +kernel
theorem dX9_run_130 : decode cX9_run 130 = .ok (.iconst 0, 1) := by decide +kernel
theorem dX9_run_131 : decode cX9_run 131 = .ok (.putfield 11, 3) := by decide +kernel
theorem dX9_run_134 : decode cX9_run 134 = .ok (.aload_n 0, 1) := by decide +kernel
theorem dX9_run_135 : decode cX9_run 135 = .ok (.iload_n 2, 1) := by decide +kernel
theorem dX9_run_136 : decode cX9_run 136 = .ok (.iload_n 1, 1) := by decide +kernel
theorem dX9_run_137 : decode cX9_run 137 = .ok (.if_icmp .ge 7, 3) := by decide +kernel
theorem dX9_run_140 : decode cX9_run 140 = .ok (.iconst 1, 1) := by decide +kernel
theorem dX9_run_141 : decode cX9_run 141 = .ok (.goto 4, 3) := by decide +kernel
theorem dX9_run_144 : decode cX9_run 144 = .ok (.iconst 0, 1) := by decide +kernel
theorem dX9_run_145 : decode cX9_run 145 = .ok (.invokestatic 31, 3) := by decide +kernel
theorem dX9_run_148 : decode cX9_run 148 = .ok (.i2l, 1) := by decide +kernel
theorem dX9_run_149 : decode cX9_run 149 = .ok (.invokevirtual 153, 3) := by decide +kernel
theorem dX9_run_152 : decode cX9_run 152 = .ok (.aload_n 0, 1) := by decide +kernel
theorem dX9_run_153 : decode cX9_run 153 = .ok (.iload_n 3, 1) := by decide +kernel
theorem dX9_run_154 : decode cX9_run 154 = .ok (.i2l, 1) := by decide +kernel
theorem dX9_run_155 : decode cX9_run 155 = .ok (.invokevirtual 153, 3) := by decide +kernel
theorem dX9_run_158 : decode cX9_run 158 = .ok (.iload_n 2, 1) := by decide +kernel
theorem dX9_run_159 : decode cX9_run 159 = .ok (.ireturn, 1) := by decide +kernel
theorem dX9_timer_0 : decode cX9_timer 0 = .ok (.aload_n 0, 1) := by decide +kernel
theorem dX9_timer_1 : decode cX9_timer 1 = .ok (.aload_n 0, 1) := by decide +kernel
theorem dX9_timer_2 : decode cX9_timer 2 = .ok (.iload_n 1, 1) := by decide +kernel
theorem dX9_timer_3 : decode cX9_timer 3 = .ok (.invokevirtual 89, 3) := by decide +kernel
theorem dX9_timer_6 : decode cX9_timer 6 = .ok (.ifCond .eq 15, 3) := by decide +kernel
theorem dX9_timer_9 : decode cX9_timer 9 = .ok (.iload_n 2, 1) := by decide +kernel
theorem dX9_timer_10 : decode cX9_timer 10 = .ok (.i2l, 1) := by decide +kernel
theorem dX9_timer_11 : decode cX9_timer 11 = .ok (.lconst 0, 1) := by decide +kernel
theorem dX9_timer_12 : decode cX9_timer 12 = .ok (.ldc2_w 241, 3) := by decide +kernel
theorem dX9_timer_15 : decode cX9_timer 15 = .ok (.invokestatic 21, 3) := by decide +kernel
theorem dX9_timer_18 : decode cX9_timer 18 = .ok (.ifCond .ne 7, 3) := by decide +kernel
theorem dX9_timer_21 : decode cX9_timer 21 = .ok (.iconst 1, 1) := by decide +kernel
theorem dX9_timer_22 : decode cX9_timer 22 = .ok (.goto 4, 3) := by decide +kernel
theorem dX9_timer_25 : decode cX9_timer 25 = .ok (.iconst 0, 1) := by decide +kernel
theorem dX9_timer_26 : decode cX9_timer 26 = .ok (.invokestatic 31, 3) := by decide +kernel
theorem dX9_timer_29 : decode cX9_timer 29 = .ok (.putfield 1, 3) := by decide +kernel
theorem dX9_timer_32 : decode cX9_timer 32 = .ok (.aload_n 0, 1) := by decide +kernel
theorem dX9_timer_33 : decode cX9_timer 33 = .ok (.getfield 1, 3) := by decide +kernel
theorem dX9_timer_36 : decode cX9_timer 36 = .ok (.iconst 1, 1) := by decide +kernel
theorem dX9_timer_37 : decode cX9_timer 37 = .ok (.if_icmp .ne 5, 3) := by decide +kernel
theorem dX9_timer_40 : decode cX9_timer 40 = .ok (.iconst 0, 1) := by decide +kernel
theorem dX9_timer_41 : decode cX9_timer 41 = .ok (.ireturn, 1) := by decide +kernel
theorem dX9_timer_42 : decode cX9_timer 42 = .ok (.aload_n 0, 1) := by decide +kernel
theorem dX9_timer_43 : decode cX9_timer 43 = .ok (.sipush 343, 3) := by decide +kernel
theorem dX9_timer_46 : decode cX9_timer 46 = .ok (.iload_n 1, 1) := by decide +kernel
theorem dX9_timer_47 : decode cX9_timer 47 = .ok (.iadd, 1) := by decide +kernel
theorem dX9_timer_48 : decode cX9_timer 48 = .ok (.invokevirtual 85, 3) := by decide +kernel
theorem dX9_timer_51 : decode cX9_timer 51 = .ok (.iconst 1, 1) := by decide +kernel
theorem dX9_timer_52 : decode cX9_timer 52 = .ok (.if_icmp .ne 7, 3) := by decide +kernel
theorem dX9_timer_55 : decode cX9_timer 55 = .ok (.iconst 1, 1) := by decide +kernel
theorem dX9_timer_56 : decode cX9_timer 56 = .ok (.goto 4, 3) := by decide +kernel
theorem dX9_timer_59 : decode cX9_timer 59 = .ok (.iconst 0, 1) := by decide +kernel
theorem dX9_timer_60 : decode cX9_timer 60 = .ok (.istore_n 3, 1) := by decide +kernel
theorem dX9_timer_61 : decode cX9_timer 61 = .ok (.iload_n 2, 1) := by decide +kernel
theorem dX9_timer_62 : decode cX9_timer 62 = .ok (.tableswitch 195 0 9 #[54, 87, 106, 125, 135, 145, 155, 165, 175, 185], 54) := by decide +kernel
theorem dX9_timer_116 : decode cX9_timer 116 = .ok (.iload_n 3, 1) := by decide +kernel
theorem dX9_timer_117 : decode cX9_timer 117 = .ok (.ifCond .eq 22, 3) := by decide +kernel
theorem dX9_timer_120 : decode cX9_timer 120 = .ok (.aload_n 0, 1) := by decide +kernel
theorem dX9_timer_121 : decode cX9_timer 121 = .ok (.bipush 6, 2) := by decide +kernel
theorem dX9_timer_123 : decode cX9_timer 123 = .ok (.invokevirtual 85, 3) := by decide +kernel
theorem dX9_timer_126 : decode cX9_timer 126 = .ok (.aload_n 0, 1) := by decide +kernel
theorem dX9_timer_127 : decode cX9_timer 127 = .ok (.sipush 359, 3) := by decide +kernel
theorem dX9_timer_130 : decode cX9_timer 130 = .ok (.iload_n 1, 1) := by decide +kernel
theorem dX9_timer_131 : decode cX9_timer 131 = .ok (.iadd, 1) := by decide +kernel
theorem dX9_timer_132 : decode cX9_timer 132 = .ok (.invokevirtual 85, 3) := by decide +kernel
theorem dX9_timer_135 : decode cX9_timer 135 = .ok (.iadd, 1) := by decide +kernel
theorem dX9_timer_136 : decode cX9_timer 136 = .ok (.goto 12, 3) := by decide +kernel
theorem dX9_timer_139 : decode cX9_timer 139 = .ok (.aload_n 0, 1) := by decide +kernel
theorem dX9_timer_140 : decode cX9_timer 140 = .ok (.sipush 231, 3) := by decide +kernel
theorem dX9_timer_143 : decode cX9_timer 143 = .ok (.iload_n 1, 1) := by decide +kernel
theorem dX9_timer_144 : decode cX9_timer 144 = .ok (.iadd, 1) := by decide +kernel
theorem dX9_timer_145 : decode cX9_timer 145 = .ok (.invokevirtual 85, 3) := by decide +kernel
theorem dX9_timer_148 : decode cX9_timer 148 = .ok (.ireturn, 1) := by decide +kernel
theorem dX9_timer_149 : decode cX9_timer 149 = .ok (.iload_n 3, 1) := by decide +kernel
theorem dX9_timer_150 : decode cX9_timer 150 = .ok (.ifCond .eq 8, 3) := by decide +kernel
theorem dX9_timer_153 : decode cX9_timer 153 = .ok (.bipush (-2), 2) := by decide +kernel
theorem dX9_timer_155 : decode cX9_timer 155 = .ok (.goto 12, 3) := by decide +kernel
theorem dX9_timer_158 : decode cX9_timer 158 = .ok (.aload_n 0, 1) := by decide +kernel
theorem dX9_timer_159 : decode cX9_timer 159 = .ok (.sipush 391, 3) := by decide +kernel
theorem dX9_timer_162 : decode cX9_timer 162 = .ok (.iload_n 1, 1) := by decide +kernel
theorem dX9_timer_163 : decode cX9_timer 163 = .ok (.iadd, 1) := by decide +kernel
theorem dX9_timer_164 : decode cX9_timer 164 = .ok (.invokevirtual 85, 3) := by decide +kernel
theorem dX9_timer_167 : decode cX9_timer 167 = .ok (.ireturn, 1) := by decide +kernel
theorem dX9_timer_168 : decode cX9_timer 168 = .ok (.iload_n 3, 1) := by decide +kernel
theorem dX9_timer_169 : decode cX9_timer 169 = .ok (.ifCond .eq 8, 3) := by decide +kernel
theorem dX9_timer_172 : decode cX9_timer 172 = .ok (.bipush (-2), 2) := by decide +kernel
theorem dX9_timer_174 : decode cX9_timer 174 = .ok (.goto 12, 3) := by decide +kernel
theorem dX9_timer_177 : decode cX9_timer 177 = .ok (.aload_n 0, 1) := by decide +kernel
theorem dX9_timer_178 : decode cX9_timer 178 = .ok (.sipush 407, 3) := by decide +kernel
theorem dX9_timer_181 : decode cX9_timer 181 = .ok (.iload_n 1, 1) := by decide +kernel
theorem dX9_timer_182 : decode cX9_timer 182 = .ok (.iadd, 1) := by decide +kernel
theorem dX9_timer_183 : decode cX9_timer 183 = .ok (.invokevirtual 85, 3) := by decide +kernel
theorem dX9_timer_186 : decode cX9_timer 186 = .ok (.ireturn, 1) := by decide +kernel
theorem dX9_timer_187 : decode cX9_timer 187 = .ok (.aload_n 0, 1) := by decide +kernel
theorem dX9_timer_188 : decode cX9_timer 188 = .ok (.sipush 247, 3) := by decide +kernel
theorem dX9_timer_191 : decode cX9_timer 191 = .ok (.iload_n 1, 1) := by decide +kernel
theorem dX9_timer_192 : decode cX9_timer 192 = .ok (.iadd, 1) := by decide +kernel
theorem dX9_timer_193 : decode cX9_timer 193 = .ok (.invokevirtual 85, 3) := by decide +kernel
theorem dX9_timer_196 : decode cX9_timer 196 = .ok (.ireturn, 1) := by decide +kernel
theorem dX9_timer_197 : decode cX9_timer 197 = .ok (.aload_n 0, 1) := by decide +kernel
theorem dX9_timer_198 : decode cX9_timer 198 = .ok (.sipush 263, 3) := by decide +kernel
theorem dX9_timer_201 : decode cX9_timer 201 = .ok (.iload_n 1, 1) := by decide +kernel
theorem dX9_timer_202 : decode cX9_timer 202 = .ok (.iadd, 1) := by decide +kernel
theorem dX9_timer_203 : decode cX9_timer 203 = .ok (.invokevirtual 85, 3) := by decide +kernel
theorem dX9_timer_206 : decode cX9_timer 206 = .ok (.ireturn, 1) := by decide +kernel
theorem dX9_timer_207 : decode cX9_timer 207 = .ok (.aload_n 0, 1) := by decide +kernel
theorem dX9_timer_208 : decode cX9_timer 208 = .ok (.sipush 279, 3) := by decide +kernel
theorem dX9_timer_211 : decode cX9_timer 211 = .ok (.iload_n 1, 1) := by decide +kernel
theorem dX9_timer_212 : decode cX9_timer 212 = .ok (.iadd, 1) := by decide +kernel
theorem dX9_timer_213 : decode cX9_timer 213 = .ok (.invokevirtual 85, 3) := by decide +kernel
theorem dX9_timer_216 : decode cX9_timer 216 = .ok (.ireturn, 1) := by decide +kernel
theorem dX9_timer_217 : decode cX9_timer 217 = .ok (.aload_n 0, 1) := by decide +kernel
theorem dX9_timer_218 : decode cX9_timer 218 = .ok (.sipush 295, 3) := by decide +kernel
theorem dX9_timer_221 : decode cX9_timer 221 = .ok (.iload_n 1, 1) := by decide +kernel
theorem dX9_timer_222 : decode cX9_timer 222 = .ok (.iadd, 1) := by decide +kernel
theorem dX9_timer_223 : decode cX9_timer 223 = .ok (.invokevirtual 85, 3) := by decide +kernel
theorem dX9_timer_226 : decode cX9_timer 226 = .ok (.ireturn, 1) := by decide +kernel
theorem dX9_timer_227 : decode cX9_timer 227 = .ok (.aload_n 0, 1) := by decide +kernel
theorem dX9_timer_228 : decode cX9_timer 228 = .ok (.sipush 311, 3) := by decide +kernel
theorem dX9_timer_231 : decode cX9_timer 231 = .ok (.iload_n 1, 1) := by decide +kernel
theorem dX9_timer_232 : decode cX9_timer 232 = .ok (.iadd, 1) := by decide +kernel
theorem dX9_timer_233 : decode cX9_timer 233 = .ok (.invokevirtual 85, 3) := by decide +kernel
theorem dX9_timer_236 : decode cX9_timer 236 = .ok (.ireturn, 1) := by decide +kernel
theorem dX9_timer_237 : decode cX9_timer 237 = .ok (.aload_n 0, 1) := by decide +kernel
theorem dX9_timer_238 : decode cX9_timer 238 = .ok (.sipush 375, 3) := by decide +kernel
theorem dX9_timer_241 : decode cX9_timer 241 = .ok (.iload_n 1, 1) := by decide +kernel
theorem dX9_timer_242 : decode cX9_timer 242 = .ok (.iadd, 1) := by decide +kernel
theorem dX9_timer_243 : decode cX9_timer 243 = .ok (.invokevirtual 85, 3) := by decide +kernel
theorem dX9_timer_246 : decode cX9_timer 246 = .ok (.ireturn, 1) := by decide +kernel
theorem dX9_timer_247 : decode cX9_timer 247 = .ok (.aload_n 0, 1) := by decide +kernel
theorem dX9_timer_248 : decode cX9_timer 248 = .ok (.sipush 327, 3) := by decide +kernel
theorem dX9_timer_251 : decode cX9_timer 251 = .ok (.iload_n 1, 1) := by decide +kernel
theorem dX9_timer_252 : decode cX9_timer 252 = .ok (.iadd, 1) := by decide +kernel
theorem dX9_timer_253 : decode cX9_timer 253 = .ok (.invokevirtual 85, 3) := by decide +kernel
theorem dX9_timer_256 : decode cX9_timer 256 = .ok (.ireturn, 1) := by decide +kernel
theorem dX9_timer_257 : decode cX9_timer 257 = .ok (.iload_n 3, 1) := by decide +kernel
theorem dX9_timer_258 : decode cX9_timer 258 = .ok (.ifCond .eq 15, 3) := by decide +kernel
theorem dX9_timer_261 : decode cX9_timer 261 = .ok (.aload_n 0, 1) := by decide +kernel
theorem dX9_timer_262 : decode cX9_timer 262 = .ok (.sipush 359, 3) := by decide +kernel
theorem dX9_timer_265 : decode cX9_timer 265 = .ok (.iload_n 1, 1) := by decide +kernel
theorem dX9_timer_266 : decode cX9_timer 266 = .ok (.iadd, 1) := by decide +kernel
theorem dX9_timer_267 : decode cX9_timer 267 = .ok (.invokevirtual 85, 3) := by decide +kernel
theorem dX9_timer_270 : decode cX9_timer 270 = .ok (.goto 4, 3) := by decide +kernel
theorem dX9_timer_273 : decode cX9_timer 273 = .ok (.iconst (-1), 1) := by decide +kernel
theorem dX9_timer_274 : decode cX9_timer 274 = .ok (.ireturn, 1) := by decide +kernel
theorem dX9_tellsLine_0 : decode cX9_tellsLine 0 = .ok (.aload_n 0, 1) := by decide +kernel
theorem dX9_tellsLine_1 : decode cX9_tellsLine 1 = .ok (.iconst 0, 1) := by decide +kernel
theorem dX9_tellsLine_2 : decode cX9_tellsLine 2 = .ok (.putfield 11, 3) := by decide +kernel
theorem dX9_tellsLine_5 : decode cX9_tellsLine 5 = .ok (.iconst 0, 1) := by decide +kernel
theorem dX9_tellsLine_6 : decode cX9_tellsLine 6 = .ok (.istore_n 1, 1) := by decide +kernel
theorem dX9_tellsLine_7 : decode cX9_tellsLine 7 = .ok (.iload_n 1, 1) := by decide +kernel
theorem dX9_tellsLine_8 : decode cX9_tellsLine 8 = .ok (.aload_n 0, 1) := by decide +kernel
theorem dX9_tellsLine_9 : decode cX9_tellsLine 9 = .ok (.getfield 109, 3) := by decide +kernel
theorem dX9_tellsLine_12 : decode cX9_tellsLine 12 = .ok (.if_icmp .ge 20, 3) := by decide +kernel
theorem dX9_tellsLine_15 : decode cX9_tellsLine 15 = .ok (.aload_n 0, 1) := by decide +kernel
theorem dX9_tellsLine_16 : decode cX9_tellsLine 16 = .ok (.aload_n 0, 1) := by decide +kernel
theorem dX9_tellsLine_17 : decode cX9_tellsLine 17 = .ok (.getfield 52, 3) := by decide +kernel
theorem dX9_tellsLine_20 : decode cX9_tellsLine 20 = .ok (.iload_n 1, 1) := by decide +kernel
theorem dX9_tellsLine_21 : decode cX9_tellsLine 21 = .ok (.iaload, 1) := by decide +kernel
theorem dX9_tellsLine_22 : decode cX9_tellsLine 22 = .ok (.i2l, 1) := by decide +kernel
theorem dX9_tellsLine_23 : decode cX9_tellsLine 23 = .ok (.invokevirtual 153, 3) := by decide +kernel
theorem dX9_tellsLine_26 : decode cX9_tellsLine 26 = .ok (.iinc 1 1, 3) := by decide +kernel
theorem dX9_tellsLine_29 : decode cX9_tellsLine 29 = .ok (.goto (-22), 3) := by decide +kernel
theorem dX9_tellsLine_32 : decode cX9_tellsLine 32 = .ok (.return_, 1) := by decide +kernel
theorem dX9_slot_0 : decode cX9_slot 0 = .ok (.aload_n 0, 1) := by decide +kernel
theorem dX9_slot_1 : decode cX9_slot 1 = .ok (.iconst 0, 1) := by decide +kernel
theorem dX9_slot_2 : decode cX9_slot 2 = .ok (.putfield 1, 3) := by decide +kernel
theorem dX9_slot_5 : decode cX9_slot 5 = .ok (.iload_n 1, 1) := by decide +kernel
theorem dX9_slot_6 : decode cX9_slot 6 = .ok (.i2l, 1) := by decide +kernel
theorem dX9_slot_7 : decode cX9_slot 7 = .ok (.lconst 0, 1) := by decide +kernel
theorem dX9_slot_8 : decode cX9_slot 8 = .ok (.aload_n 0, 1) := by decide +kernel
theorem dX9_slot_9 : decode cX9_slot 9 = .ok (.iconst 0, 1) := by decide +kernel
theorem dX9_slot_10 : decode cX9_slot 10 = .ok (.invokevirtual 85, 3) := by decide +kernel
theorem dX9_slot_13 : decode cX9_slot 13 = .ok (.iconst 1, 1) := by decide +kernel
theorem dX9_slot_14 : decode cX9_slot 14 = .ok (.isub, 1) := by decide +kernel
theorem dX9_slot_15 : decode cX9_slot 15 = .ok (.i2l, 1) := by decide +kernel
theorem dX9_slot_16 : decode cX9_slot 16 = .ok (.invokestatic 21, 3) := by decide +kernel
theorem dX9_slot_19 : decode cX9_slot 19 = .ok (.ifCond .eq 22, 3) := by decide +kernel
theorem dX9_slot_22 : decode cX9_slot 22 = .ok (.iload_n 2, 1) := by decide +kernel
theorem dX9_slot_23 : decode cX9_slot 23 = .ok (.i2l, 1) := by decide +kernel
theorem dX9_slot_24 : decode cX9_slot 24 = .ok (.lconst 0, 1) := by decide +kernel
theorem dX9_slot_25 : decode cX9_slot 25 = .ok (.aload_n 0, 1) := by decide +kernel
theorem dX9_slot_26 : decode cX9_slot 26 = .ok (.iconst 1, 1) := by decide +kernel
theorem dX9_slot_27 : decode cX9_slot 27 = .ok (.iload_n 1, 1) := by decide +kernel
theorem dX9_slot_28 : decode cX9_slot 28 = .ok (.iadd, 1) := by decide +kernel
theorem dX9_slot_29 : decode cX9_slot 29 = .ok (.invokevirtual 85, 3) := by decide +kernel
theorem dX9_slot_32 : decode cX9_slot 32 = .ok (.iconst 1, 1) := by decide +kernel
theorem dX9_slot_33 : decode cX9_slot 33 = .ok (.isub, 1) := by decide +kernel
theorem dX9_slot_34 : decode cX9_slot 34 = .ok (.i2l, 1) := by decide +kernel
theorem dX9_slot_35 : decode cX9_slot 35 = .ok (.invokestatic 21, 3) := by decide +kernel
theorem dX9_slot_38 : decode cX9_slot 38 = .ok (.ifCond .ne 5, 3) := by decide +kernel
theorem dX9_slot_41 : decode cX9_slot 41 = .ok (.iconst (-1), 1) := by decide +kernel
theorem dX9_slot_42 : decode cX9_slot 42 = .ok (.ireturn, 1) := by decide +kernel
theorem dX9_slot_43 : decode cX9_slot 43 = .ok (.aload_n 0, 1) := by decide +kernel
theorem dX9_slot_44 : decode cX9_slot 44 = .ok (.iconst 0, 1) := by decide +kernel
theorem dX9_slot_45 : decode cX9_slot 45 = .ok (.putfield 109, 3) := by decide +kernel
theorem dX9_slot_48 : decode cX9_slot 48 = .ok (.iconst 0, 1) := by decide +kernel
theorem dX9_slot_49 : decode cX9_slot 49 = .ok (.istore_n 3, 1) := by decide +kernel
theorem dX9_slot_50 : decode cX9_slot 50 = .ok (.iload_n 3, 1) := by decide +kernel
theorem dX9_slot_51 : decode cX9_slot 51 = .ok (.bipush 16, 2) := by decide +kernel
theorem dX9_slot_53 : decode cX9_slot 53 = .ok (.if_icmp .ge 49, 3) := by decide +kernel
theorem dX9_slot_56 : decode cX9_slot 56 = .ok (.aload_n 0, 1) := by decide +kernel
theorem dX9_slot_57 : decode cX9_slot 57 = .ok (.iload_n 3, 1) := by decide +kernel
theorem dX9_slot_58 : decode cX9_slot 58 = .ok (.invokevirtual 99, 3) := by decide +kernel
theorem dX9_slot_61 : decode cX9_slot 61 = .ok (.ifCond .eq 35, 3) := by decide +kernel
theorem dX9_slot_64 : decode cX9_slot 64 = .ok (.aload_n 0, 1) := by decide +kernel
theorem dX9_slot_65 : decode cX9_slot 65 = .ok (.sipush 391, 3) := by decide +kernel
theorem dX9_slot_68 : decode cX9_slot 68 = .ok (.iload_n 3, 1) := by decide +kernel
theorem dX9_slot_69 : decode cX9_slot 69 = .ok (.iadd, 1) := by decide +kernel
theorem dX9_slot_70 : decode cX9_slot 70 = .ok (.invokevirtual 85, 3) := by decide +kernel
theorem dX9_slot_73 : decode cX9_slot 73 = .ok (.iload_n 1, 1) := by decide +kernel
theorem dX9_slot_74 : decode cX9_slot 74 = .ok (.if_icmp .ne 22, 3) := by decide +kernel
theorem dX9_slot_77 : decode cX9_slot 77 = .ok (.aload_n 0, 1) := by decide +kernel
theorem dX9_slot_78 : decode cX9_slot 78 = .ok (.sipush 407, 3) := by decide +kernel
theorem dX9_slot_81 : decode cX9_slot 81 = .ok (.iload_n 3, 1) := by decide +kernel
theorem dX9_slot_82 : decode cX9_slot 82 = .ok (.iadd, 1) := by decide +kernel
theorem dX9_slot_83 : decode cX9_slot 83 = .ok (.invokevirtual 85, 3) := by decide +kernel
theorem dX9_slot_86 : decode cX9_slot 86 = .ok (.iload_n 2, 1) := by decide +kernel
theorem dX9_slot_87 : decode cX9_slot 87 = .ok (.if_icmp .ne 9, 3) := by decide +kernel
theorem dX9_slot_90 : decode cX9_slot 90 = .ok (.aload_n 0, 1) := by decide +kernel
theorem dX9_slot_91 : decode cX9_slot 91 = .ok (.iload_n 3, 1) := by decide +kernel
theorem dX9_slot_92 : decode cX9_slot 92 = .ok (.iconst 0, 1) := by decide +kernel
theorem dX9_slot_93 : decode cX9_slot 93 = .ok (.invokevirtual 142, 3) := by decide +kernel
theorem dX9_slot_96 : decode cX9_slot 96 = .ok (.iinc 3 1, 3) := by decide +kernel
theorem dX9_slot_99 : decode cX9_slot 99 = .ok (.goto (-49), 3) := by decide +kernel
theorem dX9_slot_102 : decode cX9_slot 102 = .ok (.aload_n 0, 1) := by decide +kernel
theorem dX9_slot_103 : decode cX9_slot 103 = .ok (.invokevirtual 243, 3) := by decide +kernel
theorem dX9_slot_106 : decode cX9_slot 106 = .ok (.aload_n 0, 1) := by decide +kernel
theorem dX9_slot_107 : decode cX9_slot 107 = .ok (.getfield 109, 3) := by decide +kernel
theorem dX9_slot_110 : decode cX9_slot 110 = .ok (.ireturn, 1) := by decide +kernel
theorem dX9_far_0 : decode cX9_far 0 = .ok (.aload_n 0, 1) := by decide +kernel
theorem dX9_far_1 : decode cX9_far 1 = .ok (.iconst 0, 1) := by decide +kernel
theorem dX9_far_2 : decode cX9_far 2 = .ok (.putfield 1, 3) := by decide +kernel
theorem dX9_far_5 : decode cX9_far 5 = .ok (.aload_n 0, 1) := by decide +kernel
theorem dX9_far_6 : decode cX9_far 6 = .ok (.invokevirtual 246, 3) := by decide +kernel
theorem dX9_far_9 : decode cX9_far 9 = .ok (.aload_n 0, 1) := by decide +kernel
theorem dX9_far_10 : decode cX9_far 10 = .ok (.iconst 5, 1) := by decide +kernel
theorem dX9_far_11 : decode cX9_far 11 = .ok (.iconst 0, 1) := by decide +kernel
theorem dX9_far_12 : decode cX9_far 12 = .ok (.invokevirtual 76, 3) := by decide +kernel
theorem dX9_far_15 : decode cX9_far 15 = .ok (.aload_n 0, 1) := by decide +kernel
theorem dX9_far_16 : decode cX9_far 16 = .ok (.iconst 0, 1) := by decide +kernel
theorem dX9_far_17 : decode cX9_far 17 = .ok (.putfield 109, 3) := by decide +kernel
theorem dX9_far_20 : decode cX9_far 20 = .ok (.iconst 0, 1) := by decide +kernel
theorem dX9_far_21 : decode cX9_far 21 = .ok (.istore_n 1, 1) := by decide +kernel
theorem dX9_far_22 : decode cX9_far 22 = .ok (.iload_n 1, 1) := by decide +kernel
theorem dX9_far_23 : decode cX9_far 23 = .ok (.bipush 16, 2) := by decide +kernel
theorem dX9_far_25 : decode cX9_far 25 = .ok (.if_icmp .ge 36, 3) := by decide +kernel
theorem dX9_far_28 : decode cX9_far 28 = .ok (.aload_n 0, 1) := by decide +kernel
theorem dX9_far_29 : decode cX9_far 29 = .ok (.iload_n 1, 1) := by decide +kernel
theorem dX9_far_30 : decode cX9_far 30 = .ok (.invokevirtual 99, 3) := by decide +kernel
theorem dX9_far_33 : decode cX9_far 33 = .ok (.ifCond .eq 22, 3) := by decide +kernel
theorem dX9_far_36 : decode cX9_far 36 = .ok (.aload_n 0, 1) := by decide +kernel
theorem dX9_far_37 : decode cX9_far 37 = .ok (.sipush 391, 3) := by decide +kernel
theorem dX9_far_40 : decode cX9_far 40 = .ok (.iload_n 1, 1) := by decide +kernel
theorem dX9_far_41 : decode cX9_far 41 = .ok (.iadd, 1) := by decide +kernel
theorem dX9_far_42 : decode cX9_far 42 = .ok (.invokevirtual 85, 3) := by decide +kernel
theorem dX9_far_45 : decode cX9_far 45 = .ok (.iconst (-1), 1) := by decide +kernel
theorem dX9_far_46 : decode cX9_far 46 = .ok (.if_icmp .ne 9, 3) := by decide +kernel
theorem dX9_far_49 : decode cX9_far 49 = .ok (.aload_n 0, 1) := by decide +kernel
theorem dX9_far_50 : decode cX9_far 50 = .ok (.iload_n 1, 1) := by decide +kernel
theorem dX9_far_51 : decode cX9_far 51 = .ok (.iconst 1, 1) := by decide +kernel
theorem dX9_far_52 : decode cX9_far 52 = .ok (.invokevirtual 142, 3) := by decide +kernel
theorem dX9_far_55 : decode cX9_far 55 = .ok (.iinc 1 1, 3) := by decide +kernel
theorem dX9_far_58 : decode cX9_far 58 = .ok (.goto (-36), 3) := by decide +kernel
theorem dX9_far_61 : decode cX9_far 61 = .ok (.aload_n 0, 1) := by decide +kernel
theorem dX9_far_62 : decode cX9_far 62 = .ok (.invokevirtual 249, 3) := by decide +kernel
theorem dX9_far_65 : decode cX9_far 65 = .ok (.aload_n 0, 1) := by decide +kernel
theorem dX9_far_66 : decode cX9_far 66 = .ok (.invokevirtual 243, 3) := by decide +kernel
theorem dX9_far_69 : decode cX9_far 69 = .ok (.aload_n 0, 1) := by decide +kernel
theorem dX9_far_70 : decode cX9_far 70 = .ok (.getfield 109, 3) := by decide +kernel
theorem dX9_far_73 : decode cX9_far 73 = .ok (.ireturn, 1) := by decide +kernel
theorem dX9_group_0 : decode cX9_group 0 = .ok (.aload_n 0, 1) := by decide +kernel
theorem dX9_group_1 : decode cX9_group 1 = .ok (.iconst 0, 1) := by decide +kernel
theorem dX9_group_2 : decode cX9_group 2 = .ok (.putfield 1, 3) := by decide +kernel
theorem dX9_group_5 : decode cX9_group 5 = .ok (.iload_n 1, 1) := by decide +kernel
theorem dX9_group_6 : decode cX9_group 6 = .ok (.i2l, 1) := by decide +kernel
theorem dX9_group_7 : decode cX9_group 7 = .ok (.lconst 0, 1) := by decide +kernel
theorem dX9_group_8 : decode cX9_group 8 = .ok (.ldc2_w 201, 3) := by decide +kernel
theorem dX9_group_11 : decode cX9_group 11 = .ok (.invokestatic 21, 3) := by decide +kernel
theorem dX9_group_14 : decode cX9_group 14 = .ok (.ifCond .ne 5, 3) := by decide +kernel
theorem dX9_group_17 : decode cX9_group 17 = .ok (.iconst (-1), 1) := by decide +kernel
theorem dX9_group_18 : decode cX9_group 18 = .ok (.ireturn, 1) := by decide +kernel
theorem dX9_group_19 : decode cX9_group 19 = .ok (.aload_n 0, 1) := by decide +kernel
theorem dX9_group_20 : decode cX9_group 20 = .ok (.iconst 0, 1) := by decide +kernel
theorem dX9_group_21 : decode cX9_group 21 = .ok (.putfield 11, 3) := by decide +kernel
theorem dX9_group_24 : decode cX9_group 24 = .ok (.iconst 0, 1) := by decide +kernel
theorem dX9_group_25 : decode cX9_group 25 = .ok (.istore_n 2, 1) := by decide +kernel
theorem dX9_group_26 : decode cX9_group 26 = .ok (.iload_n 2, 1) := by decide +kernel
theorem dX9_group_27 : decode cX9_group 27 = .ok (.bipush 16, 2) := by decide +kernel
theorem dX9_group_29 : decode cX9_group 29 = .ok (.if_icmp .ge 36, 3) := by decide +kernel
theorem dX9_group_32 : decode cX9_group 32 = .ok (.aload_n 0, 1) := by decide +kernel
theorem dX9_group_33 : decode cX9_group 33 = .ok (.iload_n 2, 1) := by decide +kernel
theorem dX9_group_34 : decode cX9_group 34 = .ok (.invokevirtual 89, 3) := by decide +kernel
theorem dX9_group_37 : decode cX9_group 37 = .ok (.ifCond .eq 22, 3) := by decide +kernel
theorem dX9_group_40 : decode cX9_group 40 = .ok (.aload_n 0, 1) := by decide +kernel
theorem dX9_group_41 : decode cX9_group 41 = .ok (.sipush 263, 3) := by decide +kernel
theorem dX9_group_44 : decode cX9_group 44 = .ok (.iload_n 2, 1) := by decide +kernel
theorem dX9_group_45 : decode cX9_group 45 = .ok (.iadd, 1) := by decide +kernel
theorem dX9_group_46 : decode cX9_group 46 = .ok (.invokevirtual 85, 3) := by decide +kernel
theorem dX9_group_49 : decode cX9_group 49 = .ok (.iload_n 1, 1) := by decide +kernel
theorem dX9_group_50 : decode cX9_group 50 = .ok (.if_icmp .ne 9, 3) := by decide +kernel
theorem dX9_group_53 : decode cX9_group 53 = .ok (.aload_n 0, 1) := by decide +kernel
theorem dX9_group_54 : decode cX9_group 54 = .ok (.iload_n 2, 1) := by decide +kernel
theorem dX9_group_55 : decode cX9_group 55 = .ok (.i2l, 1) := by decide +kernel
theorem dX9_group_56 : decode cX9_group 56 = .ok (.invokevirtual 153, 3) := by decide +kernel
theorem dX9_group_59 : decode cX9_group 59 = .ok (.iinc 2 1, 3) := by decide +kernel
theorem dX9_group_62 : decode cX9_group 62 = .ok (.goto (-36), 3) := by decide +kernel
theorem dX9_group_65 : decode cX9_group 65 = .ok (.aload_n 0, 1) := by decide +kernel
theorem dX9_group_66 : decode cX9_group 66 = .ok (.getfield 11, 3) := by decide +kernel
theorem dX9_group_69 : decode cX9_group 69 = .ok (.ireturn, 1) := by decide +kernel
theorem dX9_full_0 : decode cX9_full 0 = .ok (.aload_n 0, 1) := by decide +kernel
theorem dX9_full_1 : decode cX9_full 1 = .ok (.iconst 0, 1) := by decide +kernel
theorem dX9_full_2 : decode cX9_full 2 = .ok (.putfield 1, 3) := by decide +kernel
theorem dX9_full_5 : decode cX9_full 5 = .ok (.iload_n 1, 1) := by decide +kernel
theorem dX9_full_6 : decode cX9_full 6 = .ok (.i2l, 1) := by decide +kernel
theorem dX9_full_7 : decode cX9_full 7 = .ok (.lconst 0, 1) := by decide +kernel
theorem dX9_full_8 : decode cX9_full 8 = .ok (.aload_n 0, 1) := by decide +kernel
theorem dX9_full_9 : decode cX9_full 9 = .ok (.iconst 0, 1) := by decide +kernel
theorem dX9_full_10 : decode cX9_full 10 = .ok (.invokevirtual 85, 3) := by decide +kernel
theorem dX9_full_13 : decode cX9_full 13 = .ok (.iconst 1, 1) := by decide +kernel
theorem dX9_full_14 : decode cX9_full 14 = .ok (.isub, 1) := by decide +kernel
theorem dX9_full_15 : decode cX9_full 15 = .ok (.i2l, 1) := by decide +kernel
theorem dX9_full_16 : decode cX9_full 16 = .ok (.invokestatic 21, 3) := by decide +kernel
theorem dX9_full_19 : decode cX9_full 19 = .ok (.ifCond .ne 5, 3) := by decide +kernel
theorem dX9_full_22 : decode cX9_full 22 = .ok (.iconst (-1), 1) := by decide +kernel
theorem dX9_full_23 : decode cX9_full 23 = .ok (.ireturn, 1) := by decide +kernel
theorem dX9_full_24 : decode cX9_full 24 = .ok (.iconst 0, 1) := by decide +kernel
theorem dX9_full_25 : decode cX9_full 25 = .ok (.istore_n 2, 1) := by decide +kernel
theorem dX9_full_26 : decode cX9_full 26 = .ok (.iconst 0, 1) := by decide +kernel
theorem dX9_full_27 : decode cX9_full 27 = .ok (.istore_n 3, 1) := by decide +kernel
theorem dX9_full_28 : decode cX9_full 28 = .ok (.iconst 0, 1) := by decide +kernel
theorem dX9_full_29 : decode cX9_full 29 = .ok (.istore 4, 2) := by decide +kernel
theorem dX9_full_31 : decode cX9_full 31 = .ok (.iload 4, 2) := by decide +kernel
theorem dX9_full_33 : decode cX9_full 33 = .ok (.bipush 16, 2) := by decide +kernel
theorem dX9_full_35 : decode cX9_full 35 = .ok (.if_icmp .ge 71, 3) := by decide +kernel
theorem dX9_full_38 : decode cX9_full 38 = .ok (.aload_n 0, 1) := by decide +kernel
theorem dX9_full_39 : decode cX9_full 39 = .ok (.iload 4, 2) := by decide +kernel
theorem dX9_full_41 : decode cX9_full 41 = .ok (.invokevirtual 99, 3) := by decide +kernel
theorem dX9_full_44 : decode cX9_full 44 = .ok (.ifCond .eq 21, 3) := by decide +kernel
theorem dX9_full_47 : decode cX9_full 47 = .ok (.aload_n 0, 1) := by decide +kernel
theorem dX9_full_48 : decode cX9_full 48 = .ok (.sipush 391, 3) := by decide +kernel
theorem dX9_full_51 : decode cX9_full 51 = .ok (.iload 4, 2) := by decide +kernel
theorem dX9_full_53 : decode cX9_full 53 = .ok (.iadd, 1) := by decide +kernel
theorem dX9_full_54 : decode cX9_full 54 = .ok (.invokevirtual 85, 3) := by decide +kernel
theorem dX9_full_57 : decode cX9_full 57 = .ok (.iload_n 1, 1) := by decide +kernel
theorem dX9_full_58 : decode cX9_full 58 = .ok (.if_icmp .ne 7, 3) := by decide +kernel
theorem dX9_full_61 : decode cX9_full 61 = .ok (.iconst 1, 1) := by decide +kernel
theorem dX9_full_62 : decode cX9_full 62 = .ok (.goto 4, 3) := by decide +kernel
theorem dX9_full_65 : decode cX9_full 65 = .ok (.iconst 0, 1) := by decide +kernel
theorem dX9_full_66 : decode cX9_full 66 = .ok (.istore 5, 2) := by decide +kernel
theorem dX9_full_68 : decode cX9_full 68 = .ok (.iload_n 2, 1) := by decide +kernel
theorem dX9_full_69 : decode cX9_full 69 = .ok (.iload 5, 2) := by decide +kernel
theorem dX9_full_71 : decode cX9_full 71 = .ok (.ifCond .eq 18, 3) := by decide +kernel
theorem dX9_full_74 : decode cX9_full 74 = .ok (.iconst 1, 1) := by decide +kernel
theorem dX9_full_75 : decode cX9_full 75 = .ok (.aload_n 0, 1) := by decide +kernel
theorem dX9_full_76 : decode cX9_full 76 = .ok (.sipush 407, 3) := by decide +kernel
theorem dX9_full_79 : decode cX9_full 79 = .ok (.iload 4, 2) := by decide +kernel
theorem dX9_full_81 : decode cX9_full 81 = .ok (.iadd, 1) := by decide +kernel
theorem dX9_full_82 : decode cX9_full 82 = .ok (.invokevirtual 85, 3) := by decide +kernel
theorem dX9_full_85 : decode cX9_full 85 = .ok (.ishl, 1) := by decide +kernel
theorem dX9_full_86 : decode cX9_full 86 = .ok (.goto 4, 3) := by decide +kernel
theorem dX9_full_89 : decode cX9_full 89 = .ok (.iconst 0, 1) := by decide +kernel
theorem dX9_full_90 : decode cX9_full 90 = .ok (.ior, 1) := by decide +kernel
theorem dX9_full_91 : decode cX9_full 91 = .ok (.istore_n 2, 1) := by decide +kernel
theorem dX9_full_92 : decode cX9_full 92 = .ok (.iload_n 3, 1) := by decide +kernel
theorem dX9_full_93 : decode cX9_full 93 = .ok (.iload 5, 2) := by decide +kernel
theorem dX9_full_95 : decode cX9_full 95 = .ok (.invokestatic 31, 3) := by decide +kernel
theorem dX9_full_98 : decode cX9_full 98 = .ok (.iadd, 1) := by decide +kernel
theorem dX9_full_99 : decode cX9_full 99 = .ok (.istore_n 3, 1) := by decide +kernel
theorem dX9_full_100 : decode cX9_full 100 = .ok (.iinc 4 1, 3) := by decide +kernel
theorem dX9_full_103 : decode cX9_full 103 = .ok (.goto (-72), 3) := by decide +kernel
theorem dX9_full_106 : decode cX9_full 106 = .ok (.aload_n 0, 1) := by decide +kernel
theorem dX9_full_107 : decode cX9_full 107 = .ok (.iconst 0, 1) := by decide +kernel
theorem dX9_full_108 : decode cX9_full 108 = .ok (.putfield 11, 3) := by decide +kernel
theorem dX9_full_111 : decode cX9_full 111 = .ok (.iconst 0, 1) := by decide +kernel
theorem dX9_full_112 : decode cX9_full 112 = .ok (.istore 4, 2) := by decide +kernel
theorem dX9_full_114 : decode cX9_full 114 = .ok (.iload 4, 2) := by decide +kernel
theorem dX9_full_116 : decode cX9_full 116 = .ok (.bipush 16, 2) := by decide +kernel
theorem dX9_full_118 : decode cX9_full 118 = .ok (.if_icmp .ge 26, 3) := by decide +kernel
theorem dX9_full_121 : decode cX9_full 121 = .ok (.iload_n 2, 1) := by decide +kernel
theorem dX9_full_122 : decode cX9_full 122 = .ok (.iload 4, 2) := by decide +kernel
theorem dX9_full_124 : decode cX9_full 124 = .ok (.ishr, 1) := by decide +kernel
theorem dX9_full_125 : decode cX9_full 125 = .ok (.iconst 1, 1) := by decide +kernel
theorem dX9_full_126 : decode cX9_full 126 = .ok (.iand, 1) := by decide +kernel
theorem dX9_full_127 : decode cX9_full 127 = .ok (.iconst 1, 1) := by decide +kernel
theorem dX9_full_128 : decode cX9_full 128 = .ok (.if_icmp .ne 10, 3) := by decide +kernel
theorem dX9_full_131 : decode cX9_full 131 = .ok (.aload_n 0, 1) := by decide +kernel
theorem dX9_full_132 : decode cX9_full 132 = .ok (.iload 4, 2) := by decide +kernel
theorem dX9_full_134 : decode cX9_full 134 = .ok (.i2l, 1) := by decide +kernel
theorem dX9_full_135 : decode cX9_full 135 = .ok (.invokevirtual 153, 3) := by decide +kernel
theorem dX9_full_138 : decode cX9_full 138 = .ok (.iinc 4 1, 3) := by decide +kernel
theorem dX9_full_141 : decode cX9_full 141 = .ok (.goto (-27), 3) := by decide +kernel
theorem dX9_full_144 : decode cX9_full 144 = .ok (.aload_n 0, 1) := by decide +kernel
theorem dX9_full_145 : decode cX9_full 145 = .ok (.getfield 11, 3) := by decide +kernel
theorem dX9_full_148 : decode cX9_full 148 = .ok (.istore 4, 2) := by decide +kernel
theorem dX9_full_150 : decode cX9_full 150 = .ok (.aload_n 0, 1) := by decide +kernel
theorem dX9_full_151 : decode cX9_full 151 = .ok (.iload_n 3, 1) := by decide +kernel
theorem dX9_full_152 : decode cX9_full 152 = .ok (.i2l, 1) := by decide +kernel
theorem dX9_full_153 : decode cX9_full 153 = .ok (.invokevirtual 153, 3) := by decide +kernel
theorem dX9_full_156 : decode cX9_full 156 = .ok (.iload 4, 2) := by decide +kernel
theorem dX9_full_158 : decode cX9_full 158 = .ok (.ireturn, 1) := by decide +kernel
theorem dX9_next_0 : decode cX9_next 0 = .ok (.aload_n 0, 1) := by decide +kernel
theorem dX9_next_1 : decode cX9_next 1 = .ok (.iconst 0, 1) := by decide +kernel
theorem dX9_next_2 : decode cX9_next 2 = .ok (.putfield 1, 3) := by decide +kernel
theorem dX9_next_5 : decode cX9_next 5 = .ok (.aload_n 0, 1) := by decide +kernel
theorem dX9_next_6 : decode cX9_next 6 = .ok (.iconst 0, 1) := by decide +kernel
theorem dX9_next_7 : decode cX9_next 7 = .ok (.putfield 109, 3) := by decide +kernel
theorem dX9_next_10 : decode cX9_next 10 = .ok (.iconst (-1), 1) := by decide +kernel
theorem dX9_next_11 : decode cX9_next 11 = .ok (.istore_n 1, 1) := by decide +kernel
theorem dX9_next_12 : decode cX9_next 12 = .ok (.iconst 0, 1) := by decide +kernel
theorem dX9_next_13 : decode cX9_next 13 = .ok (.istore_n 2, 1) := by decide +kernel
theorem dX9_next_14 : decode cX9_next 14 = .ok (.iload_n 2, 1) := by decide +kernel
theorem dX9_next_15 : decode cX9_next 15 = .ok (.bipush 16, 2) := by decide +kernel
theorem dX9_next_17 : decode cX9_next 17 = .ok (.if_icmp .ge 44, 3) := by decide +kernel
theorem dX9_next_20 : decode cX9_next 20 = .ok (.aload_n 0, 1) := by decide +kernel
theorem dX9_next_21 : decode cX9_next 21 = .ok (.iload_n 2, 1) := by decide +kernel
theorem dX9_next_22 : decode cX9_next 22 = .ok (.invokevirtual 99, 3) := by decide +kernel
theorem dX9_next_25 : decode cX9_next 25 = .ok (.ifCond .eq 30, 3) := by decide +kernel
theorem dX9_next_28 : decode cX9_next 28 = .ok (.iload_n 1, 1) := by decide +kernel
theorem dX9_next_29 : decode cX9_next 29 = .ok (.ifCond .lt 16, 3) := by decide +kernel
theorem dX9_next_32 : decode cX9_next 32 = .ok (.aload_n 0, 1) := by decide +kernel
theorem dX9_next_33 : decode cX9_next 33 = .ok (.sipush 231, 3) := by decide +kernel
theorem dX9_next_36 : decode cX9_next 36 = .ok (.iload_n 2, 1) := by decide +kernel
theorem dX9_next_37 : decode cX9_next 37 = .ok (.iadd, 1) := by decide +kernel
theorem dX9_next_38 : decode cX9_next 38 = .ok (.invokevirtual 85, 3) := by decide +kernel
theorem dX9_next_41 : decode cX9_next 41 = .ok (.iload_n 1, 1) := by decide +kernel
theorem dX9_next_42 : decode cX9_next 42 = .ok (.if_icmp .ge 13, 3) := by decide +kernel
theorem dX9_next_45 : decode cX9_next 45 = .ok (.aload_n 0, 1) := by decide +kernel
theorem dX9_next_46 : decode cX9_next 46 = .ok (.sipush 231, 3) := by decide +kernel
theorem dX9_next_49 : decode cX9_next 49 = .ok (.iload_n 2, 1) := by decide +kernel
theorem dX9_next_50 : decode cX9_next 50 = .ok (.iadd, 1) := by decide +kernel
theorem dX9_next_51 : decode cX9_next 51 = .ok (.invokevirtual 85, 3) := by decide +kernel
theorem dX9_next_54 : decode cX9_next 54 = .ok (.istore_n 1, 1) := by decide +kernel
theorem dX9_next_55 : decode cX9_next 55 = .ok (.iinc 2 1, 3) := by decide +kernel
theorem dX9_next_58 : decode cX9_next 58 = .ok (.goto (-44), 3) := by decide +kernel
theorem dX9_next_61 : decode cX9_next 61 = .ok (.iload_n 1, 1) := by decide +kernel
theorem dX9_next_62 : decode cX9_next 62 = .ok (.ifCond .ge 6, 3) := by decide +kernel
theorem dX9_next_65 : decode cX9_next 65 = .ok (.bipush (-2), 2) := by decide +kernel
theorem dX9_next_67 : decode cX9_next 67 = .ok (.ireturn, 1) := by decide +kernel
theorem dX9_next_68 : decode cX9_next 68 = .ok (.iconst 0, 1) := by decide +kernel
theorem dX9_next_69 : decode cX9_next 69 = .ok (.istore_n 2, 1) := by decide +kernel
theorem dX9_next_70 : decode cX9_next 70 = .ok (.iload_n 2, 1) := by decide +kernel
theorem dX9_next_71 : decode cX9_next 71 = .ok (.bipush 16, 2) := by decide +kernel
theorem dX9_next_73 : decode cX9_next 73 = .ok (.if_icmp .ge 36, 3) := by decide +kernel
theorem dX9_next_76 : decode cX9_next 76 = .ok (.aload_n 0, 1) := by decide +kernel
theorem dX9_next_77 : decode cX9_next 77 = .ok (.iload_n 2, 1) := by decide +kernel
theorem dX9_next_78 : decode cX9_next 78 = .ok (.invokevirtual 99, 3) := by decide +kernel
theorem dX9_next_81 : decode cX9_next 81 = .ok (.ifCond .eq 22, 3) := by decide +kernel
theorem dX9_next_84 : decode cX9_next 84 = .ok (.aload_n 0, 1) := by decide +kernel
theorem dX9_next_85 : decode cX9_next 85 = .ok (.sipush 231, 3) := by decide +kernel
theorem dX9_next_88 : decode cX9_next 88 = .ok (.iload_n 2, 1) := by decide +kernel
theorem dX9_next_89 : decode cX9_next 89 = .ok (.iadd, 1) := by decide +kernel
theorem dX9_next_90 : decode cX9_next 90 = .ok (.invokevirtual 85, 3) := by decide +kernel
theorem dX9_next_93 : decode cX9_next 93 = .ok (.iload_n 1, 1) := by decide +kernel
theorem dX9_next_94 : decode cX9_next 94 = .ok (.if_icmp .ne 9, 3) := by decide +kernel
theorem dX9_next_97 : decode cX9_next 97 = .ok (.aload_n 0, 1) := by decide +kernel
theorem dX9_next_98 : decode cX9_next 98 = .ok (.iload_n 2, 1) := by decide +kernel
theorem dX9_next_99 : decode cX9_next 99 = .ok (.iconst 0, 1) := by decide +kernel
theorem dX9_next_100 : decode cX9_next 100 = .ok (.invokevirtual 142, 3) := by decide +kernel
theorem dX9_next_103 : decode cX9_next 103 = .ok (.iinc 2 1, 3) := by decide +kernel
theorem dX9_next_106 : decode cX9_next 106 = .ok (.goto (-36), 3) := by decide +kernel
theorem dX9_next_109 : decode cX9_next 109 = .ok (.aload_n 0, 1) := by decide +kernel
theorem dX9_next_110 : decode cX9_next 110 = .ok (.invokevirtual 243, 3) := by decide +kernel
theorem dX9_next_113 : decode cX9_next 113 = .ok (.iload_n 1, 1) := by decide +kernel
theorem dX9_next_114 : decode cX9_next 114 = .ok (.ireturn, 1) := by decide +kernel
theorem dX9_rings_0 : decode cX9_rings 0 = .ok (.aload_n 0, 1) := by decide +kernel
theorem dX9_rings_1 : decode cX9_rings 1 = .ok (.iconst 0, 1) := by decide +kernel
theorem dX9_rings_2 : decode cX9_rings 2 = .ok (.putfield 1, 3) := by decide +kernel
theorem dX9_rings_5 : decode cX9_rings 5 = .ok (.iload_n 1, 1) := by decide +kernel
theorem dX9_rings_6 : decode cX9_rings 6 = .ok (.i2l, 1) := by decide +kernel
theorem dX9_rings_7 : decode cX9_rings 7 = .ok (.lconst 1, 1) := by decide +kernel
theorem dX9_rings_8 : decode cX9_rings 8 = .ok (.ldc2_w 183, 3) := by decide +kernel
theorem dX9_rings_11 : decode cX9_rings 11 = .ok (.invokestatic 21, 3) := by decide +kernel
theorem dX9_rings_14 : decode cX9_rings 14 = .ok (.ifCond .ne 5, 3) := by decide +kernel
theorem dX9_rings_17 : decode cX9_rings 17 = .ok (.iconst (-1), 1) := by decide +kernel
theorem dX9_rings_18 : decode cX9_rings 18 = .ok (.ireturn, 1) := by decide +kernel
theorem dX9_rings_19 : decode cX9_rings 19 = .ok (.aload_n 0, 1) := by decide +kernel
theorem dX9_rings_20 : decode cX9_rings 20 = .ok (.invokevirtual 246, 3) := by decide +kernel
theorem dX9_rings_23 : decode cX9_rings 23 = .ok (.aload_n 0, 1) := by decide +kernel
theorem dX9_rings_24 : decode cX9_rings 24 = .ok (.iload_n 1, 1) := by decide +kernel
theorem dX9_rings_25 : decode cX9_rings 25 = .ok (.invokevirtual 185, 3) := by decide +kernel
theorem dX9_rings_28 : decode cX9_rings 28 = .ok (.istore_n 2, 1) := by decide +kernel
theorem dX9_rings_29 : decode cX9_rings 29 = .ok (.aload_n 0, 1) := by decide +kernel
theorem dX9_rings_30 : decode cX9_rings 30 = .ok (.invokevirtual 249, 3) := by decide +kernel
theorem dX9_rings_33 : decode cX9_rings 33 = .ok (.iload_n 2, 1) := by decide +kernel
theorem dX9_rings_34 : decode cX9_rings 34 = .ok (.ifCond .lt 7, 3) := by decide +kernel
theorem dX9_rings_37 : decode cX9_rings 37 = .ok (.aload_n 0, 1) := by decide +kernel
theorem dX9_rings_38 : decode cX9_rings 38 = .ok (.invokevirtual 252, 3) := by decide +kernel
theorem dX9_rings_41 : decode cX9_rings 41 = .ok (.iload_n 2, 1) := by decide +kernel
theorem dX9_rings_42 : decode cX9_rings 42 = .ok (.ireturn, 1) := by decide +kernel
theorem dX9_quiet_0 : decode cX9_quiet 0 = .ok (.aload_n 0, 1) := by decide +kernel
theorem dX9_quiet_1 : decode cX9_quiet 1 = .ok (.iconst 0, 1) := by decide +kernel
theorem dX9_quiet_2 : decode cX9_quiet 2 = .ok (.putfield 1, 3) := by decide +kernel
theorem dX9_quiet_5 : decode cX9_quiet 5 = .ok (.iload_n 1, 1) := by decide +kernel
theorem dX9_quiet_6 : decode cX9_quiet 6 = .ok (.i2l, 1) := by decide +kernel
theorem dX9_quiet_7 : decode cX9_quiet 7 = .ok (.lconst 1, 1) := by decide +kernel
theorem dX9_quiet_8 : decode cX9_quiet 8 = .ok (.ldc2_w 183, 3) := by decide +kernel
theorem dX9_quiet_11 : decode cX9_quiet 11 = .ok (.invokestatic 21, 3) := by decide +kernel
theorem dX9_quiet_14 : decode cX9_quiet 14 = .ok (.ifCond .ne 5, 3) := by decide +kernel
theorem dX9_quiet_17 : decode cX9_quiet 17 = .ok (.iconst (-1), 1) := by decide +kernel
theorem dX9_quiet_18 : decode cX9_quiet 18 = .ok (.ireturn, 1) := by decide +kernel
theorem dX9_quiet_19 : decode cX9_quiet 19 = .ok (.aload_n 0, 1) := by decide +kernel
theorem dX9_quiet_20 : decode cX9_quiet 20 = .ok (.bipush 6, 2) := by decide +kernel
theorem dX9_quiet_22 : decode cX9_quiet 22 = .ok (.invokevirtual 85, 3) := by decide +kernel
theorem dX9_quiet_25 : decode cX9_quiet 25 = .ok (.iload_n 1, 1) := by decide +kernel
theorem dX9_quiet_26 : decode cX9_quiet 26 = .ok (.iadd, 1) := by decide +kernel
theorem dX9_quiet_27 : decode cX9_quiet 27 = .ok (.ldc 157, 2) := by decide +kernel
theorem dX9_quiet_29 : decode cX9_quiet 29 = .ok (.if_icmp .le 6, 3) := by decide +kernel
theorem dX9_quiet_32 : decode cX9_quiet 32 = .ok (.bipush (-4), 2) := by decide +kernel
theorem dX9_quiet_34 : decode cX9_quiet 34 = .ok (.ireturn, 1) := by decide +kernel
theorem dX9_quiet_35 : decode cX9_quiet 35 = .ok (.aload_n 0, 1) := by decide +kernel
theorem dX9_quiet_36 : decode cX9_quiet 36 = .ok (.invokevirtual 246, 3) := by decide +kernel
theorem dX9_quiet_39 : decode cX9_quiet 39 = .ok (.iconst 0, 1) := by decide +kernel
theorem dX9_quiet_40 : decode cX9_quiet 40 = .ok (.istore_n 2, 1) := by decide +kernel
theorem dX9_quiet_41 : decode cX9_quiet 41 = .ok (.iconst 0, 1) := by decide +kernel
theorem dX9_quiet_42 : decode cX9_quiet 42 = .ok (.istore_n 3, 1) := by decide +kernel
theorem dX9_quiet_43 : decode cX9_quiet 43 = .ok (.iconst 0, 1) := by decide +kernel
theorem dX9_quiet_44 : decode cX9_quiet 44 = .ok (.istore 4, 2) := by decide +kernel
theorem dX9_quiet_46 : decode cX9_quiet 46 = .ok (.iconst 0, 1) := by decide +kernel
theorem dX9_quiet_47 : decode cX9_quiet 47 = .ok (.istore 5, 2) := by decide +kernel
theorem dX9_quiet_49 : decode cX9_quiet 49 = .ok (.iload 5, 2) := by decide +kernel
theorem dX9_quiet_51 : decode cX9_quiet 51 = .ok (.iload_n 1, 1) := by decide +kernel
theorem dX9_quiet_52 : decode cX9_quiet 52 = .ok (.if_icmp .ge 60, 3) := by decide +kernel
theorem dX9_quiet_55 : decode cX9_quiet 55 = .ok (.aload_n 0, 1) := by decide +kernel
theorem dX9_quiet_56 : decode cX9_quiet 56 = .ok (.iconst 1, 1) := by decide +kernel
theorem dX9_quiet_57 : decode cX9_quiet 57 = .ok (.invokevirtual 185, 3) := by decide +kernel
theorem dX9_quiet_60 : decode cX9_quiet 60 = .ok (.istore 6, 2) := by decide +kernel
theorem dX9_quiet_62 : decode cX9_quiet 62 = .ok (.iload 6, 2) := by decide +kernel
theorem dX9_quiet_64 : decode cX9_quiet 64 = .ok (.ifCond .ne 10, 3) := by decide +kernel
theorem dX9_quiet_67 : decode cX9_quiet 67 = .ok (.iload 4, 2) := by decide +kernel
theorem dX9_quiet_69 : decode cX9_quiet 69 = .ok (.iconst 1, 1) := by decide +kernel
theorem dX9_quiet_70 : decode cX9_quiet 70 = .ok (.iadd, 1) := by decide +kernel
theorem dX9_quiet_71 : decode cX9_quiet 71 = .ok (.goto 4, 3) := by decide +kernel
theorem dX9_quiet_74 : decode cX9_quiet 74 = .ok (.iconst 0, 1) := by decide +kernel
theorem dX9_quiet_75 : decode cX9_quiet 75 = .ok (.istore 4, 2) := by decide +kernel
theorem dX9_quiet_77 : decode cX9_quiet 77 = .ok (.iload 4, 2) := by decide +kernel
theorem dX9_quiet_79 : decode cX9_quiet 79 = .ok (.iload_n 2, 1) := by decide +kernel
theorem dX9_quiet_80 : decode cX9_quiet 80 = .ok (.if_icmp .le 17, 3) := by decide +kernel
theorem dX9_quiet_83 : decode cX9_quiet 83 = .ok (.aload_n 0, 1) := by decide +kernel
theorem dX9_quiet_84 : decode cX9_quiet 84 = .ok (.bipush 6, 2) := by decide +kernel
theorem dX9_quiet_86 : decode cX9_quiet 86 = .ok (.invokevirtual 85, 3) := by decide +kernel
theorem dX9_quiet_89 : decode cX9_quiet 89 = .ok (.iload 4, 2) := by decide +kernel
theorem dX9_quiet_91 : decode cX9_quiet 91 = .ok (.isub, 1) := by decide +kernel
theorem dX9_quiet_92 : decode cX9_quiet 92 = .ok (.iconst 1, 1) := by decide +kernel
theorem dX9_quiet_93 : decode cX9_quiet 93 = .ok (.iadd, 1) := by decide +kernel
theorem dX9_quiet_94 : decode cX9_quiet 94 = .ok (.goto 4, 3) := by decide +kernel
theorem dX9_quiet_97 : decode cX9_quiet 97 = .ok (.iload_n 3, 1) := by decide +kernel
theorem dX9_quiet_98 : decode cX9_quiet 98 = .ok (.istore_n 3, 1) := by decide +kernel
theorem dX9_quiet_99 : decode cX9_quiet 99 = .ok (.iload_n 2, 1) := by decide +kernel
theorem dX9_quiet_100 : decode cX9_quiet 100 = .ok (.iload 4, 2) := by decide +kernel
theorem dX9_quiet_102 : decode cX9_quiet 102 = .ok (.invokestatic 150, 3) := by decide +kernel
theorem dX9_quiet_105 : decode cX9_quiet 105 = .ok (.istore_n 2, 1) := by decide +kernel
theorem dX9_quiet_106 : decode cX9_quiet 106 = .ok (.iinc 5 1, 3) := by decide +kernel
theorem dX9_quiet_109 : decode cX9_quiet 109 = .ok (.goto (-60), 3) := by decide +kernel
theorem dX9_quiet_112 : decode cX9_quiet 112 = .ok (.aload_n 0, 1) := by decide +kernel
theorem dX9_quiet_113 : decode cX9_quiet 113 = .ok (.invokevirtual 249, 3) := by decide +kernel
theorem dX9_quiet_116 : decode cX9_quiet 116 = .ok (.aload_n 0, 1) := by decide +kernel
theorem dX9_quiet_117 : decode cX9_quiet 117 = .ok (.iconst 0, 1) := by decide +kernel
theorem dX9_quiet_118 : decode cX9_quiet 118 = .ok (.putfield 11, 3) := by decide +kernel
theorem dX9_quiet_121 : decode cX9_quiet 121 = .ok (.aload_n 0, 1) := by decide +kernel
theorem dX9_quiet_122 : decode cX9_quiet 122 = .ok (.iload_n 3, 1) := by decide +kernel
theorem dX9_quiet_123 : decode cX9_quiet 123 = .ok (.i2l, 1) := by decide +kernel
theorem dX9_quiet_124 : decode cX9_quiet 124 = .ok (.invokevirtual 153, 3) := by decide +kernel
theorem dX9_quiet_127 : decode cX9_quiet 127 = .ok (.iload_n 2, 1) := by decide +kernel
theorem dX9_quiet_128 : decode cX9_quiet 128 = .ok (.ireturn, 1) := by decide +kernel
theorem dX9_ways_0 : decode cX9_ways 0 = .ok (.iconst 0, 1) := by decide +kernel
theorem dX9_ways_1 : decode cX9_ways 1 = .ok (.istore_n 3, 1) := by decide +kernel
theorem dX9_ways_2 : decode cX9_ways 2 = .ok (.iload_n 2, 1) := by decide +kernel
theorem dX9_ways_3 : decode cX9_ways 3 = .ok (.istore 4, 2) := by decide +kernel
theorem dX9_ways_5 : decode cX9_ways 5 = .ok (.iload 4, 2) := by decide +kernel
theorem dX9_ways_7 : decode cX9_ways 7 = .ok (.ifCond .eq 64, 3) := by decide +kernel
theorem dX9_ways_10 : decode cX9_ways 10 = .ok (.iload 4, 2) := by decide +kernel
theorem dX9_ways_12 : decode cX9_ways 12 = .ok (.ifCond .ge 10, 3) := by decide +kernel
theorem dX9_ways_15 : decode cX9_ways 15 = .ok (.aload_n 0, 1) := by decide +kernel
theorem dX9_ways_16 : decode cX9_ways 16 = .ok (.invokevirtual 135, 3) := by decide +kernel
theorem dX9_ways_19 : decode cX9_ways 19 = .ok (.goto 9, 3) := by decide +kernel
theorem dX9_ways_22 : decode cX9_ways 22 = .ok (.aload_n 0, 1) := by decide +kernel
theorem dX9_ways_23 : decode cX9_ways 23 = .ok (.iload 4, 2) := by decide +kernel
theorem dX9_ways_25 : decode cX9_ways 25 = .ok (.invokevirtual 93, 3) := by decide +kernel
theorem dX9_ways_28 : decode cX9_ways 28 = .ok (.istore 5, 2) := by decide +kernel
theorem dX9_ways_30 : decode cX9_ways 30 = .ok (.aload_n 0, 1) := by decide +kernel
theorem dX9_ways_31 : decode cX9_ways 31 = .ok (.getfield 67, 3) := by decide +kernel
theorem dX9_ways_34 : decode cX9_ways 34 = .ok (.iload_n 3, 1) := by decide +kernel
theorem dX9_ways_35 : decode cX9_ways 35 = .ok (.iload_n 1, 1) := by decide +kernel
theorem dX9_ways_36 : decode cX9_ways 36 = .ok (.iload 5, 2) := by decide +kernel
theorem dX9_ways_38 : decode cX9_ways 38 = .ok (.idiv, 1) := by decide +kernel
theorem dX9_ways_39 : decode cX9_ways 39 = .ok (.iload 5, 2) := by decide +kernel
theorem dX9_ways_41 : decode cX9_ways 41 = .ok (.imul, 1) := by decide +kernel
theorem dX9_ways_42 : decode cX9_ways 42 = .ok (.iastore, 1) := by decide +kernel
theorem dX9_ways_43 : decode cX9_ways 43 = .ok (.aload_n 0, 1) := by decide +kernel
theorem dX9_ways_44 : decode cX9_ways 44 = .ok (.iload_n 1, 1) := by decide +kernel
theorem dX9_ways_45 : decode cX9_ways 45 = .ok (.aload_n 0, 1) := by decide +kernel
theorem dX9_ways_46 : decode cX9_ways 46 = .ok (.getfield 67, 3) := by decide +kernel
theorem dX9_ways_49 : decode cX9_ways 49 = .ok (.iload_n 3, 1) := by decide +kernel
theorem dX9_ways_50 : decode cX9_ways 50 = .ok (.iaload, 1) := by decide +kernel
theorem dX9_ways_51 : decode cX9_ways 51 = .ok (.isub, 1) := by decide +kernel
theorem dX9_ways_52 : decode cX9_ways 52 = .ok (.invokevirtual 96, 3) := by decide +kernel
theorem dX9_ways_55 : decode cX9_ways 55 = .ok (.istore 4, 2) := by decide +kernel
theorem dX9_ways_57 : decode cX9_ways 57 = .ok (.aload_n 0, 1) := by decide +kernel
theorem dX9_ways_58 : decode cX9_ways 58 = .ok (.getfield 70, 3) := by decide +kernel
theorem dX9_ways_61 : decode cX9_ways 61 = .ok (.iload_n 3, 1) := by decide +kernel
theorem dX9_ways_62 : decode cX9_ways 62 = .ok (.iload 4, 2) := by decide +kernel
theorem dX9_ways_64 : decode cX9_ways 64 = .ok (.iastore, 1) := by decide +kernel
theorem dX9_ways_65 : decode cX9_ways 65 = .ok (.iinc 3 1, 3) := by decide +kernel
theorem dX9_ways_68 : decode cX9_ways 68 = .ok (.goto (-63), 3) := by decide +kernel
theorem dX9_ways_71 : decode cX9_ways 71 = .ok (.iload_n 3, 1) := by decide +kernel
theorem dX9_ways_72 : decode cX9_ways 72 = .ok (.ireturn, 1) := by decide +kernel
theorem dX9_movesOf_0 : decode cX9_movesOf 0 = .ok (.aload_n 0, 1) := by decide +kernel
theorem dX9_movesOf_1 : decode cX9_movesOf 1 = .ok (.aload_n 0, 1) := by decide +kernel
theorem dX9_movesOf_2 : decode cX9_movesOf 2 = .ok (.sipush 231, 3) := by decide +kernel
theorem dX9_movesOf_5 : decode cX9_movesOf 5 = .ok (.iload_n 1, 1) := by decide +kernel
theorem dX9_movesOf_6 : decode cX9_movesOf 6 = .ok (.iadd, 1) := by decide +kernel
theorem dX9_movesOf_7 : decode cX9_movesOf 7 = .ok (.invokevirtual 85, 3) := by decide +kernel
theorem dX9_movesOf_10 : decode cX9_movesOf 10 = .ok (.aload_n 0, 1) := by decide +kernel
theorem dX9_movesOf_11 : decode cX9_movesOf 11 = .ok (.sipush 391, 3) := by decide +kernel
theorem dX9_movesOf_14 : decode cX9_movesOf 14 = .ok (.iload_n 1, 1) := by decide +kernel
theorem dX9_movesOf_15 : decode cX9_movesOf 15 = .ok (.iadd, 1) := by decide +kernel
theorem dX9_movesOf_16 : decode cX9_movesOf 16 = .ok (.invokevirtual 85, 3) := by decide +kernel
theorem dX9_movesOf_19 : decode cX9_movesOf 19 = .ok (.invokevirtual 255, 3) := by decide +kernel
theorem dX9_movesOf_22 : decode cX9_movesOf 22 = .ok (.ireturn, 1) := by decide +kernel
theorem dX9_moves_0 : decode cX9_moves 0 = .ok (.aload_n 0, 1) := by decide +kernel
theorem dX9_moves_1 : decode cX9_moves 1 = .ok (.iconst 0, 1) := by decide +kernel
theorem dX9_moves_2 : decode cX9_moves 2 = .ok (.putfield 1, 3) := by decide +kernel
theorem dX9_moves_5 : decode cX9_moves 5 = .ok (.aload_n 0, 1) := by decide +kernel
theorem dX9_moves_6 : decode cX9_moves 6 = .ok (.iload_n 1, 1) := by decide +kernel
theorem dX9_moves_7 : decode cX9_moves 7 = .ok (.invokevirtual 89, 3) := by decide +kernel
theorem dX9_moves_10 : decode cX9_moves 10 = .ok (.ifCond .ne 5, 3) := by decide +kernel
theorem dX9_moves_13 : decode cX9_moves 13 = .ok (.iconst (-1), 1) := by decide +kernel
theorem dX9_moves_14 : decode cX9_moves 14 = .ok (.ireturn, 1) := by decide +kernel
theorem dX9_moves_15 : decode cX9_moves 15 = .ok (.aload_n 0, 1) := by decide +kernel
theorem dX9_moves_16 : decode cX9_moves 16 = .ok (.sipush 343, 3) := by decide +kernel
theorem dX9_moves_19 : decode cX9_moves 19 = .ok (.iload_n 1, 1) := by decide +kernel
theorem dX9_moves_20 : decode cX9_moves 20 = .ok (.iadd, 1) := by decide +kernel
theorem dX9_moves_21 : decode cX9_moves 21 = .ok (.invokevirtual 85, 3) := by decide +kernel
theorem dX9_moves_24 : decode cX9_moves 24 = .ok (.iconst 1, 1) := by decide +kernel
theorem dX9_moves_25 : decode cX9_moves 25 = .ok (.if_icmp .ne 8, 3) := by decide +kernel
theorem dX9_moves_28 : decode cX9_moves 28 = .ok (.bipush (-2), 2) := by decide +kernel
theorem dX9_moves_30 : decode cX9_moves 30 = .ok (.goto 8, 3) := by decide +kernel
theorem dX9_moves_33 : decode cX9_moves 33 = .ok (.aload_n 0, 1) := by decide +kernel
theorem dX9_moves_34 : decode cX9_moves 34 = .ok (.iload_n 1, 1) := by decide +kernel
theorem dX9_moves_35 : decode cX9_moves 35 = .ok (.invokevirtual 258, 3) := by decide +kernel
theorem dX9_moves_38 : decode cX9_moves 38 = .ok (.ireturn, 1) := by decide +kernel
theorem dX9_way_0 : decode cX9_way 0 = .ok (.aload_n 0, 1) := by decide +kernel
theorem dX9_way_1 : decode cX9_way 1 = .ok (.iconst 0, 1) := by decide +kernel
theorem dX9_way_2 : decode cX9_way 2 = .ok (.putfield 1, 3) := by decide +kernel
theorem dX9_way_5 : decode cX9_way 5 = .ok (.aload_n 0, 1) := by decide +kernel
theorem dX9_way_6 : decode cX9_way 6 = .ok (.iload_n 1, 1) := by decide +kernel
theorem dX9_way_7 : decode cX9_way 7 = .ok (.invokevirtual 89, 3) := by decide +kernel
theorem dX9_way_10 : decode cX9_way 10 = .ok (.ifCond .ne 5, 3) := by decide +kernel
theorem dX9_way_13 : decode cX9_way 13 = .ok (.iconst (-1), 1) := by decide +kernel
theorem dX9_way_14 : decode cX9_way 14 = .ok (.ireturn, 1) := by decide +kernel
theorem dX9_way_15 : decode cX9_way 15 = .ok (.aload_n 0, 1) := by decide +kernel
