theorem d14_57_0 : decode prog_14_method_57_code 0 = .ok (.lconst 0, 1) := by decide +kernel
theorem d14_57_1 : decode prog_14_method_57_code 1 = .ok (.lstore 4, 2) := by decide +kernel
theorem d14_57_3 : decode prog_14_method_57_code 3 = .ok (.iconst 0, 1) := by decide +kernel
theorem d14_57_4 : decode prog_14_method_57_code 4 = .ok (.istore 6, 2) := by decide +kernel
theorem d14_57_6 : decode prog_14_method_57_code 6 = .ok (.iload 6, 2) := by decide +kernel
theorem d14_57_8 : decode prog_14_method_57_code 8 = .ok (.aload_n 0, 1) := by decide +kernel
theorem d14_57_9 : decode prog_14_method_57_code 9 = .ok (.getfield 261, 3) := by decide +kernel
theorem d14_57_12 : decode prog_14_method_57_code 12 = .ok (.if_icmp .gt 37, 3) := by decide +kernel
theorem d14_57_15 : decode prog_14_method_57_code 15 = .ok (.lload_n 2, 1) := by decide +kernel
theorem d14_57_16 : decode prog_14_method_57_code 16 = .ok (.iload 6, 2) := by decide +kernel
theorem d14_57_18 : decode prog_14_method_57_code 18 = .ok (.lshr, 1) := by decide +kernel
theorem d14_57_19 : decode prog_14_method_57_code 19 = .ok (.lconst 1, 1) := by decide +kernel
theorem d14_57_20 : decode prog_14_method_57_code 20 = .ok (.land, 1) := by decide +kernel
theorem d14_57_21 : decode prog_14_method_57_code 21 = .ok (.lconst 0, 1) := by decide +kernel
theorem d14_57_22 : decode prog_14_method_57_code 22 = .ok (.lcmp, 1) := by decide +kernel
theorem d14_57_23 : decode prog_14_method_57_code 23 = .ok (.ifCond .eq 20, 3) := by decide +kernel
theorem d14_57_26 : decode prog_14_method_57_code 26 = .ok (.lload 4, 2) := by decide +kernel
theorem d14_57_28 : decode prog_14_method_57_code 28 = .ok (.aload_n 0, 1) := by decide +kernel
theorem d14_57_29 : decode prog_14_method_57_code 29 = .ok (.getfield 86, 3) := by decide +kernel
theorem d14_57_32 : decode prog_14_method_57_code 32 = .ok (.bipush 41, 2) := by decide +kernel
theorem d14_57_34 : decode prog_14_method_57_code 34 = .ok (.iload_n 1, 1) := by decide +kernel
theorem d14_57_35 : decode prog_14_method_57_code 35 = .ok (.imul, 1) := by decide +kernel
theorem d14_57_36 : decode prog_14_method_57_code 36 = .ok (.iload 6, 2) := by decide +kernel
theorem d14_57_38 : decode prog_14_method_57_code 38 = .ok (.iadd, 1) := by decide +kernel
theorem d14_57_39 : decode prog_14_method_57_code 39 = .ok (.laload, 1) := by decide +kernel
theorem d14_57_40 : decode prog_14_method_57_code 40 = .ok (.lor, 1) := by decide +kernel
theorem d14_57_41 : decode prog_14_method_57_code 41 = .ok (.lstore 4, 2) := by decide +kernel
theorem d14_57_43 : decode prog_14_method_57_code 43 = .ok (.iinc 6 1, 3) := by decide +kernel
theorem d14_57_46 : decode prog_14_method_57_code 46 = .ok (.goto (-40), 3) := by decide +kernel
theorem d14_57_49 : decode prog_14_method_57_code 49 = .ok (.lload 4, 2) := by decide +kernel
theorem d14_57_51 : decode prog_14_method_57_code 51 = .ok (.lreturn, 1) := by decide +kernel
theorem d14_58_0 : decode prog_14_method_58_code 0 = .ok (.lconst 1, 1) := by decide +kernel
theorem d14_58_1 : decode prog_14_method_58_code 1 = .ok (.iload_n 2, 1) := by decide +kernel
theorem d14_58_2 : decode prog_14_method_58_code 2 = .ok (.lshl, 1) := by decide +kernel
theorem d14_58_3 : decode prog_14_method_58_code 3 = .ok (.lstore_n 3, 1) := by decide +kernel
theorem d14_58_4 : decode prog_14_method_58_code 4 = .ok (.lconst 0, 1) := by decide +kernel
theorem d14_58_5 : decode prog_14_method_58_code 5 = .ok (.lstore 5, 2) := by decide +kernel
theorem d14_58_7 : decode prog_14_method_58_code 7 = .ok (.aload_n 0, 1) := by decide +kernel
theorem d14_58_8 : decode prog_14_method_58_code 8 = .ok (.getfield 35, 3) := by decide +kernel
theorem d14_58_11 : decode prog_14_method_58_code 11 = .ok (.iload_n 1, 1) := by decide +kernel
theorem d14_58_12 : decode prog_14_method_58_code 12 = .ok (.iaload, 1) := by decide +kernel
theorem d14_58_13 : decode prog_14_method_58_code 13 = .ok (.iconst 1, 1) := by decide +kernel
theorem d14_58_14 : decode prog_14_method_58_code 14 = .ok (.if_icmp .ne 46, 3) := by decide +kernel
theorem d14_58_17 : decode prog_14_method_58_code 17 = .ok (.iload_n 2, 1) := by decide +kernel
theorem d14_58_18 : decode prog_14_method_58_code 18 = .ok (.aload_n 0, 1) := by decide +kernel
theorem d14_58_19 : decode prog_14_method_58_code 19 = .ok (.getfield 261, 3) := by decide +kernel
theorem d14_58_22 : decode prog_14_method_58_code 22 = .ok (.if_icmp .ge 36, 3) := by decide +kernel
theorem d14_58_25 : decode prog_14_method_58_code 25 = .ok (.aload_n 0, 1) := by decide +kernel
theorem d14_58_26 : decode prog_14_method_58_code 26 = .ok (.getfield 56, 3) := by decide +kernel
theorem d14_58_29 : decode prog_14_method_58_code 29 = .ok (.bipush 95, 2) := by decide +kernel
theorem d14_58_31 : decode prog_14_method_58_code 31 = .ok (.iload_n 1, 1) := by decide +kernel
theorem d14_58_32 : decode prog_14_method_58_code 32 = .ok (.imul, 1) := by decide +kernel
theorem d14_58_33 : decode prog_14_method_58_code 33 = .ok (.aload_n 0, 1) := by decide +kernel
theorem d14_58_34 : decode prog_14_method_58_code 34 = .ok (.getfield 7, 3) := by decide +kernel
theorem d14_58_37 : decode prog_14_method_58_code 37 = .ok (.aload_n 0, 1) := by decide +kernel
theorem d14_58_38 : decode prog_14_method_58_code 38 = .ok (.getfield 264, 3) := by decide +kernel
theorem d14_58_41 : decode prog_14_method_58_code 41 = .ok (.iload_n 2, 1) := by decide +kernel
theorem d14_58_42 : decode prog_14_method_58_code 42 = .ok (.iadd, 1) := by decide +kernel
theorem d14_58_43 : decode prog_14_method_58_code 43 = .ok (.iaload, 1) := by decide +kernel
theorem d14_58_44 : decode prog_14_method_58_code 44 = .ok (.iadd, 1) := by decide +kernel
theorem d14_58_45 : decode prog_14_method_58_code 45 = .ok (.bipush 32, 2) := by decide +kernel
theorem d14_58_47 : decode prog_14_method_58_code 47 = .ok (.isub, 1) := by decide +kernel
theorem d14_58_48 : decode prog_14_method_58_code 48 = .ok (.baload, 1) := by decide +kernel
theorem d14_58_49 : decode prog_14_method_58_code 49 = .ok (.ifCond .eq 9, 3) := by decide +kernel
theorem d14_58_52 : decode prog_14_method_58_code 52 = .ok (.lload_n 3, 1) := by decide +kernel
theorem d14_58_53 : decode prog_14_method_58_code 53 = .ok (.iconst 1, 1) := by decide +kernel
theorem d14_58_54 : decode prog_14_method_58_code 54 = .ok (.lshl, 1) := by decide +kernel
theorem d14_58_55 : decode prog_14_method_58_code 55 = .ok (.goto 4, 3) := by decide +kernel
theorem d14_58_58 : decode prog_14_method_58_code 58 = .ok (.lconst 0, 1) := by decide +kernel
theorem d14_58_59 : decode prog_14_method_58_code 59 = .ok (.lreturn, 1) := by decide +kernel
theorem d14_58_60 : decode prog_14_method_58_code 60 = .ok (.aload_n 0, 1) := by decide +kernel
theorem d14_58_61 : decode prog_14_method_58_code 61 = .ok (.getfield 35, 3) := by decide +kernel
theorem d14_58_64 : decode prog_14_method_58_code 64 = .ok (.iload_n 1, 1) := by decide +kernel
theorem d14_58_65 : decode prog_14_method_58_code 65 = .ok (.iaload, 1) := by decide +kernel
theorem d14_58_66 : decode prog_14_method_58_code 66 = .ok (.iconst 2, 1) := by decide +kernel
theorem d14_58_67 : decode prog_14_method_58_code 67 = .ok (.if_icmp .eq 13, 3) := by decide +kernel
theorem d14_58_70 : decode prog_14_method_58_code 70 = .ok (.aload_n 0, 1) := by decide +kernel
theorem d14_58_71 : decode prog_14_method_58_code 71 = .ok (.getfield 35, 3) := by decide +kernel
theorem d14_58_74 : decode prog_14_method_58_code 74 = .ok (.iload_n 1, 1) := by decide +kernel
theorem d14_58_75 : decode prog_14_method_58_code 75 = .ok (.iaload, 1) := by decide +kernel
theorem d14_58_76 : decode prog_14_method_58_code 76 = .ok (.iconst 3, 1) := by decide +kernel
theorem d14_58_77 : decode prog_14_method_58_code 77 = .ok (.if_icmp .ne 31, 3) := by decide +kernel
theorem d14_58_80 : decode prog_14_method_58_code 80 = .ok (.iload_n 2, 1) := by decide +kernel
theorem d14_58_81 : decode prog_14_method_58_code 81 = .ok (.aload_n 0, 1) := by decide +kernel
theorem d14_58_82 : decode prog_14_method_58_code 82 = .ok (.getfield 35, 3) := by decide +kernel
theorem d14_58_85 : decode prog_14_method_58_code 85 = .ok (.iload_n 1, 1) := by decide +kernel
theorem d14_58_86 : decode prog_14_method_58_code 86 = .ok (.iaload, 1) := by decide +kernel
theorem d14_58_87 : decode prog_14_method_58_code 87 = .ok (.iconst 2, 1) := by decide +kernel
theorem d14_58_88 : decode prog_14_method_58_code 88 = .ok (.if_icmp .ne 7, 3) := by decide +kernel
theorem d14_58_91 : decode prog_14_method_58_code 91 = .ok (.iconst 0, 1) := by decide +kernel
theorem d14_58_92 : decode prog_14_method_58_code 92 = .ok (.goto 7, 3) := by decide +kernel
theorem d14_58_95 : decode prog_14_method_58_code 95 = .ok (.aload_n 0, 1) := by decide +kernel
theorem d14_58_96 : decode prog_14_method_58_code 96 = .ok (.getfield 261, 3) := by decide +kernel
theorem d14_58_99 : decode prog_14_method_58_code 99 = .ok (.if_icmp .ne 7, 3) := by decide +kernel
theorem d14_58_102 : decode prog_14_method_58_code 102 = .ok (.lload_n 3, 1) := by decide +kernel
theorem d14_58_103 : decode prog_14_method_58_code 103 = .ok (.goto 4, 3) := by decide +kernel
theorem d14_58_106 : decode prog_14_method_58_code 106 = .ok (.lconst 0, 1) := by decide +kernel
theorem d14_58_107 : decode prog_14_method_58_code 107 = .ok (.lreturn, 1) := by decide +kernel
theorem d14_58_108 : decode prog_14_method_58_code 108 = .ok (.aload_n 0, 1) := by decide +kernel
theorem d14_58_109 : decode prog_14_method_58_code 109 = .ok (.getfield 35, 3) := by decide +kernel
theorem d14_58_112 : decode prog_14_method_58_code 112 = .ok (.iload_n 1, 1) := by decide +kernel
theorem d14_58_113 : decode prog_14_method_58_code 113 = .ok (.iaload, 1) := by decide +kernel
theorem d14_58_114 : decode prog_14_method_58_code 114 = .ok (.iconst 5, 1) := by decide +kernel
theorem d14_58_115 : decode prog_14_method_58_code 115 = .ok (.if_icmp .ne 38, 3) := by decide +kernel
theorem d14_58_118 : decode prog_14_method_58_code 118 = .ok (.aload_n 0, 1) := by decide +kernel
theorem d14_58_119 : decode prog_14_method_58_code 119 = .ok (.getfield 38, 3) := by decide +kernel
theorem d14_58_122 : decode prog_14_method_58_code 122 = .ok (.iload_n 1, 1) := by decide +kernel
theorem d14_58_123 : decode prog_14_method_58_code 123 = .ok (.iaload, 1) := by decide +kernel
theorem d14_58_124 : decode prog_14_method_58_code 124 = .ok (.istore 7, 2) := by decide +kernel
theorem d14_58_126 : decode prog_14_method_58_code 126 = .ok (.iload 7, 2) := by decide +kernel
theorem d14_58_128 : decode prog_14_method_58_code 128 = .ok (.ifCond .lt 23, 3) := by decide +kernel
theorem d14_58_131 : decode prog_14_method_58_code 131 = .ok (.aload_n 0, 1) := by decide +kernel
theorem d14_58_132 : decode prog_14_method_58_code 132 = .ok (.iload 7, 2) := by decide +kernel
theorem d14_58_134 : decode prog_14_method_58_code 134 = .ok (.lload_n 3, 1) := by decide +kernel
theorem d14_58_135 : decode prog_14_method_58_code 135 = .ok (.invokevirtual 267, 3) := by decide +kernel
theorem d14_58_138 : decode prog_14_method_58_code 138 = .ok (.lstore_n 3, 1) := by decide +kernel
theorem d14_58_139 : decode prog_14_method_58_code 139 = .ok (.aload_n 0, 1) := by decide +kernel
theorem d14_58_140 : decode prog_14_method_58_code 140 = .ok (.getfield 41, 3) := by decide +kernel
theorem d14_58_143 : decode prog_14_method_58_code 143 = .ok (.iload 7, 2) := by decide +kernel
theorem d14_58_145 : decode prog_14_method_58_code 145 = .ok (.iaload, 1) := by decide +kernel
theorem d14_58_146 : decode prog_14_method_58_code 146 = .ok (.istore 7, 2) := by decide +kernel
theorem d14_58_148 : decode prog_14_method_58_code 148 = .ok (.goto (-22), 3) := by decide +kernel
theorem d14_58_151 : decode prog_14_method_58_code 151 = .ok (.lload_n 3, 1) := by decide +kernel
theorem d14_58_152 : decode prog_14_method_58_code 152 = .ok (.lreturn, 1) := by decide +kernel
theorem d14_58_153 : decode prog_14_method_58_code 153 = .ok (.aload_n 0, 1) := by decide +kernel
theorem d14_58_154 : decode prog_14_method_58_code 154 = .ok (.getfield 35, 3) := by decide +kernel
theorem d14_58_157 : decode prog_14_method_58_code 157 = .ok (.iload_n 1, 1) := by decide +kernel
theorem d14_58_158 : decode prog_14_method_58_code 158 = .ok (.iaload, 1) := by decide +kernel
theorem d14_58_159 : decode prog_14_method_58_code 159 = .ok (.bipush 6, 2) := by decide +kernel
theorem d14_58_161 : decode prog_14_method_58_code 161 = .ok (.if_icmp .ne 48, 3) := by decide +kernel
theorem d14_58_164 : decode prog_14_method_58_code 164 = .ok (.aload_n 0, 1) := by decide +kernel
theorem d14_58_165 : decode prog_14_method_58_code 165 = .ok (.getfield 38, 3) := by decide +kernel
theorem d14_58_168 : decode prog_14_method_58_code 168 = .ok (.iload_n 1, 1) := by decide +kernel
theorem d14_58_169 : decode prog_14_method_58_code 169 = .ok (.iaload, 1) := by decide +kernel
theorem d14_58_170 : decode prog_14_method_58_code 170 = .ok (.istore 7, 2) := by decide +kernel
theorem d14_58_172 : decode prog_14_method_58_code 172 = .ok (.iload 7, 2) := by decide +kernel
theorem d14_58_174 : decode prog_14_method_58_code 174 = .ok (.ifCond .lt 32, 3) := by decide +kernel
theorem d14_58_177 : decode prog_14_method_58_code 177 = .ok (.lload 5, 2) := by decide +kernel
theorem d14_58_179 : decode prog_14_method_58_code 179 = .ok (.aload_n 0, 1) := by decide +kernel
theorem d14_58_180 : decode prog_14_method_58_code 180 = .ok (.getfield 86, 3) := by decide +kernel
theorem d14_58_183 : decode prog_14_method_58_code 183 = .ok (.bipush 41, 2) := by decide +kernel
theorem d14_58_185 : decode prog_14_method_58_code 185 = .ok (.iload 7, 2) := by decide +kernel
theorem d14_58_187 : decode prog_14_method_58_code 187 = .ok (.imul, 1) := by decide +kernel
theorem d14_58_188 : decode prog_14_method_58_code 188 = .ok (.iload_n 2, 1) := by decide +kernel
theorem d14_58_189 : decode prog_14_method_58_code 189 = .ok (.iadd, 1) := by decide +kernel
theorem d14_58_190 : decode prog_14_method_58_code 190 = .ok (.laload, 1) := by decide +kernel
theorem d14_58_191 : decode prog_14_method_58_code 191 = .ok (.lor, 1) := by decide +kernel
theorem d14_58_192 : decode prog_14_method_58_code 192 = .ok (.lstore 5, 2) := by decide +kernel
theorem d14_58_194 : decode prog_14_method_58_code 194 = .ok (.aload_n 0, 1) := by decide +kernel
theorem d14_58_195 : decode prog_14_method_58_code 195 = .ok (.getfield 41, 3) := by decide +kernel
theorem d14_58_198 : decode prog_14_method_58_code 198 = .ok (.iload 7, 2) := by decide +kernel
theorem d14_58_200 : decode prog_14_method_58_code 200 = .ok (.iaload, 1) := by decide +kernel
theorem d14_58_201 : decode prog_14_method_58_code 201 = .ok (.istore 7, 2) := by decide +kernel
theorem d14_58_203 : decode prog_14_method_58_code 203 = .ok (.goto (-31), 3) := by decide +kernel
theorem d14_58_206 : decode prog_14_method_58_code 206 = .ok (.lload 5, 2) := by decide +kernel
theorem d14_58_208 : decode prog_14_method_58_code 208 = .ok (.lreturn, 1) := by decide +kernel
theorem d14_58_209 : decode prog_14_method_58_code 209 = .ok (.aload_n 0, 1) := by decide +kernel
theorem d14_58_210 : decode prog_14_method_58_code 210 = .ok (.getfield 50, 3) := by decide +kernel
theorem d14_58_213 : decode prog_14_method_58_code 213 = .ok (.iload_n 1, 1) := by decide +kernel
theorem d14_58_214 : decode prog_14_method_58_code 214 = .ok (.iaload, 1) := by decide +kernel
theorem d14_58_215 : decode prog_14_method_58_code 215 = .ok (.ifCond .ge 15, 3) := by decide +kernel
theorem d14_58_218 : decode prog_14_method_58_code 218 = .ok (.aload_n 0, 1) := by decide +kernel
theorem d14_58_219 : decode prog_14_method_58_code 219 = .ok (.getfield 47, 3) := by decide +kernel
theorem d14_58_222 : decode prog_14_method_58_code 222 = .ok (.iload_n 1, 1) := by decide +kernel
theorem d14_58_223 : decode prog_14_method_58_code 223 = .ok (.iaload, 1) := by decide +kernel
theorem d14_58_224 : decode prog_14_method_58_code 224 = .ok (.bipush 41, 2) := by decide +kernel
theorem d14_58_226 : decode prog_14_method_58_code 226 = .ok (.iadd, 1) := by decide +kernel
theorem d14_58_227 : decode prog_14_method_58_code 227 = .ok (.goto 9, 3) := by decide +kernel
theorem d14_58_230 : decode prog_14_method_58_code 230 = .ok (.aload_n 0, 1) := by decide +kernel
theorem d14_58_231 : decode prog_14_method_58_code 231 = .ok (.getfield 50, 3) := by decide +kernel
theorem d14_58_234 : decode prog_14_method_58_code 234 = .ok (.iload_n 1, 1) := by decide +kernel
theorem d14_58_235 : decode prog_14_method_58_code 235 = .ok (.iaload, 1) := by decide +kernel
theorem d14_58_236 : decode prog_14_method_58_code 236 = .ok (.istore 7, 2) := by decide +kernel
theorem d14_58_238 : decode prog_14_method_58_code 238 = .ok (.iconst 0, 1) := by decide +kernel
theorem d14_58_239 : decode prog_14_method_58_code 239 = .ok (.istore 8, 2) := by decide +kernel
theorem d14_58_241 : decode prog_14_method_58_code 241 = .ok (.iload 8, 2) := by decide +kernel
theorem d14_58_243 : decode prog_14_method_58_code 243 = .ok (.iload 7, 2) := by decide +kernel
theorem d14_58_245 : decode prog_14_method_58_code 245 = .ok (.if_icmp .gt 49, 3) := by decide +kernel
theorem d14_58_248 : decode prog_14_method_58_code 248 = .ok (.lload_n 3, 1) := by decide +kernel
theorem d14_58_249 : decode prog_14_method_58_code 249 = .ok (.lconst 0, 1) := by decide +kernel
theorem d14_58_250 : decode prog_14_method_58_code 250 = .ok (.lcmp, 1) := by decide +kernel
theorem d14_58_251 : decode prog_14_method_58_code 251 = .ok (.ifCond .eq 43, 3) := by decide +kernel
theorem d14_58_254 : decode prog_14_method_58_code 254 = .ok (.iload 8, 2) := by decide +kernel
theorem d14_58_256 : decode prog_14_method_58_code 256 = .ok (.aload_n 0, 1) := by decide +kernel
theorem d14_58_257 : decode prog_14_method_58_code 257 = .ok (.getfield 47, 3) := by decide +kernel
theorem d14_58_260 : decode prog_14_method_58_code 260 = .ok (.iload_n 1, 1) := by decide +kernel
theorem d14_58_261 : decode prog_14_method_58_code 261 = .ok (.iaload, 1) := by decide +kernel
theorem d14_58_262 : decode prog_14_method_58_code 262 = .ok (.if_icmp .lt 10, 3) := by decide +kernel
theorem d14_58_265 : decode prog_14_method_58_code 265 = .ok (.lload 5, 2) := by decide +kernel
theorem d14_58_267 : decode prog_14_method_58_code 267 = .ok (.lload_n 3, 1) := by decide +kernel
theorem d14_58_268 : decode prog_14_method_58_code 268 = .ok (.lor, 1) := by decide +kernel
theorem d14_58_269 : decode prog_14_method_58_code 269 = .ok (.goto 5, 3) := by decide +kernel
theorem d14_58_272 : decode prog_14_method_58_code 272 = .ok (.lload 5, 2) := by decide +kernel
theorem d14_58_274 : decode prog_14_method_58_code 274 = .ok (.lstore 5, 2) := by decide +kernel
theorem d14_58_276 : decode prog_14_method_58_code 276 = .ok (.aload_n 0, 1) := by decide +kernel
theorem d14_58_277 : decode prog_14_method_58_code 277 = .ok (.aload_n 0, 1) := by decide +kernel
theorem d14_58_278 : decode prog_14_method_58_code 278 = .ok (.getfield 38, 3) := by decide +kernel
theorem d14_58_281 : decode prog_14_method_58_code 281 = .ok (.iload_n 1, 1) := by decide +kernel
theorem d14_58_282 : decode prog_14_method_58_code 282 = .ok (.iaload, 1) := by decide +kernel
theorem d14_58_283 : decode prog_14_method_58_code 283 = .ok (.lload_n 3, 1) := by decide +kernel
theorem d14_58_284 : decode prog_14_method_58_code 284 = .ok (.invokevirtual 267, 3) := by decide +kernel
theorem d14_58_287 : decode prog_14_method_58_code 287 = .ok (.lstore_n 3, 1) := by decide +kernel
theorem d14_58_288 : decode prog_14_method_58_code 288 = .ok (.iinc 8 1, 3) := by decide +kernel
theorem d14_58_291 : decode prog_14_method_58_code 291 = .ok (.goto (-50), 3) := by decide +kernel
theorem d14_58_294 : decode prog_14_method_58_code 294 = .ok (.lload 5, 2) := by decide +kernel
theorem d14_58_296 : decode prog_14_method_58_code 296 = .ok (.lreturn, 1) := by decide +kernel
