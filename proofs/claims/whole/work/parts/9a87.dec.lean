theorem d14_47_0 : decode prog_14_method_47_code 0 = .ok (.aload_n 0, 1) := by decide +kernel
theorem d14_47_1 : decode prog_14_method_47_code 1 = .ok (.getfield 80, 3) := by decide +kernel
theorem d14_47_4 : decode prog_14_method_47_code 4 = .ok (.iconst 4, 1) := by decide +kernel
theorem d14_47_5 : decode prog_14_method_47_code 5 = .ok (.iload_n 1, 1) := by decide +kernel
theorem d14_47_6 : decode prog_14_method_47_code 6 = .ok (.imul, 1) := by decide +kernel
theorem d14_47_7 : decode prog_14_method_47_code 7 = .ok (.iload_n 2, 1) := by decide +kernel
theorem d14_47_8 : decode prog_14_method_47_code 8 = .ok (.iadd, 1) := by decide +kernel
theorem d14_47_9 : decode prog_14_method_47_code 9 = .ok (.iaload, 1) := by decide +kernel
theorem d14_47_10 : decode prog_14_method_47_code 10 = .ok (.istore 5, 2) := by decide +kernel
theorem d14_47_12 : decode prog_14_method_47_code 12 = .ok (.iload_n 3, 1) := by decide +kernel
theorem d14_47_13 : decode prog_14_method_47_code 13 = .ok (.ifCond .ge 7, 3) := by decide +kernel
theorem d14_47_16 : decode prog_14_method_47_code 16 = .ok (.iconst 0, 1) := by decide +kernel
theorem d14_47_17 : decode prog_14_method_47_code 17 = .ok (.goto 14, 3) := by decide +kernel
theorem d14_47_20 : decode prog_14_method_47_code 20 = .ok (.aload_n 0, 1) := by decide +kernel
theorem d14_47_21 : decode prog_14_method_47_code 21 = .ok (.getfield 80, 3) := by decide +kernel
theorem d14_47_24 : decode prog_14_method_47_code 24 = .ok (.iconst 4, 1) := by decide +kernel
theorem d14_47_25 : decode prog_14_method_47_code 25 = .ok (.iload_n 3, 1) := by decide +kernel
theorem d14_47_26 : decode prog_14_method_47_code 26 = .ok (.imul, 1) := by decide +kernel
theorem d14_47_27 : decode prog_14_method_47_code 27 = .ok (.iload 4, 2) := by decide +kernel
theorem d14_47_29 : decode prog_14_method_47_code 29 = .ok (.iadd, 1) := by decide +kernel
theorem d14_47_30 : decode prog_14_method_47_code 30 = .ok (.iaload, 1) := by decide +kernel
theorem d14_47_31 : decode prog_14_method_47_code 31 = .ok (.istore 6, 2) := by decide +kernel
theorem d14_47_33 : decode prog_14_method_47_code 33 = .ok (.iload 5, 2) := by decide +kernel
theorem d14_47_35 : decode prog_14_method_47_code 35 = .ok (.iload 6, 2) := by decide +kernel
theorem d14_47_37 : decode prog_14_method_47_code 37 = .ok (.iadd, 1) := by decide +kernel
theorem d14_47_38 : decode prog_14_method_47_code 38 = .ok (.bipush 12, 2) := by decide +kernel
theorem d14_47_40 : decode prog_14_method_47_code 40 = .ok (.if_icmp .le 5, 3) := by decide +kernel
theorem d14_47_43 : decode prog_14_method_47_code 43 = .ok (.iconst 0, 1) := by decide +kernel
theorem d14_47_44 : decode prog_14_method_47_code 44 = .ok (.ireturn, 1) := by decide +kernel
theorem d14_47_45 : decode prog_14_method_47_code 45 = .ok (.aload_n 0, 1) := by decide +kernel
theorem d14_47_46 : decode prog_14_method_47_code 46 = .ok (.getfield 74, 3) := by decide +kernel
theorem d14_47_49 : decode prog_14_method_47_code 49 = .ok (.bipush 31, 2) := by decide +kernel
theorem d14_47_51 : decode prog_14_method_47_code 51 = .ok (.iaload, 1) := by decide +kernel
theorem d14_47_52 : decode prog_14_method_47_code 52 = .ok (.istore 7, 2) := by decide +kernel
theorem d14_47_54 : decode prog_14_method_47_code 54 = .ok (.iload 7, 2) := by decide +kernel
theorem d14_47_56 : decode prog_14_method_47_code 56 = .ok (.iconst 4, 1) := by decide +kernel
theorem d14_47_57 : decode prog_14_method_47_code 57 = .ok (.if_icmp .ge 8, 3) := by decide +kernel
theorem d14_47_60 : decode prog_14_method_47_code 60 = .ok (.bipush 31, 2) := by decide +kernel
theorem d14_47_62 : decode prog_14_method_47_code 62 = .ok (.goto 5, 3) := by decide +kernel
theorem d14_47_65 : decode prog_14_method_47_code 65 = .ok (.bipush 29, 2) := by decide +kernel
theorem d14_47_67 : decode prog_14_method_47_code 67 = .ok (.istore 8, 2) := by decide +kernel
theorem d14_47_69 : decode prog_14_method_47_code 69 = .ok (.iload 7, 2) := by decide +kernel
theorem d14_47_71 : decode prog_14_method_47_code 71 = .ok (.iconst 4, 1) := by decide +kernel
theorem d14_47_72 : decode prog_14_method_47_code 72 = .ok (.if_icmp .ge 8, 3) := by decide +kernel
theorem d14_47_75 : decode prog_14_method_47_code 75 = .ok (.iload 7, 2) := by decide +kernel
theorem d14_47_77 : decode prog_14_method_47_code 77 = .ok (.goto 4, 3) := by decide +kernel
theorem d14_47_80 : decode prog_14_method_47_code 80 = .ok (.iconst 0, 1) := by decide +kernel
theorem d14_47_81 : decode prog_14_method_47_code 81 = .ok (.istore 9, 2) := by decide +kernel
theorem d14_47_83 : decode prog_14_method_47_code 83 = .ok (.iconst 0, 1) := by decide +kernel
theorem d14_47_84 : decode prog_14_method_47_code 84 = .ok (.istore 10, 2) := by decide +kernel
theorem d14_47_86 : decode prog_14_method_47_code 86 = .ok (.iload 10, 2) := by decide +kernel
theorem d14_47_88 : decode prog_14_method_47_code 88 = .ok (.iload 5, 2) := by decide +kernel
theorem d14_47_90 : decode prog_14_method_47_code 90 = .ok (.if_icmp .ge 45, 3) := by decide +kernel
theorem d14_47_93 : decode prog_14_method_47_code 93 = .ok (.aload_n 0, 1) := by decide +kernel
theorem d14_47_94 : decode prog_14_method_47_code 94 = .ok (.getfield 77, 3) := by decide +kernel
theorem d14_47_97 : decode prog_14_method_47_code 97 = .ok (.bipush 48, 2) := by decide +kernel
theorem d14_47_99 : decode prog_14_method_47_code 99 = .ok (.iload 8, 2) := by decide +kernel
theorem d14_47_101 : decode prog_14_method_47_code 101 = .ok (.imul, 1) := by decide +kernel
theorem d14_47_102 : decode prog_14_method_47_code 102 = .ok (.bipush 12, 2) := by decide +kernel
theorem d14_47_104 : decode prog_14_method_47_code 104 = .ok (.iload 9, 2) := by decide +kernel
theorem d14_47_106 : decode prog_14_method_47_code 106 = .ok (.imul, 1) := by decide +kernel
theorem d14_47_107 : decode prog_14_method_47_code 107 = .ok (.iadd, 1) := by decide +kernel
theorem d14_47_108 : decode prog_14_method_47_code 108 = .ok (.iload 10, 2) := by decide +kernel
theorem d14_47_110 : decode prog_14_method_47_code 110 = .ok (.iadd, 1) := by decide +kernel
theorem d14_47_111 : decode prog_14_method_47_code 111 = .ok (.aload_n 0, 1) := by decide +kernel
theorem d14_47_112 : decode prog_14_method_47_code 112 = .ok (.getfield 77, 3) := by decide +kernel
theorem d14_47_115 : decode prog_14_method_47_code 115 = .ok (.bipush 48, 2) := by decide +kernel
theorem d14_47_117 : decode prog_14_method_47_code 117 = .ok (.iload_n 1, 1) := by decide +kernel
theorem d14_47_118 : decode prog_14_method_47_code 118 = .ok (.imul, 1) := by decide +kernel
theorem d14_47_119 : decode prog_14_method_47_code 119 = .ok (.bipush 12, 2) := by decide +kernel
theorem d14_47_121 : decode prog_14_method_47_code 121 = .ok (.iload_n 2, 1) := by decide +kernel
theorem d14_47_122 : decode prog_14_method_47_code 122 = .ok (.imul, 1) := by decide +kernel
theorem d14_47_123 : decode prog_14_method_47_code 123 = .ok (.iadd, 1) := by decide +kernel
theorem d14_47_124 : decode prog_14_method_47_code 124 = .ok (.iload 10, 2) := by decide +kernel
theorem d14_47_126 : decode prog_14_method_47_code 126 = .ok (.iadd, 1) := by decide +kernel
theorem d14_47_127 : decode prog_14_method_47_code 127 = .ok (.iaload, 1) := by decide +kernel
theorem d14_47_128 : decode prog_14_method_47_code 128 = .ok (.iastore, 1) := by decide +kernel
theorem d14_47_129 : decode prog_14_method_47_code 129 = .ok (.iinc 10 1, 3) := by decide +kernel
theorem d14_47_132 : decode prog_14_method_47_code 132 = .ok (.goto (-46), 3) := by decide +kernel
theorem d14_47_135 : decode prog_14_method_47_code 135 = .ok (.iconst 0, 1) := by decide +kernel
theorem d14_47_136 : decode prog_14_method_47_code 136 = .ok (.istore 10, 2) := by decide +kernel
theorem d14_47_138 : decode prog_14_method_47_code 138 = .ok (.iload 10, 2) := by decide +kernel
theorem d14_47_140 : decode prog_14_method_47_code 140 = .ok (.iload 6, 2) := by decide +kernel
theorem d14_47_142 : decode prog_14_method_47_code 142 = .ok (.if_icmp .ge 49, 3) := by decide +kernel
theorem d14_47_145 : decode prog_14_method_47_code 145 = .ok (.aload_n 0, 1) := by decide +kernel
theorem d14_47_146 : decode prog_14_method_47_code 146 = .ok (.getfield 77, 3) := by decide +kernel
theorem d14_47_149 : decode prog_14_method_47_code 149 = .ok (.bipush 48, 2) := by decide +kernel
theorem d14_47_151 : decode prog_14_method_47_code 151 = .ok (.iload 8, 2) := by decide +kernel
theorem d14_47_153 : decode prog_14_method_47_code 153 = .ok (.imul, 1) := by decide +kernel
theorem d14_47_154 : decode prog_14_method_47_code 154 = .ok (.bipush 12, 2) := by decide +kernel
theorem d14_47_156 : decode prog_14_method_47_code 156 = .ok (.iload 9, 2) := by decide +kernel
theorem d14_47_158 : decode prog_14_method_47_code 158 = .ok (.imul, 1) := by decide +kernel
theorem d14_47_159 : decode prog_14_method_47_code 159 = .ok (.iadd, 1) := by decide +kernel
theorem d14_47_160 : decode prog_14_method_47_code 160 = .ok (.iload 5, 2) := by decide +kernel
theorem d14_47_162 : decode prog_14_method_47_code 162 = .ok (.iadd, 1) := by decide +kernel
theorem d14_47_163 : decode prog_14_method_47_code 163 = .ok (.iload 10, 2) := by decide +kernel
theorem d14_47_165 : decode prog_14_method_47_code 165 = .ok (.iadd, 1) := by decide +kernel
theorem d14_47_166 : decode prog_14_method_47_code 166 = .ok (.aload_n 0, 1) := by decide +kernel
theorem d14_47_167 : decode prog_14_method_47_code 167 = .ok (.getfield 77, 3) := by decide +kernel
theorem d14_47_170 : decode prog_14_method_47_code 170 = .ok (.bipush 48, 2) := by decide +kernel
theorem d14_47_172 : decode prog_14_method_47_code 172 = .ok (.iload_n 3, 1) := by decide +kernel
theorem d14_47_173 : decode prog_14_method_47_code 173 = .ok (.imul, 1) := by decide +kernel
theorem d14_47_174 : decode prog_14_method_47_code 174 = .ok (.bipush 12, 2) := by decide +kernel
theorem d14_47_176 : decode prog_14_method_47_code 176 = .ok (.iload 4, 2) := by decide +kernel
theorem d14_47_178 : decode prog_14_method_47_code 178 = .ok (.imul, 1) := by decide +kernel
theorem d14_47_179 : decode prog_14_method_47_code 179 = .ok (.iadd, 1) := by decide +kernel
theorem d14_47_180 : decode prog_14_method_47_code 180 = .ok (.iload 10, 2) := by decide +kernel
theorem d14_47_182 : decode prog_14_method_47_code 182 = .ok (.iadd, 1) := by decide +kernel
theorem d14_47_183 : decode prog_14_method_47_code 183 = .ok (.iaload, 1) := by decide +kernel
theorem d14_47_184 : decode prog_14_method_47_code 184 = .ok (.iastore, 1) := by decide +kernel
theorem d14_47_185 : decode prog_14_method_47_code 185 = .ok (.iinc 10 1, 3) := by decide +kernel
theorem d14_47_188 : decode prog_14_method_47_code 188 = .ok (.goto (-50), 3) := by decide +kernel
theorem d14_47_191 : decode prog_14_method_47_code 191 = .ok (.aload_n 0, 1) := by decide +kernel
theorem d14_47_192 : decode prog_14_method_47_code 192 = .ok (.getfield 80, 3) := by decide +kernel
theorem d14_47_195 : decode prog_14_method_47_code 195 = .ok (.iconst 4, 1) := by decide +kernel
theorem d14_47_196 : decode prog_14_method_47_code 196 = .ok (.iload 8, 2) := by decide +kernel
theorem d14_47_198 : decode prog_14_method_47_code 198 = .ok (.imul, 1) := by decide +kernel
theorem d14_47_199 : decode prog_14_method_47_code 199 = .ok (.iload 9, 2) := by decide +kernel
theorem d14_47_201 : decode prog_14_method_47_code 201 = .ok (.iadd, 1) := by decide +kernel
theorem d14_47_202 : decode prog_14_method_47_code 202 = .ok (.iload 5, 2) := by decide +kernel
theorem d14_47_204 : decode prog_14_method_47_code 204 = .ok (.iload 6, 2) := by decide +kernel
theorem d14_47_206 : decode prog_14_method_47_code 206 = .ok (.iadd, 1) := by decide +kernel
theorem d14_47_207 : decode prog_14_method_47_code 207 = .ok (.iastore, 1) := by decide +kernel
theorem d14_47_208 : decode prog_14_method_47_code 208 = .ok (.iconst 0, 1) := by decide +kernel
theorem d14_47_209 : decode prog_14_method_47_code 209 = .ok (.istore 10, 2) := by decide +kernel
theorem d14_47_211 : decode prog_14_method_47_code 211 = .ok (.iload 10, 2) := by decide +kernel
theorem d14_47_213 : decode prog_14_method_47_code 213 = .ok (.iload 7, 2) := by decide +kernel
theorem d14_47_215 : decode prog_14_method_47_code 215 = .ok (.if_icmp .ge 26, 3) := by decide +kernel
theorem d14_47_218 : decode prog_14_method_47_code 218 = .ok (.aload_n 0, 1) := by decide +kernel
theorem d14_47_219 : decode prog_14_method_47_code 219 = .ok (.bipush 31, 2) := by decide +kernel
theorem d14_47_221 : decode prog_14_method_47_code 221 = .ok (.iload 10, 2) := by decide +kernel
theorem d14_47_223 : decode prog_14_method_47_code 223 = .ok (.iload 8, 2) := by decide +kernel
theorem d14_47_225 : decode prog_14_method_47_code 225 = .ok (.iload 9, 2) := by decide +kernel
theorem d14_47_227 : decode prog_14_method_47_code 227 = .ok (.invokevirtual 222, 3) := by decide +kernel
theorem d14_47_230 : decode prog_14_method_47_code 230 = .ok (.ifCond .eq 5, 3) := by decide +kernel
theorem d14_47_233 : decode prog_14_method_47_code 233 = .ok (.iconst 1, 1) := by decide +kernel
theorem d14_47_234 : decode prog_14_method_47_code 234 = .ok (.ireturn, 1) := by decide +kernel
theorem d14_47_235 : decode prog_14_method_47_code 235 = .ok (.iinc 10 1, 3) := by decide +kernel
theorem d14_47_238 : decode prog_14_method_47_code 238 = .ok (.goto (-27), 3) := by decide +kernel
theorem d14_47_241 : decode prog_14_method_47_code 241 = .ok (.aload_n 0, 1) := by decide +kernel
theorem d14_47_242 : decode prog_14_method_47_code 242 = .ok (.getfield 74, 3) := by decide +kernel
theorem d14_47_245 : decode prog_14_method_47_code 245 = .ok (.bipush 31, 2) := by decide +kernel
theorem d14_47_247 : decode prog_14_method_47_code 247 = .ok (.iload 7, 2) := by decide +kernel
theorem d14_47_249 : decode prog_14_method_47_code 249 = .ok (.iconst 4, 1) := by decide +kernel
theorem d14_47_250 : decode prog_14_method_47_code 250 = .ok (.if_icmp .ge 10, 3) := by decide +kernel
theorem d14_47_253 : decode prog_14_method_47_code 253 = .ok (.iload 7, 2) := by decide +kernel
theorem d14_47_255 : decode prog_14_method_47_code 255 = .ok (.iconst 1, 1) := by decide +kernel
theorem d14_47_256 : decode prog_14_method_47_code 256 = .ok (.iadd, 1) := by decide +kernel
theorem d14_47_257 : decode prog_14_method_47_code 257 = .ok (.goto 5, 3) := by decide +kernel
theorem d14_47_260 : decode prog_14_method_47_code 260 = .ok (.iload 7, 2) := by decide +kernel
theorem d14_47_262 : decode prog_14_method_47_code 262 = .ok (.iastore, 1) := by decide +kernel
theorem d14_47_263 : decode prog_14_method_47_code 263 = .ok (.iload 7, 2) := by decide +kernel
theorem d14_47_265 : decode prog_14_method_47_code 265 = .ok (.iconst 4, 1) := by decide +kernel
theorem d14_47_266 : decode prog_14_method_47_code 266 = .ok (.if_icmp .ge 7, 3) := by decide +kernel
theorem d14_47_269 : decode prog_14_method_47_code 269 = .ok (.iconst 1, 1) := by decide +kernel
theorem d14_47_270 : decode prog_14_method_47_code 270 = .ok (.goto 4, 3) := by decide +kernel
theorem d14_47_273 : decode prog_14_method_47_code 273 = .ok (.iconst 0, 1) := by decide +kernel
theorem d14_47_274 : decode prog_14_method_47_code 274 = .ok (.ireturn, 1) := by decide +kernel
theorem d14_48_0 : decode prog_14_method_48_code 0 = .ok (.aload_n 0, 1) := by decide +kernel
theorem d14_48_1 : decode prog_14_method_48_code 1 = .ok (.getfield 74, 3) := by decide +kernel
theorem d14_48_4 : decode prog_14_method_48_code 4 = .ok (.bipush 31, 2) := by decide +kernel
theorem d14_48_6 : decode prog_14_method_48_code 6 = .ok (.iconst 0, 1) := by decide +kernel
theorem d14_48_7 : decode prog_14_method_48_code 7 = .ok (.iastore, 1) := by decide +kernel
theorem d14_48_8 : decode prog_14_method_48_code 8 = .ok (.iconst 0, 1) := by decide +kernel
theorem d14_48_9 : decode prog_14_method_48_code 9 = .ok (.istore_n 3, 1) := by decide +kernel
theorem d14_48_10 : decode prog_14_method_48_code 10 = .ok (.iload_n 3, 1) := by decide +kernel
theorem d14_48_11 : decode prog_14_method_48_code 11 = .ok (.aload_n 0, 1) := by decide +kernel
theorem d14_48_12 : decode prog_14_method_48_code 12 = .ok (.getfield 74, 3) := by decide +kernel
theorem d14_48_15 : decode prog_14_method_48_code 15 = .ok (.iload_n 1, 1) := by decide +kernel
theorem d14_48_16 : decode prog_14_method_48_code 16 = .ok (.iaload, 1) := by decide +kernel
theorem d14_48_17 : decode prog_14_method_48_code 17 = .ok (.if_icmp .ge 43, 3) := by decide +kernel
theorem d14_48_20 : decode prog_14_method_48_code 20 = .ok (.iconst 0, 1) := by decide +kernel
theorem d14_48_21 : decode prog_14_method_48_code 21 = .ok (.istore 4, 2) := by decide +kernel
theorem d14_48_23 : decode prog_14_method_48_code 23 = .ok (.iload 4, 2) := by decide +kernel
theorem d14_48_25 : decode prog_14_method_48_code 25 = .ok (.aload_n 0, 1) := by decide +kernel
theorem d14_48_26 : decode prog_14_method_48_code 26 = .ok (.getfield 74, 3) := by decide +kernel
theorem d14_48_29 : decode prog_14_method_48_code 29 = .ok (.iload_n 2, 1) := by decide +kernel
theorem d14_48_30 : decode prog_14_method_48_code 30 = .ok (.iaload, 1) := by decide +kernel
theorem d14_48_31 : decode prog_14_method_48_code 31 = .ok (.if_icmp .ge 23, 3) := by decide +kernel
theorem d14_48_34 : decode prog_14_method_48_code 34 = .ok (.aload_n 0, 1) := by decide +kernel
theorem d14_48_35 : decode prog_14_method_48_code 35 = .ok (.iload_n 1, 1) := by decide +kernel
theorem d14_48_36 : decode prog_14_method_48_code 36 = .ok (.iload_n 3, 1) := by decide +kernel
theorem d14_48_37 : decode prog_14_method_48_code 37 = .ok (.iload_n 2, 1) := by decide +kernel
theorem d14_48_38 : decode prog_14_method_48_code 38 = .ok (.iload 4, 2) := by decide +kernel
theorem d14_48_40 : decode prog_14_method_48_code 40 = .ok (.invokevirtual 225, 3) := by decide +kernel
theorem d14_48_43 : decode prog_14_method_48_code 43 = .ok (.ifCond .ne 5, 3) := by decide +kernel
theorem d14_48_46 : decode prog_14_method_48_code 46 = .ok (.iconst 0, 1) := by decide +kernel
theorem d14_48_47 : decode prog_14_method_48_code 47 = .ok (.ireturn, 1) := by decide +kernel
theorem d14_48_48 : decode prog_14_method_48_code 48 = .ok (.iinc 4 1, 3) := by decide +kernel
theorem d14_48_51 : decode prog_14_method_48_code 51 = .ok (.goto (-28), 3) := by decide +kernel
theorem d14_48_54 : decode prog_14_method_48_code 54 = .ok (.iinc 3 1, 3) := by decide +kernel
theorem d14_48_57 : decode prog_14_method_48_code 57 = .ok (.goto (-47), 3) := by decide +kernel
theorem d14_48_60 : decode prog_14_method_48_code 60 = .ok (.iconst 1, 1) := by decide +kernel
theorem d14_48_61 : decode prog_14_method_48_code 61 = .ok (.ireturn, 1) := by decide +kernel
