theorem d14_1_0 : decode prog_14_method_1_code 0 = .ok (.aload_n 0, 1) := by decide +kernel
theorem d14_1_1 : decode prog_14_method_1_code 1 = .ok (.invokespecial 1, 3) := by decide +kernel
theorem d14_1_4 : decode prog_14_method_1_code 4 = .ok (.aload_n 0, 1) := by decide +kernel
theorem d14_1_5 : decode prog_14_method_1_code 5 = .ok (.sipush 5120, 3) := by decide +kernel
theorem d14_1_8 : decode prog_14_method_1_code 8 = .ok (.newarray .int, 2) := by decide +kernel
theorem d14_1_10 : decode prog_14_method_1_code 10 = .ok (.putfield 7, 3) := by decide +kernel
theorem d14_1_13 : decode prog_14_method_1_code 13 = .ok (.aload_n 0, 1) := by decide +kernel
theorem d14_1_14 : decode prog_14_method_1_code 14 = .ok (.sipush 128, 3) := by decide +kernel
theorem d14_1_17 : decode prog_14_method_1_code 17 = .ok (.newarray .int, 2) := by decide +kernel
theorem d14_1_19 : decode prog_14_method_1_code 19 = .ok (.putfield 13, 3) := by decide +kernel
theorem d14_1_22 : decode prog_14_method_1_code 22 = .ok (.aload_n 0, 1) := by decide +kernel
theorem d14_1_23 : decode prog_14_method_1_code 23 = .ok (.sipush 128, 3) := by decide +kernel
theorem d14_1_26 : decode prog_14_method_1_code 26 = .ok (.newarray .boolean, 2) := by decide +kernel
theorem d14_1_28 : decode prog_14_method_1_code 28 = .ok (.putfield 16, 3) := by decide +kernel
theorem d14_1_31 : decode prog_14_method_1_code 31 = .ok (.aload_n 0, 1) := by decide +kernel
theorem d14_1_32 : decode prog_14_method_1_code 32 = .ok (.sipush 128, 3) := by decide +kernel
theorem d14_1_35 : decode prog_14_method_1_code 35 = .ok (.newarray .int, 2) := by decide +kernel
theorem d14_1_37 : decode prog_14_method_1_code 37 = .ok (.putfield 20, 3) := by decide +kernel
theorem d14_1_40 : decode prog_14_method_1_code 40 = .ok (.aload_n 0, 1) := by decide +kernel
theorem d14_1_41 : decode prog_14_method_1_code 41 = .ok (.bipush 10, 2) := by decide +kernel
theorem d14_1_43 : decode prog_14_method_1_code 43 = .ok (.newarray .int, 2) := by decide +kernel
theorem d14_1_45 : decode prog_14_method_1_code 45 = .ok (.putfield 23, 3) := by decide +kernel
theorem d14_1_48 : decode prog_14_method_1_code 48 = .ok (.aload_n 0, 1) := by decide +kernel
theorem d14_1_49 : decode prog_14_method_1_code 49 = .ok (.bipush 64, 2) := by decide +kernel
theorem d14_1_51 : decode prog_14_method_1_code 51 = .ok (.newarray .int, 2) := by decide +kernel
theorem d14_1_53 : decode prog_14_method_1_code 53 = .ok (.putfield 26, 3) := by decide +kernel
theorem d14_1_56 : decode prog_14_method_1_code 56 = .ok (.aload_n 0, 1) := by decide +kernel
theorem d14_1_57 : decode prog_14_method_1_code 57 = .ok (.bipush 40, 2) := by decide +kernel
theorem d14_1_59 : decode prog_14_method_1_code 59 = .ok (.newarray .int, 2) := by decide +kernel
theorem d14_1_61 : decode prog_14_method_1_code 61 = .ok (.putfield 29, 3) := by decide +kernel
theorem d14_1_64 : decode prog_14_method_1_code 64 = .ok (.aload_n 0, 1) := by decide +kernel
theorem d14_1_65 : decode prog_14_method_1_code 65 = .ok (.bipush 24, 2) := by decide +kernel
theorem d14_1_67 : decode prog_14_method_1_code 67 = .ok (.newarray .int, 2) := by decide +kernel
theorem d14_1_69 : decode prog_14_method_1_code 69 = .ok (.putfield 32, 3) := by decide +kernel
theorem d14_1_72 : decode prog_14_method_1_code 72 = .ok (.aload_n 0, 1) := by decide +kernel
theorem d14_1_73 : decode prog_14_method_1_code 73 = .ok (.bipush 30, 2) := by decide +kernel
theorem d14_1_75 : decode prog_14_method_1_code 75 = .ok (.newarray .int, 2) := by decide +kernel
theorem d14_1_77 : decode prog_14_method_1_code 77 = .ok (.putfield 35, 3) := by decide +kernel
theorem d14_1_80 : decode prog_14_method_1_code 80 = .ok (.aload_n 0, 1) := by decide +kernel
theorem d14_1_81 : decode prog_14_method_1_code 81 = .ok (.bipush 30, 2) := by decide +kernel
theorem d14_1_83 : decode prog_14_method_1_code 83 = .ok (.newarray .int, 2) := by decide +kernel
theorem d14_1_85 : decode prog_14_method_1_code 85 = .ok (.putfield 38, 3) := by decide +kernel
theorem d14_1_88 : decode prog_14_method_1_code 88 = .ok (.aload_n 0, 1) := by decide +kernel
theorem d14_1_89 : decode prog_14_method_1_code 89 = .ok (.bipush 30, 2) := by decide +kernel
theorem d14_1_91 : decode prog_14_method_1_code 91 = .ok (.newarray .int, 2) := by decide +kernel
theorem d14_1_93 : decode prog_14_method_1_code 93 = .ok (.putfield 41, 3) := by decide +kernel
theorem d14_1_96 : decode prog_14_method_1_code 96 = .ok (.aload_n 0, 1) := by decide +kernel
theorem d14_1_97 : decode prog_14_method_1_code 97 = .ok (.bipush 30, 2) := by decide +kernel
theorem d14_1_99 : decode prog_14_method_1_code 99 = .ok (.newarray .int, 2) := by decide +kernel
theorem d14_1_101 : decode prog_14_method_1_code 101 = .ok (.putfield 44, 3) := by decide +kernel
theorem d14_1_104 : decode prog_14_method_1_code 104 = .ok (.aload_n 0, 1) := by decide +kernel
theorem d14_1_105 : decode prog_14_method_1_code 105 = .ok (.bipush 30, 2) := by decide +kernel
theorem d14_1_107 : decode prog_14_method_1_code 107 = .ok (.newarray .int, 2) := by decide +kernel
theorem d14_1_109 : decode prog_14_method_1_code 109 = .ok (.putfield 47, 3) := by decide +kernel
theorem d14_1_112 : decode prog_14_method_1_code 112 = .ok (.aload_n 0, 1) := by decide +kernel
theorem d14_1_113 : decode prog_14_method_1_code 113 = .ok (.bipush 30, 2) := by decide +kernel
theorem d14_1_115 : decode prog_14_method_1_code 115 = .ok (.newarray .int, 2) := by decide +kernel
theorem d14_1_117 : decode prog_14_method_1_code 117 = .ok (.putfield 50, 3) := by decide +kernel
theorem d14_1_120 : decode prog_14_method_1_code 120 = .ok (.aload_n 0, 1) := by decide +kernel
theorem d14_1_121 : decode prog_14_method_1_code 121 = .ok (.bipush 30, 2) := by decide +kernel
theorem d14_1_123 : decode prog_14_method_1_code 123 = .ok (.newarray .int, 2) := by decide +kernel
theorem d14_1_125 : decode prog_14_method_1_code 125 = .ok (.putfield 53, 3) := by decide +kernel
theorem d14_1_128 : decode prog_14_method_1_code 128 = .ok (.aload_n 0, 1) := by decide +kernel
theorem d14_1_129 : decode prog_14_method_1_code 129 = .ok (.sipush 2850, 3) := by decide +kernel
theorem d14_1_132 : decode prog_14_method_1_code 132 = .ok (.newarray .boolean, 2) := by decide +kernel
theorem d14_1_134 : decode prog_14_method_1_code 134 = .ok (.putfield 56, 3) := by decide +kernel
theorem d14_1_137 : decode prog_14_method_1_code 137 = .ok (.aload_n 0, 1) := by decide +kernel
theorem d14_1_138 : decode prog_14_method_1_code 138 = .ok (.bipush 7, 2) := by decide +kernel
theorem d14_1_140 : decode prog_14_method_1_code 140 = .ok (.newarray .int, 2) := by decide +kernel
theorem d14_1_142 : decode prog_14_method_1_code 142 = .ok (.putfield 59, 3) := by decide +kernel
theorem d14_1_145 : decode prog_14_method_1_code 145 = .ok (.aload_n 0, 1) := by decide +kernel
theorem d14_1_146 : decode prog_14_method_1_code 146 = .ok (.bipush 7, 2) := by decide +kernel
theorem d14_1_148 : decode prog_14_method_1_code 148 = .ok (.newarray .int, 2) := by decide +kernel
theorem d14_1_150 : decode prog_14_method_1_code 150 = .ok (.putfield 62, 3) := by decide +kernel
theorem d14_1_153 : decode prog_14_method_1_code 153 = .ok (.aload_n 0, 1) := by decide +kernel
theorem d14_1_154 : decode prog_14_method_1_code 154 = .ok (.bipush 7, 2) := by decide +kernel
theorem d14_1_156 : decode prog_14_method_1_code 156 = .ok (.newarray .int, 2) := by decide +kernel
theorem d14_1_158 : decode prog_14_method_1_code 158 = .ok (.putfield 65, 3) := by decide +kernel
theorem d14_1_161 : decode prog_14_method_1_code 161 = .ok (.aload_n 0, 1) := by decide +kernel
theorem d14_1_162 : decode prog_14_method_1_code 162 = .ok (.bipush 7, 2) := by decide +kernel
theorem d14_1_164 : decode prog_14_method_1_code 164 = .ok (.newarray .int, 2) := by decide +kernel
theorem d14_1_166 : decode prog_14_method_1_code 166 = .ok (.putfield 68, 3) := by decide +kernel
theorem d14_1_169 : decode prog_14_method_1_code 169 = .ok (.aload_n 0, 1) := by decide +kernel
theorem d14_1_170 : decode prog_14_method_1_code 170 = .ok (.bipush 32, 2) := by decide +kernel
theorem d14_1_172 : decode prog_14_method_1_code 172 = .ok (.newarray .boolean, 2) := by decide +kernel
theorem d14_1_174 : decode prog_14_method_1_code 174 = .ok (.putfield 71, 3) := by decide +kernel
theorem d14_1_177 : decode prog_14_method_1_code 177 = .ok (.aload_n 0, 1) := by decide +kernel
theorem d14_1_178 : decode prog_14_method_1_code 178 = .ok (.bipush 32, 2) := by decide +kernel
theorem d14_1_180 : decode prog_14_method_1_code 180 = .ok (.newarray .int, 2) := by decide +kernel
theorem d14_1_182 : decode prog_14_method_1_code 182 = .ok (.putfield 74, 3) := by decide +kernel
theorem d14_1_185 : decode prog_14_method_1_code 185 = .ok (.aload_n 0, 1) := by decide +kernel
theorem d14_1_186 : decode prog_14_method_1_code 186 = .ok (.sipush 1536, 3) := by decide +kernel
theorem d14_1_189 : decode prog_14_method_1_code 189 = .ok (.newarray .int, 2) := by decide +kernel
theorem d14_1_191 : decode prog_14_method_1_code 191 = .ok (.putfield 77, 3) := by decide +kernel
theorem d14_1_194 : decode prog_14_method_1_code 194 = .ok (.aload_n 0, 1) := by decide +kernel
theorem d14_1_195 : decode prog_14_method_1_code 195 = .ok (.sipush 128, 3) := by decide +kernel
theorem d14_1_198 : decode prog_14_method_1_code 198 = .ok (.newarray .int, 2) := by decide +kernel
theorem d14_1_200 : decode prog_14_method_1_code 200 = .ok (.putfield 80, 3) := by decide +kernel
theorem d14_1_203 : decode prog_14_method_1_code 203 = .ok (.aload_n 0, 1) := by decide +kernel
theorem d14_1_204 : decode prog_14_method_1_code 204 = .ok (.bipush 30, 2) := by decide +kernel
theorem d14_1_206 : decode prog_14_method_1_code 206 = .ok (.newarray .boolean, 2) := by decide +kernel
theorem d14_1_208 : decode prog_14_method_1_code 208 = .ok (.putfield 83, 3) := by decide +kernel
theorem d14_1_211 : decode prog_14_method_1_code 211 = .ok (.aload_n 0, 1) := by decide +kernel
theorem d14_1_212 : decode prog_14_method_1_code 212 = .ok (.sipush 1230, 3) := by decide +kernel
theorem d14_1_215 : decode prog_14_method_1_code 215 = .ok (.newarray .long, 2) := by decide +kernel
theorem d14_1_217 : decode prog_14_method_1_code 217 = .ok (.putfield 86, 3) := by decide +kernel
theorem d14_1_220 : decode prog_14_method_1_code 220 = .ok (.aload_n 0, 1) := by decide +kernel
theorem d14_1_221 : decode prog_14_method_1_code 221 = .ok (.sipush 420, 3) := by decide +kernel
theorem d14_1_224 : decode prog_14_method_1_code 224 = .ok (.newarray .int, 2) := by decide +kernel
theorem d14_1_226 : decode prog_14_method_1_code 226 = .ok (.putfield 90, 3) := by decide +kernel
theorem d14_1_229 : decode prog_14_method_1_code 229 = .ok (.iconst 0, 1) := by decide +kernel
theorem d14_1_230 : decode prog_14_method_1_code 230 = .ok (.istore_n 1, 1) := by decide +kernel
theorem d14_1_231 : decode prog_14_method_1_code 231 = .ok (.iload_n 1, 1) := by decide +kernel
theorem d14_1_232 : decode prog_14_method_1_code 232 = .ok (.sipush 128, 3) := by decide +kernel
theorem d14_1_235 : decode prog_14_method_1_code 235 = .ok (.if_icmp .ge 16, 3) := by decide +kernel
theorem d14_1_238 : decode prog_14_method_1_code 238 = .ok (.aload_n 0, 1) := by decide +kernel
theorem d14_1_239 : decode prog_14_method_1_code 239 = .ok (.getfield 20, 3) := by decide +kernel
theorem d14_1_242 : decode prog_14_method_1_code 242 = .ok (.iload_n 1, 1) := by decide +kernel
theorem d14_1_243 : decode prog_14_method_1_code 243 = .ok (.iconst (-1), 1) := by decide +kernel
theorem d14_1_244 : decode prog_14_method_1_code 244 = .ok (.iastore, 1) := by decide +kernel
theorem d14_1_245 : decode prog_14_method_1_code 245 = .ok (.iinc 1 1, 3) := by decide +kernel
theorem d14_1_248 : decode prog_14_method_1_code 248 = .ok (.goto (-17), 3) := by decide +kernel
theorem d14_1_251 : decode prog_14_method_1_code 251 = .ok (.iconst 0, 1) := by decide +kernel
theorem d14_1_252 : decode prog_14_method_1_code 252 = .ok (.istore_n 1, 1) := by decide +kernel
theorem d14_1_253 : decode prog_14_method_1_code 253 = .ok (.iload_n 1, 1) := by decide +kernel
theorem d14_1_254 : decode prog_14_method_1_code 254 = .ok (.bipush 10, 2) := by decide +kernel
theorem d14_1_256 : decode prog_14_method_1_code 256 = .ok (.if_icmp .ge 16, 3) := by decide +kernel
theorem d14_1_259 : decode prog_14_method_1_code 259 = .ok (.aload_n 0, 1) := by decide +kernel
theorem d14_1_260 : decode prog_14_method_1_code 260 = .ok (.getfield 23, 3) := by decide +kernel
theorem d14_1_263 : decode prog_14_method_1_code 263 = .ok (.iload_n 1, 1) := by decide +kernel
theorem d14_1_264 : decode prog_14_method_1_code 264 = .ok (.iconst (-1), 1) := by decide +kernel
theorem d14_1_265 : decode prog_14_method_1_code 265 = .ok (.iastore, 1) := by decide +kernel
theorem d14_1_266 : decode prog_14_method_1_code 266 = .ok (.iinc 1 1, 3) := by decide +kernel
theorem d14_1_269 : decode prog_14_method_1_code 269 = .ok (.goto (-16), 3) := by decide +kernel
theorem d14_1_272 : decode prog_14_method_1_code 272 = .ok (.return_, 1) := by decide +kernel
theorem d14_7_0 : decode prog_14_method_7_code 0 = .ok (.iconst 0, 1) := by decide +kernel
theorem d14_7_1 : decode prog_14_method_7_code 1 = .ok (.istore_n 2, 1) := by decide +kernel
theorem d14_7_2 : decode prog_14_method_7_code 2 = .ok (.iconst 0, 1) := by decide +kernel
theorem d14_7_3 : decode prog_14_method_7_code 3 = .ok (.istore_n 3, 1) := by decide +kernel
theorem d14_7_4 : decode prog_14_method_7_code 4 = .ok (.iload_n 3, 1) := by decide +kernel
theorem d14_7_5 : decode prog_14_method_7_code 5 = .ok (.sipush 128, 3) := by decide +kernel
theorem d14_7_8 : decode prog_14_method_7_code 8 = .ok (.if_icmp .ge 27, 3) := by decide +kernel
theorem d14_7_11 : decode prog_14_method_7_code 11 = .ok (.aload_n 0, 1) := by decide +kernel
theorem d14_7_12 : decode prog_14_method_7_code 12 = .ok (.getfield 20, 3) := by decide +kernel
theorem d14_7_15 : decode prog_14_method_7_code 15 = .ok (.iload_n 3, 1) := by decide +kernel
theorem d14_7_16 : decode prog_14_method_7_code 16 = .ok (.iaload, 1) := by decide +kernel
theorem d14_7_17 : decode prog_14_method_7_code 17 = .ok (.iload_n 1, 1) := by decide +kernel
theorem d14_7_18 : decode prog_14_method_7_code 18 = .ok (.if_icmp .ne 9, 3) := by decide +kernel
theorem d14_7_21 : decode prog_14_method_7_code 21 = .ok (.iload_n 2, 1) := by decide +kernel
theorem d14_7_22 : decode prog_14_method_7_code 22 = .ok (.iconst 1, 1) := by decide +kernel
theorem d14_7_23 : decode prog_14_method_7_code 23 = .ok (.iadd, 1) := by decide +kernel
theorem d14_7_24 : decode prog_14_method_7_code 24 = .ok (.goto 4, 3) := by decide +kernel
theorem d14_7_27 : decode prog_14_method_7_code 27 = .ok (.iload_n 2, 1) := by decide +kernel
theorem d14_7_28 : decode prog_14_method_7_code 28 = .ok (.istore_n 2, 1) := by decide +kernel
theorem d14_7_29 : decode prog_14_method_7_code 29 = .ok (.iinc 3 1, 3) := by decide +kernel
theorem d14_7_32 : decode prog_14_method_7_code 32 = .ok (.goto (-28), 3) := by decide +kernel
theorem d14_7_35 : decode prog_14_method_7_code 35 = .ok (.iload_n 2, 1) := by decide +kernel
theorem d14_7_36 : decode prog_14_method_7_code 36 = .ok (.ireturn, 1) := by decide +kernel
theorem d14_8_0 : decode prog_14_method_8_code 0 = .ok (.iconst 0, 1) := by decide +kernel
theorem d14_8_1 : decode prog_14_method_8_code 1 = .ok (.istore_n 2, 1) := by decide +kernel
theorem d14_8_2 : decode prog_14_method_8_code 2 = .ok (.iconst 0, 1) := by decide +kernel
theorem d14_8_3 : decode prog_14_method_8_code 3 = .ok (.istore_n 3, 1) := by decide +kernel
theorem d14_8_4 : decode prog_14_method_8_code 4 = .ok (.iload_n 3, 1) := by decide +kernel
theorem d14_8_5 : decode prog_14_method_8_code 5 = .ok (.sipush 128, 3) := by decide +kernel
theorem d14_8_8 : decode prog_14_method_8_code 8 = .ok (.if_icmp .ge 36, 3) := by decide +kernel
theorem d14_8_11 : decode prog_14_method_8_code 11 = .ok (.aload_n 0, 1) := by decide +kernel
theorem d14_8_12 : decode prog_14_method_8_code 12 = .ok (.getfield 20, 3) := by decide +kernel
theorem d14_8_15 : decode prog_14_method_8_code 15 = .ok (.iload_n 3, 1) := by decide +kernel
theorem d14_8_16 : decode prog_14_method_8_code 16 = .ok (.iaload, 1) := by decide +kernel
theorem d14_8_17 : decode prog_14_method_8_code 17 = .ok (.iload_n 1, 1) := by decide +kernel
theorem d14_8_18 : decode prog_14_method_8_code 18 = .ok (.if_icmp .ne 18, 3) := by decide +kernel
theorem d14_8_21 : decode prog_14_method_8_code 21 = .ok (.aload_n 0, 1) := by decide +kernel
theorem d14_8_22 : decode prog_14_method_8_code 22 = .ok (.getfield 16, 3) := by decide +kernel
theorem d14_8_25 : decode prog_14_method_8_code 25 = .ok (.iload_n 3, 1) := by decide +kernel
theorem d14_8_26 : decode prog_14_method_8_code 26 = .ok (.baload, 1) := by decide +kernel
theorem d14_8_27 : decode prog_14_method_8_code 27 = .ok (.ifCond .eq 9, 3) := by decide +kernel
theorem d14_8_30 : decode prog_14_method_8_code 30 = .ok (.iload_n 2, 1) := by decide +kernel
theorem d14_8_31 : decode prog_14_method_8_code 31 = .ok (.iconst 1, 1) := by decide +kernel
theorem d14_8_32 : decode prog_14_method_8_code 32 = .ok (.iadd, 1) := by decide +kernel
theorem d14_8_33 : decode prog_14_method_8_code 33 = .ok (.goto 4, 3) := by decide +kernel
theorem d14_8_36 : decode prog_14_method_8_code 36 = .ok (.iload_n 2, 1) := by decide +kernel
theorem d14_8_37 : decode prog_14_method_8_code 37 = .ok (.istore_n 2, 1) := by decide +kernel
theorem d14_8_38 : decode prog_14_method_8_code 38 = .ok (.iinc 3 1, 3) := by decide +kernel
theorem d14_8_41 : decode prog_14_method_8_code 41 = .ok (.goto (-37), 3) := by decide +kernel
theorem d14_8_44 : decode prog_14_method_8_code 44 = .ok (.iload_n 2, 1) := by decide +kernel
theorem d14_8_45 : decode prog_14_method_8_code 45 = .ok (.ireturn, 1) := by decide +kernel
theorem d14_16_0 : decode prog_14_method_16_code 0 = .ok (.iconst 0, 1) := by decide +kernel
theorem d14_16_1 : decode prog_14_method_16_code 1 = .ok (.istore 4, 2) := by decide +kernel
theorem d14_16_3 : decode prog_14_method_16_code 3 = .ok (.iconst 0, 1) := by decide +kernel
theorem d14_16_4 : decode prog_14_method_16_code 4 = .ok (.istore 5, 2) := by decide +kernel
theorem d14_16_6 : decode prog_14_method_16_code 6 = .ok (.iload 5, 2) := by decide +kernel
theorem d14_16_8 : decode prog_14_method_16_code 8 = .ok (.sipush 128, 3) := by decide +kernel
theorem d14_16_11 : decode prog_14_method_16_code 11 = .ok (.if_icmp .ge 42, 3) := by decide +kernel
theorem d14_16_14 : decode prog_14_method_16_code 14 = .ok (.aload_n 0, 1) := by decide +kernel
theorem d14_16_15 : decode prog_14_method_16_code 15 = .ok (.getfield 20, 3) := by decide +kernel
theorem d14_16_18 : decode prog_14_method_16_code 18 = .ok (.iload 5, 2) := by decide +kernel
theorem d14_16_20 : decode prog_14_method_16_code 20 = .ok (.iaload, 1) := by decide +kernel
theorem d14_16_21 : decode prog_14_method_16_code 21 = .ok (.ifCond .lt 22, 3) := by decide +kernel
theorem d14_16_24 : decode prog_14_method_16_code 24 = .ok (.aload_n 0, 1) := by decide +kernel
theorem d14_16_25 : decode prog_14_method_16_code 25 = .ok (.iload 5, 2) := by decide +kernel
theorem d14_16_27 : decode prog_14_method_16_code 27 = .ok (.iload_n 1, 1) := by decide +kernel
theorem d14_16_28 : decode prog_14_method_16_code 28 = .ok (.iload_n 2, 1) := by decide +kernel
theorem d14_16_29 : decode prog_14_method_16_code 29 = .ok (.iload_n 3, 1) := by decide +kernel
theorem d14_16_30 : decode prog_14_method_16_code 30 = .ok (.invokevirtual 126, 3) := by decide +kernel
theorem d14_16_33 : decode prog_14_method_16_code 33 = .ok (.ifCond .eq 10, 3) := by decide +kernel
theorem d14_16_36 : decode prog_14_method_16_code 36 = .ok (.iload 4, 2) := by decide +kernel
theorem d14_16_38 : decode prog_14_method_16_code 38 = .ok (.iconst 1, 1) := by decide +kernel
theorem d14_16_39 : decode prog_14_method_16_code 39 = .ok (.iadd, 1) := by decide +kernel
theorem d14_16_40 : decode prog_14_method_16_code 40 = .ok (.goto 5, 3) := by decide +kernel
theorem d14_16_43 : decode prog_14_method_16_code 43 = .ok (.iload 4, 2) := by decide +kernel
theorem d14_16_45 : decode prog_14_method_16_code 45 = .ok (.istore 4, 2) := by decide +kernel
theorem d14_16_47 : decode prog_14_method_16_code 47 = .ok (.iinc 5 1, 3) := by decide +kernel
theorem d14_16_50 : decode prog_14_method_16_code 50 = .ok (.goto (-44), 3) := by decide +kernel
theorem d14_16_53 : decode prog_14_method_16_code 53 = .ok (.iload 4, 2) := by decide +kernel
theorem d14_16_55 : decode prog_14_method_16_code 55 = .ok (.ireturn, 1) := by decide +kernel
theorem d14_5_0 : decode prog_14_method_5_code 0 = .ok (.iload_n 1, 1) := by decide +kernel
theorem d14_5_1 : decode prog_14_method_5_code 1 = .ok (.ifCond .lt 18, 3) := by decide +kernel
theorem d14_5_4 : decode prog_14_method_5_code 4 = .ok (.iload_n 1, 1) := by decide +kernel
theorem d14_5_5 : decode prog_14_method_5_code 5 = .ok (.bipush 9, 2) := by decide +kernel
theorem d14_5_7 : decode prog_14_method_5_code 7 = .ok (.if_icmp .gt 12, 3) := by decide +kernel
theorem d14_5_10 : decode prog_14_method_5_code 10 = .ok (.aload_n 0, 1) := by decide +kernel
theorem d14_5_11 : decode prog_14_method_5_code 11 = .ok (.getfield 23, 3) := by decide +kernel
theorem d14_5_14 : decode prog_14_method_5_code 14 = .ok (.iload_n 1, 1) := by decide +kernel
theorem d14_5_15 : decode prog_14_method_5_code 15 = .ok (.iaload, 1) := by decide +kernel
theorem d14_5_16 : decode prog_14_method_5_code 16 = .ok (.ifCond .ge 5, 3) := by decide +kernel
theorem d14_5_19 : decode prog_14_method_5_code 19 = .ok (.iconst 0, 1) := by decide +kernel
theorem d14_5_20 : decode prog_14_method_5_code 20 = .ok (.ireturn, 1) := by decide +kernel
theorem d14_5_21 : decode prog_14_method_5_code 21 = .ok (.aload_n 0, 1) := by decide +kernel
theorem d14_5_22 : decode prog_14_method_5_code 22 = .ok (.getfield 16, 3) := by decide +kernel
theorem d14_5_25 : decode prog_14_method_5_code 25 = .ok (.aload_n 0, 1) := by decide +kernel
theorem d14_5_26 : decode prog_14_method_5_code 26 = .ok (.getfield 23, 3) := by decide +kernel
theorem d14_5_29 : decode prog_14_method_5_code 29 = .ok (.iload_n 1, 1) := by decide +kernel
theorem d14_5_30 : decode prog_14_method_5_code 30 = .ok (.iaload, 1) := by decide +kernel
theorem d14_5_31 : decode prog_14_method_5_code 31 = .ok (.iconst 0, 1) := by decide +kernel
theorem d14_5_32 : decode prog_14_method_5_code 32 = .ok (.bastore, 1) := by decide +kernel
theorem d14_5_33 : decode prog_14_method_5_code 33 = .ok (.aload_n 0, 1) := by decide +kernel
theorem d14_5_34 : decode prog_14_method_5_code 34 = .ok (.getfield 23, 3) := by decide +kernel
theorem d14_5_37 : decode prog_14_method_5_code 37 = .ok (.iload_n 1, 1) := by decide +kernel
theorem d14_5_38 : decode prog_14_method_5_code 38 = .ok (.iconst (-1), 1) := by decide +kernel
theorem d14_5_39 : decode prog_14_method_5_code 39 = .ok (.iastore, 1) := by decide +kernel
theorem d14_5_40 : decode prog_14_method_5_code 40 = .ok (.iconst 1, 1) := by decide +kernel
theorem d14_5_41 : decode prog_14_method_5_code 41 = .ok (.ireturn, 1) := by decide +kernel
theorem d14_3_0 : decode prog_14_method_3_code 0 = .ok (.iload_n 1, 1) := by decide +kernel
theorem d14_3_1 : decode prog_14_method_3_code 1 = .ok (.invokestatic 93, 3) := by decide +kernel
theorem d14_3_4 : decode prog_14_method_3_code 4 = .ok (.ifCond .eq 12, 3) := by decide +kernel
theorem d14_3_7 : decode prog_14_method_3_code 7 = .ok (.aload_n 0, 1) := by decide +kernel
theorem d14_3_8 : decode prog_14_method_3_code 8 = .ok (.getfield 97, 3) := by decide +kernel
theorem d14_3_11 : decode prog_14_method_3_code 11 = .ok (.bipush 40, 2) := by decide +kernel
theorem d14_3_13 : decode prog_14_method_3_code 13 = .ok (.if_icmp .ne 5, 3) := by decide +kernel
theorem d14_3_16 : decode prog_14_method_3_code 16 = .ok (.iconst 0, 1) := by decide +kernel
theorem d14_3_17 : decode prog_14_method_3_code 17 = .ok (.ireturn, 1) := by decide +kernel
theorem d14_3_18 : decode prog_14_method_3_code 18 = .ok (.aload_n 0, 1) := by decide +kernel
theorem d14_3_19 : decode prog_14_method_3_code 19 = .ok (.getfield 29, 3) := by decide +kernel
theorem d14_3_22 : decode prog_14_method_3_code 22 = .ok (.aload_n 0, 1) := by decide +kernel
theorem d14_3_23 : decode prog_14_method_3_code 23 = .ok (.getfield 97, 3) := by decide +kernel
theorem d14_3_26 : decode prog_14_method_3_code 26 = .ok (.iload_n 1, 1) := by decide +kernel
theorem d14_3_27 : decode prog_14_method_3_code 27 = .ok (.iastore, 1) := by decide +kernel
theorem d14_3_28 : decode prog_14_method_3_code 28 = .ok (.aload_n 0, 1) := by decide +kernel
theorem d14_3_29 : decode prog_14_method_3_code 29 = .ok (.dup, 1) := by decide +kernel
theorem d14_3_30 : decode prog_14_method_3_code 30 = .ok (.getfield 97, 3) := by decide +kernel
theorem d14_3_33 : decode prog_14_method_3_code 33 = .ok (.iconst 1, 1) := by decide +kernel
theorem d14_3_34 : decode prog_14_method_3_code 34 = .ok (.iadd, 1) := by decide +kernel
theorem d14_3_35 : decode prog_14_method_3_code 35 = .ok (.putfield 97, 3) := by decide +kernel
theorem d14_3_38 : decode prog_14_method_3_code 38 = .ok (.iconst 1, 1) := by decide +kernel
theorem d14_3_39 : decode prog_14_method_3_code 39 = .ok (.ireturn, 1) := by decide +kernel
theorem d14_17_0 : decode prog_14_method_17_code 0 = .ok (.iload_n 1, 1) := by decide +kernel
theorem d14_17_1 : decode prog_14_method_17_code 1 = .ok (.bipush 32, 2) := by decide +kernel
theorem d14_17_3 : decode prog_14_method_17_code 3 = .ok (.if_icmp .lt 18, 3) := by decide +kernel
theorem d14_17_6 : decode prog_14_method_17_code 6 = .ok (.iload_n 1, 1) := by decide +kernel
theorem d14_17_7 : decode prog_14_method_17_code 7 = .ok (.bipush 126, 2) := by decide +kernel
theorem d14_17_9 : decode prog_14_method_17_code 9 = .ok (.if_icmp .gt 12, 3) := by decide +kernel
theorem d14_17_12 : decode prog_14_method_17_code 12 = .ok (.aload_n 0, 1) := by decide +kernel
theorem d14_17_13 : decode prog_14_method_17_code 13 = .ok (.getfield 130, 3) := by decide +kernel
theorem d14_17_16 : decode prog_14_method_17_code 16 = .ok (.bipush 24, 2) := by decide +kernel
theorem d14_17_18 : decode prog_14_method_17_code 18 = .ok (.if_icmp .ne 5, 3) := by decide +kernel
theorem d14_17_21 : decode prog_14_method_17_code 21 = .ok (.iconst 0, 1) := by decide +kernel
theorem d14_17_22 : decode prog_14_method_17_code 22 = .ok (.ireturn, 1) := by decide +kernel
theorem d14_17_23 : decode prog_14_method_17_code 23 = .ok (.aload_n 0, 1) := by decide +kernel
theorem d14_17_24 : decode prog_14_method_17_code 24 = .ok (.getfield 32, 3) := by decide +kernel
theorem d14_17_27 : decode prog_14_method_17_code 27 = .ok (.aload_n 0, 1) := by decide +kernel
theorem d14_17_28 : decode prog_14_method_17_code 28 = .ok (.getfield 130, 3) := by decide +kernel
theorem d14_17_31 : decode prog_14_method_17_code 31 = .ok (.iload_n 1, 1) := by decide +kernel
theorem d14_17_32 : decode prog_14_method_17_code 32 = .ok (.iastore, 1) := by decide +kernel
theorem d14_17_33 : decode prog_14_method_17_code 33 = .ok (.aload_n 0, 1) := by decide +kernel
theorem d14_17_34 : decode prog_14_method_17_code 34 = .ok (.dup, 1) := by decide +kernel
theorem d14_17_35 : decode prog_14_method_17_code 35 = .ok (.getfield 130, 3) := by decide +kernel
theorem d14_17_38 : decode prog_14_method_17_code 38 = .ok (.iconst 1, 1) := by decide +kernel
theorem d14_17_39 : decode prog_14_method_17_code 39 = .ok (.iadd, 1) := by decide +kernel
theorem d14_17_40 : decode prog_14_method_17_code 40 = .ok (.putfield 130, 3) := by decide +kernel
theorem d14_17_43 : decode prog_14_method_17_code 43 = .ok (.iconst 1, 1) := by decide +kernel
theorem d14_17_44 : decode prog_14_method_17_code 44 = .ok (.ireturn, 1) := by decide +kernel
theorem d14_6_0 : decode prog_14_method_6_code 0 = .ok (.iload_n 1, 1) := by decide +kernel
theorem d14_6_1 : decode prog_14_method_6_code 1 = .ok (.ifCond .lt 18, 3) := by decide +kernel
theorem d14_6_4 : decode prog_14_method_6_code 4 = .ok (.iload_n 1, 1) := by decide +kernel
theorem d14_6_5 : decode prog_14_method_6_code 5 = .ok (.bipush 9, 2) := by decide +kernel
theorem d14_6_7 : decode prog_14_method_6_code 7 = .ok (.if_icmp .gt 12, 3) := by decide +kernel
theorem d14_6_10 : decode prog_14_method_6_code 10 = .ok (.aload_n 0, 1) := by decide +kernel
theorem d14_6_11 : decode prog_14_method_6_code 11 = .ok (.getfield 23, 3) := by decide +kernel
theorem d14_6_14 : decode prog_14_method_6_code 14 = .ok (.iload_n 1, 1) := by decide +kernel
theorem d14_6_15 : decode prog_14_method_6_code 15 = .ok (.iaload, 1) := by decide +kernel
theorem d14_6_16 : decode prog_14_method_6_code 16 = .ok (.ifCond .ge 7, 3) := by decide +kernel
theorem d14_6_19 : decode prog_14_method_6_code 19 = .ok (.iconst (-1), 1) := by decide +kernel
theorem d14_6_20 : decode prog_14_method_6_code 20 = .ok (.goto 14, 3) := by decide +kernel
theorem d14_6_23 : decode prog_14_method_6_code 23 = .ok (.aload_n 0, 1) := by decide +kernel
theorem d14_6_24 : decode prog_14_method_6_code 24 = .ok (.getfield 13, 3) := by decide +kernel
theorem d14_6_27 : decode prog_14_method_6_code 27 = .ok (.aload_n 0, 1) := by decide +kernel
theorem d14_6_28 : decode prog_14_method_6_code 28 = .ok (.getfield 23, 3) := by decide +kernel
theorem d14_6_31 : decode prog_14_method_6_code 31 = .ok (.iload_n 1, 1) := by decide +kernel
theorem d14_6_32 : decode prog_14_method_6_code 32 = .ok (.iaload, 1) := by decide +kernel
theorem d14_6_33 : decode prog_14_method_6_code 33 = .ok (.iaload, 1) := by decide +kernel
theorem d14_6_34 : decode prog_14_method_6_code 34 = .ok (.ireturn, 1) := by decide +kernel
theorem d14_4_0 : decode prog_14_method_4_code 0 = .ok (.iload_n 1, 1) := by decide +kernel
theorem d14_4_1 : decode prog_14_method_4_code 1 = .ok (.ifCond .lt 9, 3) := by decide +kernel
theorem d14_4_4 : decode prog_14_method_4_code 4 = .ok (.iload_n 1, 1) := by decide +kernel
theorem d14_4_5 : decode prog_14_method_4_code 5 = .ok (.bipush 9, 2) := by decide +kernel
theorem d14_4_7 : decode prog_14_method_4_code 7 = .ok (.if_icmp .le 5, 3) := by decide +kernel
theorem d14_4_10 : decode prog_14_method_4_code 10 = .ok (.iconst (-1), 1) := by decide +kernel
theorem d14_4_11 : decode prog_14_method_4_code 11 = .ok (.ireturn, 1) := by decide +kernel
theorem d14_4_12 : decode prog_14_method_4_code 12 = .ok (.iconst 0, 1) := by decide +kernel
theorem d14_4_13 : decode prog_14_method_4_code 13 = .ok (.istore_n 2, 1) := by decide +kernel
theorem d14_4_14 : decode prog_14_method_4_code 14 = .ok (.iload_n 2, 1) := by decide +kernel
theorem d14_4_15 : decode prog_14_method_4_code 15 = .ok (.bipush 127, 2) := by decide +kernel
theorem d14_4_17 : decode prog_14_method_4_code 17 = .ok (.if_icmp .ge 19, 3) := by decide +kernel
theorem d14_4_20 : decode prog_14_method_4_code 20 = .ok (.aload_n 0, 1) := by decide +kernel
theorem d14_4_21 : decode prog_14_method_4_code 21 = .ok (.getfield 20, 3) := by decide +kernel
theorem d14_4_24 : decode prog_14_method_4_code 24 = .ok (.iload_n 2, 1) := by decide +kernel
theorem d14_4_25 : decode prog_14_method_4_code 25 = .ok (.iaload, 1) := by decide +kernel
theorem d14_4_26 : decode prog_14_method_4_code 26 = .ok (.iconst (-1), 1) := by decide +kernel
theorem d14_4_27 : decode prog_14_method_4_code 27 = .ok (.if_icmp .eq 9, 3) := by decide +kernel
theorem d14_4_30 : decode prog_14_method_4_code 30 = .ok (.iinc 2 1, 3) := by decide +kernel
theorem d14_4_33 : decode prog_14_method_4_code 33 = .ok (.goto (-19), 3) := by decide +kernel
theorem d14_4_36 : decode prog_14_method_4_code 36 = .ok (.iconst 0, 1) := by decide +kernel
theorem d14_4_37 : decode prog_14_method_4_code 37 = .ok (.istore_n 3, 1) := by decide +kernel
theorem d14_4_38 : decode prog_14_method_4_code 38 = .ok (.iload_n 3, 1) := by decide +kernel
theorem d14_4_39 : decode prog_14_method_4_code 39 = .ok (.aload_n 0, 1) := by decide +kernel
theorem d14_4_40 : decode prog_14_method_4_code 40 = .ok (.getfield 97, 3) := by decide +kernel
theorem d14_4_43 : decode prog_14_method_4_code 43 = .ok (.if_icmp .ge 26, 3) := by decide +kernel
theorem d14_4_46 : decode prog_14_method_4_code 46 = .ok (.aload_n 0, 1) := by decide +kernel
theorem d14_4_47 : decode prog_14_method_4_code 47 = .ok (.getfield 7, 3) := by decide +kernel
theorem d14_4_50 : decode prog_14_method_4_code 50 = .ok (.bipush 40, 2) := by decide +kernel
theorem d14_4_52 : decode prog_14_method_4_code 52 = .ok (.iload_n 2, 1) := by decide +kernel
theorem d14_4_53 : decode prog_14_method_4_code 53 = .ok (.imul, 1) := by decide +kernel
theorem d14_4_54 : decode prog_14_method_4_code 54 = .ok (.iload_n 3, 1) := by decide +kernel
theorem d14_4_55 : decode prog_14_method_4_code 55 = .ok (.iadd, 1) := by decide +kernel
theorem d14_4_56 : decode prog_14_method_4_code 56 = .ok (.aload_n 0, 1) := by decide +kernel
theorem d14_4_57 : decode prog_14_method_4_code 57 = .ok (.getfield 29, 3) := by decide +kernel
theorem d14_4_60 : decode prog_14_method_4_code 60 = .ok (.iload_n 3, 1) := by decide +kernel
theorem d14_4_61 : decode prog_14_method_4_code 61 = .ok (.iaload, 1) := by decide +kernel
theorem d14_4_62 : decode prog_14_method_4_code 62 = .ok (.iastore, 1) := by decide +kernel
theorem d14_4_63 : decode prog_14_method_4_code 63 = .ok (.iinc 3 1, 3) := by decide +kernel
theorem d14_4_66 : decode prog_14_method_4_code 66 = .ok (.goto (-28), 3) := by decide +kernel
theorem d14_4_69 : decode prog_14_method_4_code 69 = .ok (.aload_n 0, 1) := by decide +kernel
theorem d14_4_70 : decode prog_14_method_4_code 70 = .ok (.getfield 13, 3) := by decide +kernel
theorem d14_4_73 : decode prog_14_method_4_code 73 = .ok (.iload_n 2, 1) := by decide +kernel
theorem d14_4_74 : decode prog_14_method_4_code 74 = .ok (.aload_n 0, 1) := by decide +kernel
theorem d14_4_75 : decode prog_14_method_4_code 75 = .ok (.getfield 97, 3) := by decide +kernel
theorem d14_4_78 : decode prog_14_method_4_code 78 = .ok (.iastore, 1) := by decide +kernel
theorem d14_4_79 : decode prog_14_method_4_code 79 = .ok (.aload_n 0, 1) := by decide +kernel
theorem d14_4_80 : decode prog_14_method_4_code 80 = .ok (.iconst 0, 1) := by decide +kernel
theorem d14_4_81 : decode prog_14_method_4_code 81 = .ok (.putfield 97, 3) := by decide +kernel
theorem d14_4_84 : decode prog_14_method_4_code 84 = .ok (.aload_n 0, 1) := by decide +kernel
theorem d14_4_85 : decode prog_14_method_4_code 85 = .ok (.iload_n 1, 1) := by decide +kernel
theorem d14_4_86 : decode prog_14_method_4_code 86 = .ok (.invokevirtual 101, 3) := by decide +kernel
theorem d14_4_89 : decode prog_14_method_4_code 89 = .ok (.istore_n 3, 1) := by decide +kernel
theorem d14_4_90 : decode prog_14_method_4_code 90 = .ok (.aload_n 0, 1) := by decide +kernel
theorem d14_4_91 : decode prog_14_method_4_code 91 = .ok (.getfield 23, 3) := by decide +kernel
theorem d14_4_94 : decode prog_14_method_4_code 94 = .ok (.iload_n 1, 1) := by decide +kernel
theorem d14_4_95 : decode prog_14_method_4_code 95 = .ok (.iload_n 2, 1) := by decide +kernel
theorem d14_4_96 : decode prog_14_method_4_code 96 = .ok (.iastore, 1) := by decide +kernel
theorem d14_4_97 : decode prog_14_method_4_code 97 = .ok (.aload_n 0, 1) := by decide +kernel
theorem d14_4_98 : decode prog_14_method_4_code 98 = .ok (.getfield 16, 3) := by decide +kernel
theorem d14_4_101 : decode prog_14_method_4_code 101 = .ok (.iload_n 2, 1) := by decide +kernel
theorem d14_4_102 : decode prog_14_method_4_code 102 = .ok (.iconst 1, 1) := by decide +kernel
theorem d14_4_103 : decode prog_14_method_4_code 103 = .ok (.bastore, 1) := by decide +kernel
theorem d14_4_104 : decode prog_14_method_4_code 104 = .ok (.aload_n 0, 1) := by decide +kernel
theorem d14_4_105 : decode prog_14_method_4_code 105 = .ok (.getfield 20, 3) := by decide +kernel
theorem d14_4_108 : decode prog_14_method_4_code 108 = .ok (.iload_n 2, 1) := by decide +kernel
theorem d14_4_109 : decode prog_14_method_4_code 109 = .ok (.bipush 99, 2) := by decide +kernel
theorem d14_4_111 : decode prog_14_method_4_code 111 = .ok (.iastore, 1) := by decide +kernel
theorem d14_4_112 : decode prog_14_method_4_code 112 = .ok (.aload_n 0, 1) := by decide +kernel
theorem d14_4_113 : decode prog_14_method_4_code 113 = .ok (.dup, 1) := by decide +kernel
theorem d14_4_114 : decode prog_14_method_4_code 114 = .ok (.getfield 104, 3) := by decide +kernel
theorem d14_4_117 : decode prog_14_method_4_code 117 = .ok (.iconst 1, 1) := by decide +kernel
theorem d14_4_118 : decode prog_14_method_4_code 118 = .ok (.iadd, 1) := by decide +kernel
theorem d14_4_119 : decode prog_14_method_4_code 119 = .ok (.putfield 104, 3) := by decide +kernel
theorem d14_4_122 : decode prog_14_method_4_code 122 = .ok (.aload_n 0, 1) := by decide +kernel
theorem d14_4_123 : decode prog_14_method_4_code 123 = .ok (.bipush 99, 2) := by decide +kernel
theorem d14_4_125 : decode prog_14_method_4_code 125 = .ok (.invokevirtual 107, 3) := by decide +kernel
theorem d14_4_128 : decode prog_14_method_4_code 128 = .ok (.istore 4, 2) := by decide +kernel
theorem d14_4_130 : decode prog_14_method_4_code 130 = .ok (.iload 4, 2) := by decide +kernel
theorem d14_4_132 : decode prog_14_method_4_code 132 = .ok (.iconst 3, 1) := by decide +kernel
theorem d14_4_133 : decode prog_14_method_4_code 133 = .ok (.if_icmp .ne 47, 3) := by decide +kernel
theorem d14_4_136 : decode prog_14_method_4_code 136 = .ok (.aload_n 0, 1) := by decide +kernel
theorem d14_4_137 : decode prog_14_method_4_code 137 = .ok (.invokevirtual 111, 3) := by decide +kernel
theorem d14_4_140 : decode prog_14_method_4_code 140 = .ok (.aload_n 0, 1) := by decide +kernel
theorem d14_4_141 : decode prog_14_method_4_code 141 = .ok (.getfield 114, 3) := by decide +kernel
theorem d14_4_144 : decode prog_14_method_4_code 144 = .ok (.iconst 1, 1) := by decide +kernel
theorem d14_4_145 : decode prog_14_method_4_code 145 = .ok (.if_icmp .le 35, 3) := by decide +kernel
theorem d14_4_148 : decode prog_14_method_4_code 148 = .ok (.aload_n 0, 1) := by decide +kernel
theorem d14_4_149 : decode prog_14_method_4_code 149 = .ok (.getfield 26, 3) := by decide +kernel
theorem d14_4_152 : decode prog_14_method_4_code 152 = .ok (.aload_n 0, 1) := by decide +kernel
theorem d14_4_153 : decode prog_14_method_4_code 153 = .ok (.getfield 114, 3) := by decide +kernel
theorem d14_4_156 : decode prog_14_method_4_code 156 = .ok (.iconst 1, 1) := by decide +kernel
theorem d14_4_157 : decode prog_14_method_4_code 157 = .ok (.isub, 1) := by decide +kernel
theorem d14_4_158 : decode prog_14_method_4_code 158 = .ok (.iaload, 1) := by decide +kernel
theorem d14_4_159 : decode prog_14_method_4_code 159 = .ok (.aload_n 0, 1) := by decide +kernel
theorem d14_4_160 : decode prog_14_method_4_code 160 = .ok (.getfield 26, 3) := by decide +kernel
theorem d14_4_163 : decode prog_14_method_4_code 163 = .ok (.aload_n 0, 1) := by decide +kernel
theorem d14_4_164 : decode prog_14_method_4_code 164 = .ok (.getfield 114, 3) := by decide +kernel
theorem d14_4_167 : decode prog_14_method_4_code 167 = .ok (.iconst 2, 1) := by decide +kernel
theorem d14_4_168 : decode prog_14_method_4_code 168 = .ok (.isub, 1) := by decide +kernel
theorem d14_4_169 : decode prog_14_method_4_code 169 = .ok (.iaload, 1) := by decide +kernel
theorem d14_4_170 : decode prog_14_method_4_code 170 = .ok (.if_icmp .ne 10, 3) := by decide +kernel
theorem d14_4_173 : decode prog_14_method_4_code 173 = .ok (.aload_n 0, 1) := by decide +kernel
theorem d14_4_174 : decode prog_14_method_4_code 174 = .ok (.invokevirtual 117, 3) := by decide +kernel
theorem d14_4_177 : decode prog_14_method_4_code 177 = .ok (.goto (-37), 3) := by decide +kernel
theorem d14_4_180 : decode prog_14_method_4_code 180 = .ok (.aload_n 0, 1) := by decide +kernel
theorem d14_4_181 : decode prog_14_method_4_code 181 = .ok (.getfield 104, 3) := by decide +kernel
theorem d14_4_184 : decode prog_14_method_4_code 184 = .ok (.ireturn, 1) := by decide +kernel
theorem d14_18_0 : decode prog_14_method_18_code 0 = .ok (.aload_n 0, 1) := by decide +kernel
theorem d14_18_1 : decode prog_14_method_18_code 1 = .ok (.aload_n 0, 1) := by decide +kernel
theorem d14_18_2 : decode prog_14_method_18_code 2 = .ok (.getfield 130, 3) := by decide +kernel
theorem d14_18_5 : decode prog_14_method_18_code 5 = .ok (.ifCond .ne 7, 3) := by decide +kernel
theorem d14_18_8 : decode prog_14_method_18_code 8 = .ok (.iconst 0, 1) := by decide +kernel
theorem d14_18_9 : decode prog_14_method_18_code 9 = .ok (.goto 9, 3) := by decide +kernel
theorem d14_18_12 : decode prog_14_method_18_code 12 = .ok (.aload_n 0, 1) := by decide +kernel
theorem d14_18_13 : decode prog_14_method_18_code 13 = .ok (.getfield 130, 3) := by decide +kernel
theorem d14_18_16 : decode prog_14_method_18_code 16 = .ok (.iconst 1, 1) := by decide +kernel
theorem d14_18_17 : decode prog_14_method_18_code 17 = .ok (.isub, 1) := by decide +kernel
theorem d14_18_18 : decode prog_14_method_18_code 18 = .ok (.putfield 130, 3) := by decide +kernel
theorem d14_18_21 : decode prog_14_method_18_code 21 = .ok (.aload_n 0, 1) := by decide +kernel
theorem d14_18_22 : decode prog_14_method_18_code 22 = .ok (.getfield 130, 3) := by decide +kernel
theorem d14_18_25 : decode prog_14_method_18_code 25 = .ok (.ireturn, 1) := by decide +kernel
theorem d14_62_0 : decode prog_14_method_62_code 0 = .ok (.aload_n 0, 1) := by decide +kernel
theorem d14_62_1 : decode prog_14_method_62_code 1 = .ok (.getfield 286, 3) := by decide +kernel
theorem d14_62_4 : decode prog_14_method_62_code 4 = .ok (.ireturn, 1) := by decide +kernel
theorem d14_14_0 : decode prog_14_method_14_code 0 = .ok (.aload_n 0, 1) := by decide +kernel
theorem d14_14_1 : decode prog_14_method_14_code 1 = .ok (.getfield 120, 3) := by decide +kernel
theorem d14_14_4 : decode prog_14_method_14_code 4 = .ok (.ireturn, 1) := by decide +kernel
theorem d14_11_0 : decode prog_14_method_11_code 0 = .ok (.aload_n 0, 1) := by decide +kernel
theorem d14_11_1 : decode prog_14_method_11_code 1 = .ok (.getfield 114, 3) := by decide +kernel
theorem d14_11_4 : decode prog_14_method_11_code 4 = .ok (.ireturn, 1) := by decide +kernel
theorem d14_63_0 : decode prog_14_method_63_code 0 = .ok (.aload_n 0, 1) := by decide +kernel
theorem d14_63_1 : decode prog_14_method_63_code 1 = .ok (.getfield 283, 3) := by decide +kernel
theorem d14_63_4 : decode prog_14_method_63_code 4 = .ok (.ifCond .eq 24, 3) := by decide +kernel
theorem d14_63_7 : decode prog_14_method_63_code 7 = .ok (.iload_n 1, 1) := by decide +kernel
theorem d14_63_8 : decode prog_14_method_63_code 8 = .ok (.ifCond .lt 20, 3) := by decide +kernel
theorem d14_63_11 : decode prog_14_method_63_code 11 = .ok (.iload_n 1, 1) := by decide +kernel
theorem d14_63_12 : decode prog_14_method_63_code 12 = .ok (.aload_n 0, 1) := by decide +kernel
theorem d14_63_13 : decode prog_14_method_63_code 13 = .ok (.getfield 275, 3) := by decide +kernel
theorem d14_63_16 : decode prog_14_method_63_code 16 = .ok (.if_icmp .ge 12, 3) := by decide +kernel
theorem d14_63_19 : decode prog_14_method_63_code 19 = .ok (.aload_n 0, 1) := by decide +kernel
theorem d14_63_20 : decode prog_14_method_63_code 20 = .ok (.getfield 90, 3) := by decide +kernel
theorem d14_63_23 : decode prog_14_method_63_code 23 = .ok (.iload_n 1, 1) := by decide +kernel
theorem d14_63_24 : decode prog_14_method_63_code 24 = .ok (.iaload, 1) := by decide +kernel
theorem d14_63_25 : decode prog_14_method_63_code 25 = .ok (.goto 4, 3) := by decide +kernel
theorem d14_63_28 : decode prog_14_method_63_code 28 = .ok (.iconst (-1), 1) := by decide +kernel
theorem d14_63_29 : decode prog_14_method_63_code 29 = .ok (.ireturn, 1) := by decide +kernel
theorem d14_13_0 : decode prog_14_method_13_code 0 = .ok (.aload_n 0, 1) := by decide +kernel
theorem d14_13_1 : decode prog_14_method_13_code 1 = .ok (.bipush 99, 2) := by decide +kernel
theorem d14_13_3 : decode prog_14_method_13_code 3 = .ok (.invokevirtual 107, 3) := by decide +kernel
theorem d14_13_6 : decode prog_14_method_13_code 6 = .ok (.istore_n 1, 1) := by decide +kernel
theorem d14_13_7 : decode prog_14_method_13_code 7 = .ok (.iload_n 1, 1) := by decide +kernel
theorem d14_13_8 : decode prog_14_method_13_code 8 = .ok (.ifCond .le 7, 3) := by decide +kernel
theorem d14_13_11 : decode prog_14_method_13_code 11 = .ok (.aload_n 0, 1) := by decide +kernel
theorem d14_13_12 : decode prog_14_method_13_code 12 = .ok (.invokevirtual 111, 3) := by decide +kernel
theorem d14_13_15 : decode prog_14_method_13_code 15 = .ok (.iconst 0, 1) := by decide +kernel
theorem d14_13_16 : decode prog_14_method_13_code 16 = .ok (.istore_n 2, 1) := by decide +kernel
theorem d14_13_17 : decode prog_14_method_13_code 17 = .ok (.aload_n 0, 1) := by decide +kernel
theorem d14_13_18 : decode prog_14_method_13_code 18 = .ok (.getfield 114, 3) := by decide +kernel
theorem d14_13_21 : decode prog_14_method_13_code 21 = .ok (.iconst 1, 1) := by decide +kernel
theorem d14_13_22 : decode prog_14_method_13_code 22 = .ok (.if_icmp .le 13, 3) := by decide +kernel
theorem d14_13_25 : decode prog_14_method_13_code 25 = .ok (.aload_n 0, 1) := by decide +kernel
theorem d14_13_26 : decode prog_14_method_13_code 26 = .ok (.invokevirtual 117, 3) := by decide +kernel
theorem d14_13_29 : decode prog_14_method_13_code 29 = .ok (.iinc 2 1, 3) := by decide +kernel
theorem d14_13_32 : decode prog_14_method_13_code 32 = .ok (.goto (-15), 3) := by decide +kernel
theorem d14_13_35 : decode prog_14_method_13_code 35 = .ok (.iload_n 2, 1) := by decide +kernel
theorem d14_13_36 : decode prog_14_method_13_code 36 = .ok (.ireturn, 1) := by decide +kernel
theorem d14_23_0 : decode prog_14_method_23_code 0 = .ok (.aload_n 0, 1) := by decide +kernel
theorem d14_23_1 : decode prog_14_method_23_code 1 = .ok (.getfield 59, 3) := by decide +kernel
theorem d14_23_4 : decode prog_14_method_23_code 4 = .ok (.aload_n 0, 1) := by decide +kernel
theorem d14_23_5 : decode prog_14_method_23_code 5 = .ok (.getfield 139, 3) := by decide +kernel
theorem d14_23_8 : decode prog_14_method_23_code 8 = .ok (.iconst (-1), 1) := by decide +kernel
theorem d14_23_9 : decode prog_14_method_23_code 9 = .ok (.iastore, 1) := by decide +kernel
theorem d14_23_10 : decode prog_14_method_23_code 10 = .ok (.aload_n 0, 1) := by decide +kernel
theorem d14_23_11 : decode prog_14_method_23_code 11 = .ok (.getfield 62, 3) := by decide +kernel
theorem d14_23_14 : decode prog_14_method_23_code 14 = .ok (.aload_n 0, 1) := by decide +kernel
theorem d14_23_15 : decode prog_14_method_23_code 15 = .ok (.getfield 139, 3) := by decide +kernel
theorem d14_23_18 : decode prog_14_method_23_code 18 = .ok (.iconst (-1), 1) := by decide +kernel
theorem d14_23_19 : decode prog_14_method_23_code 19 = .ok (.iastore, 1) := by decide +kernel
theorem d14_23_20 : decode prog_14_method_23_code 20 = .ok (.aload_n 0, 1) := by decide +kernel
theorem d14_23_21 : decode prog_14_method_23_code 21 = .ok (.getfield 65, 3) := by decide +kernel
theorem d14_23_24 : decode prog_14_method_23_code 24 = .ok (.aload_n 0, 1) := by decide +kernel
theorem d14_23_25 : decode prog_14_method_23_code 25 = .ok (.getfield 139, 3) := by decide +kernel
theorem d14_23_28 : decode prog_14_method_23_code 28 = .ok (.iconst (-1), 1) := by decide +kernel
theorem d14_23_29 : decode prog_14_method_23_code 29 = .ok (.iastore, 1) := by decide +kernel
theorem d14_23_30 : decode prog_14_method_23_code 30 = .ok (.aload_n 0, 1) := by decide +kernel
theorem d14_23_31 : decode prog_14_method_23_code 31 = .ok (.getfield 68, 3) := by decide +kernel
theorem d14_23_34 : decode prog_14_method_23_code 34 = .ok (.aload_n 0, 1) := by decide +kernel
theorem d14_23_35 : decode prog_14_method_23_code 35 = .ok (.getfield 139, 3) := by decide +kernel
theorem d14_23_38 : decode prog_14_method_23_code 38 = .ok (.iconst (-1), 1) := by decide +kernel
theorem d14_23_39 : decode prog_14_method_23_code 39 = .ok (.iastore, 1) := by decide +kernel
theorem d14_23_40 : decode prog_14_method_23_code 40 = .ok (.return_, 1) := by decide +kernel
theorem d14_21_0 : decode prog_14_method_21_code 0 = .ok (.aload_n 0, 1) := by decide +kernel
theorem d14_21_1 : decode prog_14_method_21_code 1 = .ok (.getfield 59, 3) := by decide +kernel
theorem d14_21_4 : decode prog_14_method_21_code 4 = .ok (.aload_n 0, 1) := by decide +kernel
theorem d14_21_5 : decode prog_14_method_21_code 5 = .ok (.getfield 139, 3) := by decide +kernel
theorem d14_21_8 : decode prog_14_method_21_code 8 = .ok (.iaload, 1) := by decide +kernel
theorem d14_21_9 : decode prog_14_method_21_code 9 = .ok (.ifCond .ge 7, 3) := by decide +kernel
theorem d14_21_12 : decode prog_14_method_21_code 12 = .ok (.iconst 1, 1) := by decide +kernel
theorem d14_21_13 : decode prog_14_method_21_code 13 = .ok (.goto 4, 3) := by decide +kernel
theorem d14_21_16 : decode prog_14_method_21_code 16 = .ok (.iconst 0, 1) := by decide +kernel
theorem d14_21_17 : decode prog_14_method_21_code 17 = .ok (.ireturn, 1) := by decide +kernel
theorem d14_40_0 : decode prog_14_method_40_code 0 = .ok (.aload_n 0, 1) := by decide +kernel
theorem d14_40_1 : decode prog_14_method_40_code 1 = .ok (.iconst 0, 1) := by decide +kernel
theorem d14_40_2 : decode prog_14_method_40_code 2 = .ok (.putfield 136, 3) := by decide +kernel
theorem d14_40_5 : decode prog_14_method_40_code 5 = .ok (.aload_n 0, 1) := by decide +kernel
theorem d14_40_6 : decode prog_14_method_40_code 6 = .ok (.iconst 0, 1) := by decide +kernel
theorem d14_40_7 : decode prog_14_method_40_code 7 = .ok (.putfield 133, 3) := by decide +kernel
theorem d14_40_10 : decode prog_14_method_40_code 10 = .ok (.aload_n 0, 1) := by decide +kernel
theorem d14_40_11 : decode prog_14_method_40_code 11 = .ok (.iconst 0, 1) := by decide +kernel
theorem d14_40_12 : decode prog_14_method_40_code 12 = .ok (.putfield 139, 3) := by decide +kernel
theorem d14_40_15 : decode prog_14_method_40_code 15 = .ok (.aload_n 0, 1) := by decide +kernel
theorem d14_40_16 : decode prog_14_method_40_code 16 = .ok (.iconst 0, 1) := by decide +kernel
theorem d14_40_17 : decode prog_14_method_40_code 17 = .ok (.putfield 156, 3) := by decide +kernel
theorem d14_40_20 : decode prog_14_method_40_code 20 = .ok (.aload_n 0, 1) := by decide +kernel
theorem d14_40_21 : decode prog_14_method_40_code 21 = .ok (.invokevirtual 191, 3) := by decide +kernel
theorem d14_40_24 : decode prog_14_method_40_code 24 = .ok (.aload_n 0, 1) := by decide +kernel
theorem d14_40_25 : decode prog_14_method_40_code 25 = .ok (.getfield 133, 3) := by decide +kernel
theorem d14_40_28 : decode prog_14_method_40_code 28 = .ok (.aload_n 0, 1) := by decide +kernel
theorem d14_40_29 : decode prog_14_method_40_code 29 = .ok (.getfield 130, 3) := by decide +kernel
theorem d14_40_32 : decode prog_14_method_40_code 32 = .ok (.if_icmp .ge 17, 3) := by decide +kernel
theorem d14_40_35 : decode prog_14_method_40_code 35 = .ok (.aload_n 0, 1) := by decide +kernel
theorem d14_40_36 : decode prog_14_method_40_code 36 = .ok (.getfield 156, 3) := by decide +kernel
theorem d14_40_39 : decode prog_14_method_40_code 39 = .ok (.ifCond .ne 10, 3) := by decide +kernel
theorem d14_40_42 : decode prog_14_method_40_code 42 = .ok (.aload_n 0, 1) := by decide +kernel
theorem d14_40_43 : decode prog_14_method_40_code 43 = .ok (.invokevirtual 212, 3) := by decide +kernel
theorem d14_40_46 : decode prog_14_method_40_code 46 = .ok (.goto (-22), 3) := by decide +kernel
theorem d14_40_49 : decode prog_14_method_40_code 49 = .ok (.aload_n 0, 1) := by decide +kernel
theorem d14_40_50 : decode prog_14_method_40_code 50 = .ok (.getfield 156, 3) := by decide +kernel
theorem d14_40_53 : decode prog_14_method_40_code 53 = .ok (.ifCond .eq 4, 3) := by decide +kernel
theorem d14_40_56 : decode prog_14_method_40_code 56 = .ok (.return_, 1) := by decide +kernel
theorem d14_40_57 : decode prog_14_method_40_code 57 = .ok (.aload_n 0, 1) := by decide +kernel
theorem d14_40_58 : decode prog_14_method_40_code 58 = .ok (.getfield 139, 3) := by decide +kernel
theorem d14_40_61 : decode prog_14_method_40_code 61 = .ok (.ifCond .le 11, 3) := by decide +kernel
theorem d14_40_64 : decode prog_14_method_40_code 64 = .ok (.aload_n 0, 1) := by decide +kernel
theorem d14_40_65 : decode prog_14_method_40_code 65 = .ok (.iconst 2, 1) := by decide +kernel
theorem d14_40_66 : decode prog_14_method_40_code 66 = .ok (.putfield 156, 3) := by decide +kernel
theorem d14_40_69 : decode prog_14_method_40_code 69 = .ok (.goto 48, 3) := by decide +kernel
theorem d14_40_72 : decode prog_14_method_40_code 72 = .ok (.aload_n 0, 1) := by decide +kernel
theorem d14_40_73 : decode prog_14_method_40_code 73 = .ok (.invokevirtual 142, 3) := by decide +kernel
theorem d14_40_76 : decode prog_14_method_40_code 76 = .ok (.ifCond .eq 11, 3) := by decide +kernel
theorem d14_40_79 : decode prog_14_method_40_code 79 = .ok (.aload_n 0, 1) := by decide +kernel
theorem d14_40_80 : decode prog_14_method_40_code 80 = .ok (.iconst 1, 1) := by decide +kernel
theorem d14_40_81 : decode prog_14_method_40_code 81 = .ok (.putfield 156, 3) := by decide +kernel
theorem d14_40_84 : decode prog_14_method_40_code 84 = .ok (.goto 33, 3) := by decide +kernel
theorem d14_40_87 : decode prog_14_method_40_code 87 = .ok (.aload_n 0, 1) := by decide +kernel
theorem d14_40_88 : decode prog_14_method_40_code 88 = .ok (.invokevirtual 184, 3) := by decide +kernel
theorem d14_40_91 : decode prog_14_method_40_code 91 = .ok (.aload_n 0, 1) := by decide +kernel
theorem d14_40_92 : decode prog_14_method_40_code 92 = .ok (.invokevirtual 187, 3) := by decide +kernel
theorem d14_40_95 : decode prog_14_method_40_code 95 = .ok (.istore_n 1, 1) := by decide +kernel
theorem d14_40_96 : decode prog_14_method_40_code 96 = .ok (.aload_n 0, 1) := by decide +kernel
theorem d14_40_97 : decode prog_14_method_40_code 97 = .ok (.aload_n 0, 1) := by decide +kernel
theorem d14_40_98 : decode prog_14_method_40_code 98 = .ok (.getfield 53, 3) := by decide +kernel
theorem d14_40_101 : decode prog_14_method_40_code 101 = .ok (.iload_n 1, 1) := by decide +kernel
theorem d14_40_102 : decode prog_14_method_40_code 102 = .ok (.iaload, 1) := by decide +kernel
theorem d14_40_103 : decode prog_14_method_40_code 103 = .ok (.bipush 60, 2) := by decide +kernel
theorem d14_40_105 : decode prog_14_method_40_code 105 = .ok (.if_icmp .le 8, 3) := by decide +kernel
theorem d14_40_108 : decode prog_14_method_40_code 108 = .ok (.bipush 9, 2) := by decide +kernel
theorem d14_40_110 : decode prog_14_method_40_code 110 = .ok (.goto 4, 3) := by decide +kernel
theorem d14_40_113 : decode prog_14_method_40_code 113 = .ok (.iconst 0, 1) := by decide +kernel
theorem d14_40_114 : decode prog_14_method_40_code 114 = .ok (.putfield 156, 3) := by decide +kernel
theorem d14_40_117 : decode prog_14_method_40_code 117 = .ok (.return_, 1) := by decide +kernel
theorem d14_41_0 : decode prog_14_method_41_code 0 = .ok (.aload_n 0, 1) := by decide +kernel
theorem d14_41_1 : decode prog_14_method_41_code 1 = .ok (.invokevirtual 215, 3) := by decide +kernel
theorem d14_41_4 : decode prog_14_method_41_code 4 = .ok (.aload_n 0, 1) := by decide +kernel
theorem d14_41_5 : decode prog_14_method_41_code 5 = .ok (.getfield 156, 3) := by decide +kernel
theorem d14_41_8 : decode prog_14_method_41_code 8 = .ok (.ireturn, 1) := by decide +kernel
theorem d14_42_0 : decode prog_14_method_42_code 0 = .ok (.aload_n 0, 1) := by decide +kernel
theorem d14_42_1 : decode prog_14_method_42_code 1 = .ok (.invokevirtual 215, 3) := by decide +kernel
theorem d14_42_4 : decode prog_14_method_42_code 4 = .ok (.aload_n 0, 1) := by decide +kernel
theorem d14_42_5 : decode prog_14_method_42_code 5 = .ok (.getfield 156, 3) := by decide +kernel
theorem d14_42_8 : decode prog_14_method_42_code 8 = .ok (.ifCond .ne 17, 3) := by decide +kernel
theorem d14_42_11 : decode prog_14_method_42_code 11 = .ok (.aload_n 0, 1) := by decide +kernel
theorem d14_42_12 : decode prog_14_method_42_code 12 = .ok (.getfield 53, 3) := by decide +kernel
theorem d14_42_15 : decode prog_14_method_42_code 15 = .ok (.aload_n 0, 1) := by decide +kernel
theorem d14_42_16 : decode prog_14_method_42_code 16 = .ok (.getfield 136, 3) := by decide +kernel
theorem d14_42_19 : decode prog_14_method_42_code 19 = .ok (.iconst 1, 1) := by decide +kernel
theorem d14_42_20 : decode prog_14_method_42_code 20 = .ok (.isub, 1) := by decide +kernel
theorem d14_42_21 : decode prog_14_method_42_code 21 = .ok (.iaload, 1) := by decide +kernel
theorem d14_42_22 : decode prog_14_method_42_code 22 = .ok (.goto 4, 3) := by decide +kernel
theorem d14_42_25 : decode prog_14_method_42_code 25 = .ok (.iconst (-1), 1) := by decide +kernel
theorem d14_42_26 : decode prog_14_method_42_code 26 = .ok (.ireturn, 1) := by decide +kernel
theorem d14_55_0 : decode prog_14_method_55_code 0 = .ok (.aload_n 0, 1) := by decide +kernel
theorem d14_55_1 : decode prog_14_method_55_code 1 = .ok (.invokevirtual 215, 3) := by decide +kernel
theorem d14_55_4 : decode prog_14_method_55_code 4 = .ok (.aload_n 0, 1) := by decide +kernel
theorem d14_55_5 : decode prog_14_method_55_code 5 = .ok (.getfield 156, 3) := by decide +kernel
theorem d14_55_8 : decode prog_14_method_55_code 8 = .ok (.ifCond .eq 6, 3) := by decide +kernel
theorem d14_55_11 : decode prog_14_method_55_code 11 = .ok (.bipush (-2), 2) := by decide +kernel
theorem d14_55_13 : decode prog_14_method_55_code 13 = .ok (.ireturn, 1) := by decide +kernel
theorem d14_55_14 : decode prog_14_method_55_code 14 = .ok (.aload_n 0, 1) := by decide +kernel
theorem d14_55_15 : decode prog_14_method_55_code 15 = .ok (.invokevirtual 258, 3) := by decide +kernel
theorem d14_55_18 : decode prog_14_method_55_code 18 = .ok (.aload_n 0, 1) := by decide +kernel
theorem d14_55_19 : decode prog_14_method_55_code 19 = .ok (.getfield 71, 3) := by decide +kernel
theorem d14_55_22 : decode prog_14_method_55_code 22 = .ok (.aload_n 0, 1) := by decide +kernel
theorem d14_55_23 : decode prog_14_method_55_code 23 = .ok (.getfield 136, 3) := by decide +kernel
theorem d14_55_26 : decode prog_14_method_55_code 26 = .ok (.iconst 1, 1) := by decide +kernel
theorem d14_55_27 : decode prog_14_method_55_code 27 = .ok (.isub, 1) := by decide +kernel
theorem d14_55_28 : decode prog_14_method_55_code 28 = .ok (.baload, 1) := by decide +kernel
theorem d14_55_29 : decode prog_14_method_55_code 29 = .ok (.ifCond .eq 17, 3) := by decide +kernel
theorem d14_55_32 : decode prog_14_method_55_code 32 = .ok (.aload_n 0, 1) := by decide +kernel
theorem d14_55_33 : decode prog_14_method_55_code 33 = .ok (.getfield 74, 3) := by decide +kernel
theorem d14_55_36 : decode prog_14_method_55_code 36 = .ok (.aload_n 0, 1) := by decide +kernel
theorem d14_55_37 : decode prog_14_method_55_code 37 = .ok (.getfield 136, 3) := by decide +kernel
theorem d14_55_40 : decode prog_14_method_55_code 40 = .ok (.iconst 1, 1) := by decide +kernel
theorem d14_55_41 : decode prog_14_method_55_code 41 = .ok (.isub, 1) := by decide +kernel
theorem d14_55_42 : decode prog_14_method_55_code 42 = .ok (.iaload, 1) := by decide +kernel
theorem d14_55_43 : decode prog_14_method_55_code 43 = .ok (.goto 4, 3) := by decide +kernel
theorem d14_55_46 : decode prog_14_method_55_code 46 = .ok (.iconst (-1), 1) := by decide +kernel
theorem d14_55_47 : decode prog_14_method_55_code 47 = .ok (.ireturn, 1) := by decide +kernel
theorem d14_61_0 : decode prog_14_method_61_code 0 = .ok (.aload_n 0, 1) := by decide +kernel
theorem d14_61_1 : decode prog_14_method_61_code 1 = .ok (.invokevirtual 215, 3) := by decide +kernel
theorem d14_61_4 : decode prog_14_method_61_code 4 = .ok (.aload_n 0, 1) := by decide +kernel
theorem d14_61_5 : decode prog_14_method_61_code 5 = .ok (.getfield 156, 3) := by decide +kernel
theorem d14_61_8 : decode prog_14_method_61_code 8 = .ok (.ifCond .eq 9, 3) := by decide +kernel
theorem d14_61_11 : decode prog_14_method_61_code 11 = .ok (.aload_n 0, 1) := by decide +kernel
theorem d14_61_12 : decode prog_14_method_61_code 12 = .ok (.getfield 156, 3) := by decide +kernel
theorem d14_61_15 : decode prog_14_method_61_code 15 = .ok (.ineg, 1) := by decide +kernel
theorem d14_61_16 : decode prog_14_method_61_code 16 = .ok (.ireturn, 1) := by decide +kernel
theorem d14_61_17 : decode prog_14_method_61_code 17 = .ok (.aload_n 0, 1) := by decide +kernel
theorem d14_61_18 : decode prog_14_method_61_code 18 = .ok (.invokevirtual 258, 3) := by decide +kernel
theorem d14_61_21 : decode prog_14_method_61_code 21 = .ok (.aload_n 0, 1) := by decide +kernel
theorem d14_61_22 : decode prog_14_method_61_code 22 = .ok (.iconst 1, 1) := by decide +kernel
theorem d14_61_23 : decode prog_14_method_61_code 23 = .ok (.putfield 283, 3) := by decide +kernel
theorem d14_61_26 : decode prog_14_method_61_code 26 = .ok (.aload_n 0, 1) := by decide +kernel
theorem d14_61_27 : decode prog_14_method_61_code 27 = .ok (.iconst 0, 1) := by decide +kernel
theorem d14_61_28 : decode prog_14_method_61_code 28 = .ok (.putfield 286, 3) := by decide +kernel
theorem d14_61_31 : decode prog_14_method_61_code 31 = .ok (.aload_n 0, 1) := by decide +kernel
theorem d14_61_32 : decode prog_14_method_61_code 32 = .ok (.iconst 0, 1) := by decide +kernel
theorem d14_61_33 : decode prog_14_method_61_code 33 = .ok (.putfield 275, 3) := by decide +kernel
theorem d14_61_36 : decode prog_14_method_61_code 36 = .ok (.iconst 0, 1) := by decide +kernel
theorem d14_61_37 : decode prog_14_method_61_code 37 = .ok (.istore_n 1, 1) := by decide +kernel
theorem d14_61_38 : decode prog_14_method_61_code 38 = .ok (.iload_n 1, 1) := by decide +kernel
theorem d14_61_39 : decode prog_14_method_61_code 39 = .ok (.bipush 10, 2) := by decide +kernel
theorem d14_61_41 : decode prog_14_method_61_code 41 = .ok (.if_icmp .ge 54, 3) := by decide +kernel
theorem d14_61_44 : decode prog_14_method_61_code 44 = .ok (.aload_n 0, 1) := by decide +kernel
theorem d14_61_45 : decode prog_14_method_61_code 45 = .ok (.getfield 23, 3) := by decide +kernel
theorem d14_61_48 : decode prog_14_method_61_code 48 = .ok (.iload_n 1, 1) := by decide +kernel
theorem d14_61_49 : decode prog_14_method_61_code 49 = .ok (.iaload, 1) := by decide +kernel
theorem d14_61_50 : decode prog_14_method_61_code 50 = .ok (.ifCond .lt 39, 3) := by decide +kernel
theorem d14_61_53 : decode prog_14_method_61_code 53 = .ok (.aload_n 0, 1) := by decide +kernel
theorem d14_61_54 : decode prog_14_method_61_code 54 = .ok (.aload_n 0, 1) := by decide +kernel
theorem d14_61_55 : decode prog_14_method_61_code 55 = .ok (.getfield 23, 3) := by decide +kernel
theorem d14_61_58 : decode prog_14_method_61_code 58 = .ok (.iload_n 1, 1) := by decide +kernel
theorem d14_61_59 : decode prog_14_method_61_code 59 = .ok (.iaload, 1) := by decide +kernel
theorem d14_61_60 : decode prog_14_method_61_code 60 = .ok (.invokevirtual 289, 3) := by decide +kernel
theorem d14_61_63 : decode prog_14_method_61_code 63 = .ok (.ifCond .eq 26, 3) := by decide +kernel
theorem d14_61_66 : decode prog_14_method_61_code 66 = .ok (.aload_n 0, 1) := by decide +kernel
theorem d14_61_67 : decode prog_14_method_61_code 67 = .ok (.aload_n 0, 1) := by decide +kernel
theorem d14_61_68 : decode prog_14_method_61_code 68 = .ok (.getfield 286, 3) := by decide +kernel
theorem d14_61_71 : decode prog_14_method_61_code 71 = .ok (.iconst 1, 1) := by decide +kernel
theorem d14_61_72 : decode prog_14_method_61_code 72 = .ok (.iload_n 1, 1) := by decide +kernel
theorem d14_61_73 : decode prog_14_method_61_code 73 = .ok (.ishl, 1) := by decide +kernel
theorem d14_61_74 : decode prog_14_method_61_code 74 = .ok (.ior, 1) := by decide +kernel
theorem d14_61_75 : decode prog_14_method_61_code 75 = .ok (.putfield 286, 3) := by decide +kernel
theorem d14_61_78 : decode prog_14_method_61_code 78 = .ok (.aload_n 0, 1) := by decide +kernel
theorem d14_61_79 : decode prog_14_method_61_code 79 = .ok (.iload_n 1, 1) := by decide +kernel
theorem d14_61_80 : decode prog_14_method_61_code 80 = .ok (.aload_n 0, 1) := by decide +kernel
theorem d14_61_81 : decode prog_14_method_61_code 81 = .ok (.getfield 23, 3) := by decide +kernel
theorem d14_61_84 : decode prog_14_method_61_code 84 = .ok (.iload_n 1, 1) := by decide +kernel
theorem d14_61_85 : decode prog_14_method_61_code 85 = .ok (.iaload, 1) := by decide +kernel
theorem d14_61_86 : decode prog_14_method_61_code 86 = .ok (.invokevirtual 292, 3) := by decide +kernel
theorem d14_61_89 : decode prog_14_method_61_code 89 = .ok (.iinc 1 1, 3) := by decide +kernel
theorem d14_61_92 : decode prog_14_method_61_code 92 = .ok (.goto (-54), 3) := by decide +kernel
theorem d14_61_95 : decode prog_14_method_61_code 95 = .ok (.aload_n 0, 1) := by decide +kernel
theorem d14_61_96 : decode prog_14_method_61_code 96 = .ok (.getfield 275, 3) := by decide +kernel
theorem d14_61_99 : decode prog_14_method_61_code 99 = .ok (.ireturn, 1) := by decide +kernel
theorem d14_12_0 : decode prog_14_method_12_code 0 = .ok (.iload_n 1, 1) := by decide +kernel
theorem d14_12_1 : decode prog_14_method_12_code 1 = .ok (.iconst (-1), 1) := by decide +kernel
theorem d14_12_2 : decode prog_14_method_12_code 2 = .ok (.if_icmp .lt 20, 3) := by decide +kernel
theorem d14_12_5 : decode prog_14_method_12_code 5 = .ok (.iload_n 1, 1) := by decide +kernel
theorem d14_12_6 : decode prog_14_method_12_code 6 = .ok (.aload_n 0, 1) := by decide +kernel
theorem d14_12_7 : decode prog_14_method_12_code 7 = .ok (.getfield 114, 3) := by decide +kernel
theorem d14_12_10 : decode prog_14_method_12_code 10 = .ok (.if_icmp .ge 12, 3) := by decide +kernel
theorem d14_12_13 : decode prog_14_method_12_code 13 = .ok (.iload_n 2, 1) := by decide +kernel
theorem d14_12_14 : decode prog_14_method_12_code 14 = .ok (.ifCond .lt 8, 3) := by decide +kernel
theorem d14_12_17 : decode prog_14_method_12_code 17 = .ok (.iload_n 2, 1) := by decide +kernel
theorem d14_12_18 : decode prog_14_method_12_code 18 = .ok (.iconst 2, 1) := by decide +kernel
theorem d14_12_19 : decode prog_14_method_12_code 19 = .ok (.if_icmp .le 5, 3) := by decide +kernel
theorem d14_12_22 : decode prog_14_method_12_code 22 = .ok (.iconst (-1), 1) := by decide +kernel
theorem d14_12_23 : decode prog_14_method_12_code 23 = .ok (.ireturn, 1) := by decide +kernel
theorem d14_12_24 : decode prog_14_method_12_code 24 = .ok (.iload_n 1, 1) := by decide +kernel
theorem d14_12_25 : decode prog_14_method_12_code 25 = .ok (.iconst (-1), 1) := by decide +kernel
theorem d14_12_26 : decode prog_14_method_12_code 26 = .ok (.if_icmp .ne 8, 3) := by decide +kernel
theorem d14_12_29 : decode prog_14_method_12_code 29 = .ok (.bipush 99, 2) := by decide +kernel
theorem d14_12_31 : decode prog_14_method_12_code 31 = .ok (.goto 4, 3) := by decide +kernel
theorem d14_12_34 : decode prog_14_method_12_code 34 = .ok (.iload_n 1, 1) := by decide +kernel
theorem d14_12_35 : decode prog_14_method_12_code 35 = .ok (.istore_n 3, 1) := by decide +kernel
theorem d14_12_36 : decode prog_14_method_12_code 36 = .ok (.iload_n 2, 1) := by decide +kernel
theorem d14_12_37 : decode prog_14_method_12_code 37 = .ok (.ifCond .ne 21, 3) := by decide +kernel
theorem d14_12_40 : decode prog_14_method_12_code 40 = .ok (.iload_n 1, 1) := by decide +kernel
theorem d14_12_41 : decode prog_14_method_12_code 41 = .ok (.iconst (-1), 1) := by decide +kernel
theorem d14_12_42 : decode prog_14_method_12_code 42 = .ok (.if_icmp .ne 7, 3) := by decide +kernel
theorem d14_12_45 : decode prog_14_method_12_code 45 = .ok (.iconst 0, 1) := by decide +kernel
theorem d14_12_46 : decode prog_14_method_12_code 46 = .ok (.goto 30, 3) := by decide +kernel
theorem d14_12_49 : decode prog_14_method_12_code 49 = .ok (.aload_n 0, 1) := by decide +kernel
theorem d14_12_50 : decode prog_14_method_12_code 50 = .ok (.getfield 26, 3) := by decide +kernel
theorem d14_12_53 : decode prog_14_method_12_code 53 = .ok (.iload_n 1, 1) := by decide +kernel
theorem d14_12_54 : decode prog_14_method_12_code 54 = .ok (.iaload, 1) := by decide +kernel
theorem d14_12_55 : decode prog_14_method_12_code 55 = .ok (.goto 21, 3) := by decide +kernel
theorem d14_12_58 : decode prog_14_method_12_code 58 = .ok (.iload_n 2, 1) := by decide +kernel
theorem d14_12_59 : decode prog_14_method_12_code 59 = .ok (.iconst 1, 1) := by decide +kernel
theorem d14_12_60 : decode prog_14_method_12_code 60 = .ok (.if_icmp .ne 11, 3) := by decide +kernel
theorem d14_12_63 : decode prog_14_method_12_code 63 = .ok (.aload_n 0, 1) := by decide +kernel
theorem d14_12_64 : decode prog_14_method_12_code 64 = .ok (.iload_n 3, 1) := by decide +kernel
theorem d14_12_65 : decode prog_14_method_12_code 65 = .ok (.invokevirtual 107, 3) := by decide +kernel
theorem d14_12_68 : decode prog_14_method_12_code 68 = .ok (.goto 8, 3) := by decide +kernel
theorem d14_12_71 : decode prog_14_method_12_code 71 = .ok (.aload_n 0, 1) := by decide +kernel
theorem d14_12_72 : decode prog_14_method_12_code 72 = .ok (.iload_n 3, 1) := by decide +kernel
theorem d14_12_73 : decode prog_14_method_12_code 73 = .ok (.invokevirtual 123, 3) := by decide +kernel
theorem d14_12_76 : decode prog_14_method_12_code 76 = .ok (.ireturn, 1) := by decide +kernel
