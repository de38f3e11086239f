theorem d14_34_0 : decode prog_14_method_34_code 0 = .ok (.aload_n 0, 1) := by decide +kernel
theorem d14_34_1 : decode prog_14_method_34_code 1 = .ok (.bipush 97, 2) := by decide +kernel
theorem d14_34_3 : decode prog_14_method_34_code 3 = .ok (.bipush 108, 2) := by decide +kernel
theorem d14_34_5 : decode prog_14_method_34_code 5 = .ok (.bipush 112, 2) := by decide +kernel
theorem d14_34_7 : decode prog_14_method_34_code 7 = .ok (.bipush 104, 2) := by decide +kernel
theorem d14_34_9 : decode prog_14_method_34_code 9 = .ok (.bipush 97, 2) := by decide +kernel
theorem d14_34_11 : decode prog_14_method_34_code 11 = .ok (.invokevirtual 170, 3) := by decide +kernel
theorem d14_34_14 : decode prog_14_method_34_code 14 = .ok (.ifCond .ne 20, 3) := by decide +kernel
theorem d14_34_17 : decode prog_14_method_34_code 17 = .ok (.aload_n 0, 1) := by decide +kernel
theorem d14_34_18 : decode prog_14_method_34_code 18 = .ok (.bipush 108, 2) := by decide +kernel
theorem d14_34_20 : decode prog_14_method_34_code 20 = .ok (.bipush 111, 2) := by decide +kernel
theorem d14_34_22 : decode prog_14_method_34_code 22 = .ok (.bipush 119, 2) := by decide +kernel
theorem d14_34_24 : decode prog_14_method_34_code 24 = .ok (.bipush 101, 2) := by decide +kernel
theorem d14_34_26 : decode prog_14_method_34_code 26 = .ok (.bipush 114, 2) := by decide +kernel
theorem d14_34_28 : decode prog_14_method_34_code 28 = .ok (.invokevirtual 170, 3) := by decide +kernel
theorem d14_34_31 : decode prog_14_method_34_code 31 = .ok (.ifCond .eq 12, 3) := by decide +kernel
theorem d14_34_34 : decode prog_14_method_34_code 34 = .ok (.aload_n 0, 1) := by decide +kernel
theorem d14_34_35 : decode prog_14_method_34_code 35 = .ok (.iload_n 1, 1) := by decide +kernel
theorem d14_34_36 : decode prog_14_method_34_code 36 = .ok (.bipush 97, 2) := by decide +kernel
theorem d14_34_38 : decode prog_14_method_34_code 38 = .ok (.bipush 122, 2) := by decide +kernel
theorem d14_34_40 : decode prog_14_method_34_code 40 = .ok (.invokevirtual 174, 3) := by decide +kernel
theorem d14_34_43 : decode prog_14_method_34_code 43 = .ok (.aload_n 0, 1) := by decide +kernel
theorem d14_34_44 : decode prog_14_method_34_code 44 = .ok (.bipush 97, 2) := by decide +kernel
theorem d14_34_46 : decode prog_14_method_34_code 46 = .ok (.bipush 108, 2) := by decide +kernel
theorem d14_34_48 : decode prog_14_method_34_code 48 = .ok (.bipush 112, 2) := by decide +kernel
theorem d14_34_50 : decode prog_14_method_34_code 50 = .ok (.bipush 104, 2) := by decide +kernel
theorem d14_34_52 : decode prog_14_method_34_code 52 = .ok (.bipush 97, 2) := by decide +kernel
theorem d14_34_54 : decode prog_14_method_34_code 54 = .ok (.invokevirtual 170, 3) := by decide +kernel
theorem d14_34_57 : decode prog_14_method_34_code 57 = .ok (.ifCond .ne 20, 3) := by decide +kernel
theorem d14_34_60 : decode prog_14_method_34_code 60 = .ok (.aload_n 0, 1) := by decide +kernel
theorem d14_34_61 : decode prog_14_method_34_code 61 = .ok (.bipush 117, 2) := by decide +kernel
theorem d14_34_63 : decode prog_14_method_34_code 63 = .ok (.bipush 112, 2) := by decide +kernel
theorem d14_34_65 : decode prog_14_method_34_code 65 = .ok (.bipush 112, 2) := by decide +kernel
theorem d14_34_67 : decode prog_14_method_34_code 67 = .ok (.bipush 101, 2) := by decide +kernel
theorem d14_34_69 : decode prog_14_method_34_code 69 = .ok (.bipush 114, 2) := by decide +kernel
theorem d14_34_71 : decode prog_14_method_34_code 71 = .ok (.invokevirtual 170, 3) := by decide +kernel
theorem d14_34_74 : decode prog_14_method_34_code 74 = .ok (.ifCond .eq 12, 3) := by decide +kernel
theorem d14_34_77 : decode prog_14_method_34_code 77 = .ok (.aload_n 0, 1) := by decide +kernel
theorem d14_34_78 : decode prog_14_method_34_code 78 = .ok (.iload_n 1, 1) := by decide +kernel
theorem d14_34_79 : decode prog_14_method_34_code 79 = .ok (.bipush 65, 2) := by decide +kernel
theorem d14_34_81 : decode prog_14_method_34_code 81 = .ok (.bipush 90, 2) := by decide +kernel
theorem d14_34_83 : decode prog_14_method_34_code 83 = .ok (.invokevirtual 174, 3) := by decide +kernel
theorem d14_34_86 : decode prog_14_method_34_code 86 = .ok (.aload_n 0, 1) := by decide +kernel
theorem d14_34_87 : decode prog_14_method_34_code 87 = .ok (.bipush 100, 2) := by decide +kernel
theorem d14_34_89 : decode prog_14_method_34_code 89 = .ok (.bipush 105, 2) := by decide +kernel
theorem d14_34_91 : decode prog_14_method_34_code 91 = .ok (.bipush 103, 2) := by decide +kernel
theorem d14_34_93 : decode prog_14_method_34_code 93 = .ok (.bipush 105, 2) := by decide +kernel
theorem d14_34_95 : decode prog_14_method_34_code 95 = .ok (.bipush 116, 2) := by decide +kernel
theorem d14_34_97 : decode prog_14_method_34_code 97 = .ok (.invokevirtual 170, 3) := by decide +kernel
theorem d14_34_100 : decode prog_14_method_34_code 100 = .ok (.ifCond .eq 12, 3) := by decide +kernel
theorem d14_34_103 : decode prog_14_method_34_code 103 = .ok (.aload_n 0, 1) := by decide +kernel
theorem d14_34_104 : decode prog_14_method_34_code 104 = .ok (.iload_n 1, 1) := by decide +kernel
theorem d14_34_105 : decode prog_14_method_34_code 105 = .ok (.bipush 48, 2) := by decide +kernel
theorem d14_34_107 : decode prog_14_method_34_code 107 = .ok (.bipush 57, 2) := by decide +kernel
theorem d14_34_109 : decode prog_14_method_34_code 109 = .ok (.invokevirtual 174, 3) := by decide +kernel
theorem d14_34_112 : decode prog_14_method_34_code 112 = .ok (.aload_n 0, 1) := by decide +kernel
theorem d14_34_113 : decode prog_14_method_34_code 113 = .ok (.bipush 97, 2) := by decide +kernel
theorem d14_34_115 : decode prog_14_method_34_code 115 = .ok (.bipush 108, 2) := by decide +kernel
theorem d14_34_117 : decode prog_14_method_34_code 117 = .ok (.bipush 112, 2) := by decide +kernel
theorem d14_34_119 : decode prog_14_method_34_code 119 = .ok (.bipush 104, 2) := by decide +kernel
theorem d14_34_121 : decode prog_14_method_34_code 121 = .ok (.bipush 97, 2) := by decide +kernel
theorem d14_34_123 : decode prog_14_method_34_code 123 = .ok (.invokevirtual 170, 3) := by decide +kernel
theorem d14_34_126 : decode prog_14_method_34_code 126 = .ok (.ifCond .ne 54, 3) := by decide +kernel
theorem d14_34_129 : decode prog_14_method_34_code 129 = .ok (.aload_n 0, 1) := by decide +kernel
theorem d14_34_130 : decode prog_14_method_34_code 130 = .ok (.bipush 108, 2) := by decide +kernel
theorem d14_34_132 : decode prog_14_method_34_code 132 = .ok (.bipush 111, 2) := by decide +kernel
theorem d14_34_134 : decode prog_14_method_34_code 134 = .ok (.bipush 119, 2) := by decide +kernel
theorem d14_34_136 : decode prog_14_method_34_code 136 = .ok (.bipush 101, 2) := by decide +kernel
theorem d14_34_138 : decode prog_14_method_34_code 138 = .ok (.bipush 114, 2) := by decide +kernel
theorem d14_34_140 : decode prog_14_method_34_code 140 = .ok (.invokevirtual 170, 3) := by decide +kernel
theorem d14_34_143 : decode prog_14_method_34_code 143 = .ok (.ifCond .ne 37, 3) := by decide +kernel
theorem d14_34_146 : decode prog_14_method_34_code 146 = .ok (.aload_n 0, 1) := by decide +kernel
theorem d14_34_147 : decode prog_14_method_34_code 147 = .ok (.bipush 117, 2) := by decide +kernel
theorem d14_34_149 : decode prog_14_method_34_code 149 = .ok (.bipush 112, 2) := by decide +kernel
theorem d14_34_151 : decode prog_14_method_34_code 151 = .ok (.bipush 112, 2) := by decide +kernel
theorem d14_34_153 : decode prog_14_method_34_code 153 = .ok (.bipush 101, 2) := by decide +kernel
theorem d14_34_155 : decode prog_14_method_34_code 155 = .ok (.bipush 114, 2) := by decide +kernel
theorem d14_34_157 : decode prog_14_method_34_code 157 = .ok (.invokevirtual 170, 3) := by decide +kernel
theorem d14_34_160 : decode prog_14_method_34_code 160 = .ok (.ifCond .ne 20, 3) := by decide +kernel
theorem d14_34_163 : decode prog_14_method_34_code 163 = .ok (.aload_n 0, 1) := by decide +kernel
theorem d14_34_164 : decode prog_14_method_34_code 164 = .ok (.bipush 100, 2) := by decide +kernel
theorem d14_34_166 : decode prog_14_method_34_code 166 = .ok (.bipush 105, 2) := by decide +kernel
theorem d14_34_168 : decode prog_14_method_34_code 168 = .ok (.bipush 103, 2) := by decide +kernel
theorem d14_34_170 : decode prog_14_method_34_code 170 = .ok (.bipush 105, 2) := by decide +kernel
theorem d14_34_172 : decode prog_14_method_34_code 172 = .ok (.bipush 116, 2) := by decide +kernel
theorem d14_34_174 : decode prog_14_method_34_code 174 = .ok (.invokevirtual 170, 3) := by decide +kernel
theorem d14_34_177 : decode prog_14_method_34_code 177 = .ok (.ifCond .eq 7, 3) := by decide +kernel
theorem d14_34_180 : decode prog_14_method_34_code 180 = .ok (.iconst 1, 1) := by decide +kernel
theorem d14_34_181 : decode prog_14_method_34_code 181 = .ok (.goto 4, 3) := by decide +kernel
theorem d14_34_184 : decode prog_14_method_34_code 184 = .ok (.iconst 0, 1) := by decide +kernel
theorem d14_34_185 : decode prog_14_method_34_code 185 = .ok (.istore_n 2, 1) := by decide +kernel
theorem d14_34_186 : decode prog_14_method_34_code 186 = .ok (.iload_n 2, 1) := by decide +kernel
theorem d14_34_187 : decode prog_14_method_34_code 187 = .ok (.ifCond .eq 17, 3) := by decide +kernel
theorem d14_34_190 : decode prog_14_method_34_code 190 = .ok (.aload_n 0, 1) := by decide +kernel
theorem d14_34_191 : decode prog_14_method_34_code 191 = .ok (.aload_n 0, 1) := by decide +kernel
theorem d14_34_192 : decode prog_14_method_34_code 192 = .ok (.getfield 133, 3) := by decide +kernel
theorem d14_34_195 : decode prog_14_method_34_code 195 = .ok (.bipush 7, 2) := by decide +kernel
theorem d14_34_197 : decode prog_14_method_34_code 197 = .ok (.iadd, 1) := by decide +kernel
theorem d14_34_198 : decode prog_14_method_34_code 198 = .ok (.putfield 133, 3) := by decide +kernel
theorem d14_34_201 : decode prog_14_method_34_code 201 = .ok (.goto 8, 3) := by decide +kernel
theorem d14_34_204 : decode prog_14_method_34_code 204 = .ok (.aload_n 0, 1) := by decide +kernel
theorem d14_34_205 : decode prog_14_method_34_code 205 = .ok (.iconst 5, 1) := by decide +kernel
theorem d14_34_206 : decode prog_14_method_34_code 206 = .ok (.putfield 156, 3) := by decide +kernel
theorem d14_34_209 : decode prog_14_method_34_code 209 = .ok (.return_, 1) := by decide +kernel
