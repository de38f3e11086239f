theorem d14_56_0 : decode prog_14_method_56_code 0 = .ok (.iconst 0, 1) := by decide +kernel
theorem d14_56_1 : decode prog_14_method_56_code 1 = .ok (.istore_n 2, 1) := by decide +kernel
theorem d14_56_2 : decode prog_14_method_56_code 2 = .ok (.iload_n 2, 1) := by decide +kernel
theorem d14_56_3 : decode prog_14_method_56_code 3 = .ok (.aload_n 0, 1) := by decide +kernel
theorem d14_56_4 : decode prog_14_method_56_code 4 = .ok (.getfield 136, 3) := by decide +kernel
theorem d14_56_7 : decode prog_14_method_56_code 7 = .ok (.if_icmp .ge 155, 3) := by decide +kernel
theorem d14_56_10 : decode prog_14_method_56_code 10 = .ok (.aload_n 0, 1) := by decide +kernel
theorem d14_56_11 : decode prog_14_method_56_code 11 = .ok (.getfield 71, 3) := by decide +kernel
theorem d14_56_14 : decode prog_14_method_56_code 14 = .ok (.iload_n 2, 1) := by decide +kernel
theorem d14_56_15 : decode prog_14_method_56_code 15 = .ok (.baload, 1) := by decide +kernel
theorem d14_56_16 : decode prog_14_method_56_code 16 = .ok (.ifCond .eq 18, 3) := by decide +kernel
theorem d14_56_19 : decode prog_14_method_56_code 19 = .ok (.aload_n 0, 1) := by decide +kernel
theorem d14_56_20 : decode prog_14_method_56_code 20 = .ok (.getfield 83, 3) := by decide +kernel
theorem d14_56_23 : decode prog_14_method_56_code 23 = .ok (.iload_n 2, 1) := by decide +kernel
theorem d14_56_24 : decode prog_14_method_56_code 24 = .ok (.aload_n 0, 1) := by decide +kernel
theorem d14_56_25 : decode prog_14_method_56_code 25 = .ok (.iload_n 1, 1) := by decide +kernel
theorem d14_56_26 : decode prog_14_method_56_code 26 = .ok (.iload_n 2, 1) := by decide +kernel
theorem d14_56_27 : decode prog_14_method_56_code 27 = .ok (.invokevirtual 246, 3) := by decide +kernel
theorem d14_56_30 : decode prog_14_method_56_code 30 = .ok (.bastore, 1) := by decide +kernel
theorem d14_56_31 : decode prog_14_method_56_code 31 = .ok (.goto 125, 3) := by decide +kernel
theorem d14_56_34 : decode prog_14_method_56_code 34 = .ok (.aload_n 0, 1) := by decide +kernel
theorem d14_56_35 : decode prog_14_method_56_code 35 = .ok (.getfield 35, 3) := by decide +kernel
theorem d14_56_38 : decode prog_14_method_56_code 38 = .ok (.iload_n 2, 1) := by decide +kernel
theorem d14_56_39 : decode prog_14_method_56_code 39 = .ok (.iaload, 1) := by decide +kernel
theorem d14_56_40 : decode prog_14_method_56_code 40 = .ok (.bipush 6, 2) := by decide +kernel
theorem d14_56_42 : decode prog_14_method_56_code 42 = .ok (.if_icmp .ne 63, 3) := by decide +kernel
theorem d14_56_45 : decode prog_14_method_56_code 45 = .ok (.aload_n 0, 1) := by decide +kernel
theorem d14_56_46 : decode prog_14_method_56_code 46 = .ok (.getfield 83, 3) := by decide +kernel
theorem d14_56_49 : decode prog_14_method_56_code 49 = .ok (.iload_n 2, 1) := by decide +kernel
theorem d14_56_50 : decode prog_14_method_56_code 50 = .ok (.iconst 0, 1) := by decide +kernel
theorem d14_56_51 : decode prog_14_method_56_code 51 = .ok (.bastore, 1) := by decide +kernel
theorem d14_56_52 : decode prog_14_method_56_code 52 = .ok (.aload_n 0, 1) := by decide +kernel
theorem d14_56_53 : decode prog_14_method_56_code 53 = .ok (.getfield 38, 3) := by decide +kernel
theorem d14_56_56 : decode prog_14_method_56_code 56 = .ok (.iload_n 2, 1) := by decide +kernel
theorem d14_56_57 : decode prog_14_method_56_code 57 = .ok (.iaload, 1) := by decide +kernel
theorem d14_56_58 : decode prog_14_method_56_code 58 = .ok (.istore_n 3, 1) := by decide +kernel
theorem d14_56_59 : decode prog_14_method_56_code 59 = .ok (.iload_n 3, 1) := by decide +kernel
theorem d14_56_60 : decode prog_14_method_56_code 60 = .ok (.ifCond .lt 42, 3) := by decide +kernel
theorem d14_56_63 : decode prog_14_method_56_code 63 = .ok (.aload_n 0, 1) := by decide +kernel
theorem d14_56_64 : decode prog_14_method_56_code 64 = .ok (.getfield 83, 3) := by decide +kernel
theorem d14_56_67 : decode prog_14_method_56_code 67 = .ok (.iload_n 2, 1) := by decide +kernel
theorem d14_56_68 : decode prog_14_method_56_code 68 = .ok (.aload_n 0, 1) := by decide +kernel
theorem d14_56_69 : decode prog_14_method_56_code 69 = .ok (.getfield 83, 3) := by decide +kernel
theorem d14_56_72 : decode prog_14_method_56_code 72 = .ok (.iload_n 2, 1) := by decide +kernel
theorem d14_56_73 : decode prog_14_method_56_code 73 = .ok (.baload, 1) := by decide +kernel
theorem d14_56_74 : decode prog_14_method_56_code 74 = .ok (.ifCond .ne 12, 3) := by decide +kernel
theorem d14_56_77 : decode prog_14_method_56_code 77 = .ok (.aload_n 0, 1) := by decide +kernel
theorem d14_56_78 : decode prog_14_method_56_code 78 = .ok (.getfield 83, 3) := by decide +kernel
theorem d14_56_81 : decode prog_14_method_56_code 81 = .ok (.iload_n 3, 1) := by decide +kernel
theorem d14_56_82 : decode prog_14_method_56_code 82 = .ok (.baload, 1) := by decide +kernel
theorem d14_56_83 : decode prog_14_method_56_code 83 = .ok (.ifCond .eq 7, 3) := by decide +kernel
theorem d14_56_86 : decode prog_14_method_56_code 86 = .ok (.iconst 1, 1) := by decide +kernel
theorem d14_56_87 : decode prog_14_method_56_code 87 = .ok (.goto 4, 3) := by decide +kernel
theorem d14_56_90 : decode prog_14_method_56_code 90 = .ok (.iconst 0, 1) := by decide +kernel
theorem d14_56_91 : decode prog_14_method_56_code 91 = .ok (.bastore, 1) := by decide +kernel
theorem d14_56_92 : decode prog_14_method_56_code 92 = .ok (.aload_n 0, 1) := by decide +kernel
theorem d14_56_93 : decode prog_14_method_56_code 93 = .ok (.getfield 41, 3) := by decide +kernel
theorem d14_56_96 : decode prog_14_method_56_code 96 = .ok (.iload_n 3, 1) := by decide +kernel
theorem d14_56_97 : decode prog_14_method_56_code 97 = .ok (.iaload, 1) := by decide +kernel
theorem d14_56_98 : decode prog_14_method_56_code 98 = .ok (.istore_n 3, 1) := by decide +kernel
theorem d14_56_99 : decode prog_14_method_56_code 99 = .ok (.goto (-40), 3) := by decide +kernel
theorem d14_56_102 : decode prog_14_method_56_code 102 = .ok (.goto 54, 3) := by decide +kernel
theorem d14_56_105 : decode prog_14_method_56_code 105 = .ok (.aload_n 0, 1) := by decide +kernel
theorem d14_56_106 : decode prog_14_method_56_code 106 = .ok (.getfield 35, 3) := by decide +kernel
theorem d14_56_109 : decode prog_14_method_56_code 109 = .ok (.iload_n 2, 1) := by decide +kernel
theorem d14_56_110 : decode prog_14_method_56_code 110 = .ok (.iaload, 1) := by decide +kernel
theorem d14_56_111 : decode prog_14_method_56_code 111 = .ok (.iconst 1, 1) := by decide +kernel
theorem d14_56_112 : decode prog_14_method_56_code 112 = .ok (.if_icmp .eq 22, 3) := by decide +kernel
theorem d14_56_115 : decode prog_14_method_56_code 115 = .ok (.aload_n 0, 1) := by decide +kernel
theorem d14_56_116 : decode prog_14_method_56_code 116 = .ok (.getfield 35, 3) := by decide +kernel
theorem d14_56_119 : decode prog_14_method_56_code 119 = .ok (.iload_n 2, 1) := by decide +kernel
theorem d14_56_120 : decode prog_14_method_56_code 120 = .ok (.iaload, 1) := by decide +kernel
theorem d14_56_121 : decode prog_14_method_56_code 121 = .ok (.iconst 4, 1) := by decide +kernel
theorem d14_56_122 : decode prog_14_method_56_code 122 = .ok (.if_icmp .ne 22, 3) := by decide +kernel
theorem d14_56_125 : decode prog_14_method_56_code 125 = .ok (.aload_n 0, 1) := by decide +kernel
theorem d14_56_126 : decode prog_14_method_56_code 126 = .ok (.getfield 47, 3) := by decide +kernel
theorem d14_56_129 : decode prog_14_method_56_code 129 = .ok (.iload_n 2, 1) := by decide +kernel
theorem d14_56_130 : decode prog_14_method_56_code 130 = .ok (.iaload, 1) := by decide +kernel
theorem d14_56_131 : decode prog_14_method_56_code 131 = .ok (.ifCond .ne 13, 3) := by decide +kernel
theorem d14_56_134 : decode prog_14_method_56_code 134 = .ok (.aload_n 0, 1) := by decide +kernel
theorem d14_56_135 : decode prog_14_method_56_code 135 = .ok (.getfield 83, 3) := by decide +kernel
theorem d14_56_138 : decode prog_14_method_56_code 138 = .ok (.iload_n 2, 1) := by decide +kernel
theorem d14_56_139 : decode prog_14_method_56_code 139 = .ok (.iconst 1, 1) := by decide +kernel
theorem d14_56_140 : decode prog_14_method_56_code 140 = .ok (.bastore, 1) := by decide +kernel
theorem d14_56_141 : decode prog_14_method_56_code 141 = .ok (.goto 15, 3) := by decide +kernel
theorem d14_56_144 : decode prog_14_method_56_code 144 = .ok (.aload_n 0, 1) := by decide +kernel
theorem d14_56_145 : decode prog_14_method_56_code 145 = .ok (.getfield 83, 3) := by decide +kernel
theorem d14_56_148 : decode prog_14_method_56_code 148 = .ok (.iload_n 2, 1) := by decide +kernel
theorem d14_56_149 : decode prog_14_method_56_code 149 = .ok (.aload_n 0, 1) := by decide +kernel
theorem d14_56_150 : decode prog_14_method_56_code 150 = .ok (.iload_n 2, 1) := by decide +kernel
theorem d14_56_151 : decode prog_14_method_56_code 151 = .ok (.iload_n 1, 1) := by decide +kernel
theorem d14_56_152 : decode prog_14_method_56_code 152 = .ok (.invokevirtual 255, 3) := by decide +kernel
theorem d14_56_155 : decode prog_14_method_56_code 155 = .ok (.bastore, 1) := by decide +kernel
theorem d14_56_156 : decode prog_14_method_56_code 156 = .ok (.iinc 2 1, 3) := by decide +kernel
theorem d14_56_159 : decode prog_14_method_56_code 159 = .ok (.goto (-157), 3) := by decide +kernel
theorem d14_56_162 : decode prog_14_method_56_code 162 = .ok (.aload_n 0, 1) := by decide +kernel
theorem d14_56_163 : decode prog_14_method_56_code 163 = .ok (.getfield 83, 3) := by decide +kernel
theorem d14_56_166 : decode prog_14_method_56_code 166 = .ok (.aload_n 0, 1) := by decide +kernel
theorem d14_56_167 : decode prog_14_method_56_code 167 = .ok (.getfield 136, 3) := by decide +kernel
theorem d14_56_170 : decode prog_14_method_56_code 170 = .ok (.iconst 1, 1) := by decide +kernel
theorem d14_56_171 : decode prog_14_method_56_code 171 = .ok (.isub, 1) := by decide +kernel
theorem d14_56_172 : decode prog_14_method_56_code 172 = .ok (.baload, 1) := by decide +kernel
theorem d14_56_173 : decode prog_14_method_56_code 173 = .ok (.ireturn, 1) := by decide +kernel
