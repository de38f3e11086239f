theorem d14_54_0 : decode prog_14_method_54_code 0 = .ok (.iconst 0, 1) := by decide +kernel
theorem d14_54_1 : decode prog_14_method_54_code 1 = .ok (.istore_n 1, 1) := by decide +kernel
theorem d14_54_2 : decode prog_14_method_54_code 2 = .ok (.iload_n 1, 1) := by decide +kernel
theorem d14_54_3 : decode prog_14_method_54_code 3 = .ok (.aload_n 0, 1) := by decide +kernel
theorem d14_54_4 : decode prog_14_method_54_code 4 = .ok (.getfield 136, 3) := by decide +kernel
theorem d14_54_7 : decode prog_14_method_54_code 7 = .ok (.if_icmp .ge 158, 3) := by decide +kernel
theorem d14_54_10 : decode prog_14_method_54_code 10 = .ok (.aload_n 0, 1) := by decide +kernel
theorem d14_54_11 : decode prog_14_method_54_code 11 = .ok (.getfield 35, 3) := by decide +kernel
theorem d14_54_14 : decode prog_14_method_54_code 14 = .ok (.iload_n 1, 1) := by decide +kernel
theorem d14_54_15 : decode prog_14_method_54_code 15 = .ok (.iaload, 1) := by decide +kernel
theorem d14_54_16 : decode prog_14_method_54_code 16 = .ok (.iconst 1, 1) := by decide +kernel
theorem d14_54_17 : decode prog_14_method_54_code 17 = .ok (.if_icmp .ne 17, 3) := by decide +kernel
theorem d14_54_20 : decode prog_14_method_54_code 20 = .ok (.aload_n 0, 1) := by decide +kernel
theorem d14_54_21 : decode prog_14_method_54_code 21 = .ok (.getfield 71, 3) := by decide +kernel
theorem d14_54_24 : decode prog_14_method_54_code 24 = .ok (.iload_n 1, 1) := by decide +kernel
theorem d14_54_25 : decode prog_14_method_54_code 25 = .ok (.aload_n 0, 1) := by decide +kernel
theorem d14_54_26 : decode prog_14_method_54_code 26 = .ok (.iload_n 1, 1) := by decide +kernel
theorem d14_54_27 : decode prog_14_method_54_code 27 = .ok (.invokevirtual 249, 3) := by decide +kernel
theorem d14_54_30 : decode prog_14_method_54_code 30 = .ok (.bastore, 1) := by decide +kernel
theorem d14_54_31 : decode prog_14_method_54_code 31 = .ok (.goto 128, 3) := by decide +kernel
theorem d14_54_34 : decode prog_14_method_54_code 34 = .ok (.aload_n 0, 1) := by decide +kernel
theorem d14_54_35 : decode prog_14_method_54_code 35 = .ok (.getfield 35, 3) := by decide +kernel
theorem d14_54_38 : decode prog_14_method_54_code 38 = .ok (.iload_n 1, 1) := by decide +kernel
theorem d14_54_39 : decode prog_14_method_54_code 39 = .ok (.iaload, 1) := by decide +kernel
theorem d14_54_40 : decode prog_14_method_54_code 40 = .ok (.bipush 6, 2) := by decide +kernel
theorem d14_54_42 : decode prog_14_method_54_code 42 = .ok (.if_icmp .ne 17, 3) := by decide +kernel
theorem d14_54_45 : decode prog_14_method_54_code 45 = .ok (.aload_n 0, 1) := by decide +kernel
theorem d14_54_46 : decode prog_14_method_54_code 46 = .ok (.getfield 71, 3) := by decide +kernel
theorem d14_54_49 : decode prog_14_method_54_code 49 = .ok (.iload_n 1, 1) := by decide +kernel
theorem d14_54_50 : decode prog_14_method_54_code 50 = .ok (.aload_n 0, 1) := by decide +kernel
theorem d14_54_51 : decode prog_14_method_54_code 51 = .ok (.iload_n 1, 1) := by decide +kernel
theorem d14_54_52 : decode prog_14_method_54_code 52 = .ok (.invokevirtual 252, 3) := by decide +kernel
theorem d14_54_55 : decode prog_14_method_54_code 55 = .ok (.bastore, 1) := by decide +kernel
theorem d14_54_56 : decode prog_14_method_54_code 56 = .ok (.goto 103, 3) := by decide +kernel
theorem d14_54_59 : decode prog_14_method_54_code 59 = .ok (.aload_n 0, 1) := by decide +kernel
theorem d14_54_60 : decode prog_14_method_54_code 60 = .ok (.getfield 35, 3) := by decide +kernel
theorem d14_54_63 : decode prog_14_method_54_code 63 = .ok (.iload_n 1, 1) := by decide +kernel
theorem d14_54_64 : decode prog_14_method_54_code 64 = .ok (.iaload, 1) := by decide +kernel
theorem d14_54_65 : decode prog_14_method_54_code 65 = .ok (.iconst 5, 1) := by decide +kernel
theorem d14_54_66 : decode prog_14_method_54_code 66 = .ok (.if_icmp .eq 28, 3) := by decide +kernel
theorem d14_54_69 : decode prog_14_method_54_code 69 = .ok (.aload_n 0, 1) := by decide +kernel
theorem d14_54_70 : decode prog_14_method_54_code 70 = .ok (.getfield 35, 3) := by decide +kernel
theorem d14_54_73 : decode prog_14_method_54_code 73 = .ok (.iload_n 1, 1) := by decide +kernel
theorem d14_54_74 : decode prog_14_method_54_code 74 = .ok (.iaload, 1) := by decide +kernel
theorem d14_54_75 : decode prog_14_method_54_code 75 = .ok (.iconst 4, 1) := by decide +kernel
theorem d14_54_76 : decode prog_14_method_54_code 76 = .ok (.if_icmp .ne 57, 3) := by decide +kernel
theorem d14_54_79 : decode prog_14_method_54_code 79 = .ok (.aload_n 0, 1) := by decide +kernel
theorem d14_54_80 : decode prog_14_method_54_code 80 = .ok (.getfield 47, 3) := by decide +kernel
theorem d14_54_83 : decode prog_14_method_54_code 83 = .ok (.iload_n 1, 1) := by decide +kernel
theorem d14_54_84 : decode prog_14_method_54_code 84 = .ok (.iaload, 1) := by decide +kernel
theorem d14_54_85 : decode prog_14_method_54_code 85 = .ok (.aload_n 0, 1) := by decide +kernel
theorem d14_54_86 : decode prog_14_method_54_code 86 = .ok (.getfield 50, 3) := by decide +kernel
theorem d14_54_89 : decode prog_14_method_54_code 89 = .ok (.iload_n 1, 1) := by decide +kernel
theorem d14_54_90 : decode prog_14_method_54_code 90 = .ok (.iaload, 1) := by decide +kernel
theorem d14_54_91 : decode prog_14_method_54_code 91 = .ok (.if_icmp .ne 42, 3) := by decide +kernel
theorem d14_54_94 : decode prog_14_method_54_code 94 = .ok (.aload_n 0, 1) := by decide +kernel
theorem d14_54_95 : decode prog_14_method_54_code 95 = .ok (.iload_n 1, 1) := by decide +kernel
theorem d14_54_96 : decode prog_14_method_54_code 96 = .ok (.iconst (-1), 1) := by decide +kernel
theorem d14_54_97 : decode prog_14_method_54_code 97 = .ok (.invokevirtual 255, 3) := by decide +kernel
theorem d14_54_100 : decode prog_14_method_54_code 100 = .ok (.istore_n 2, 1) := by decide +kernel
theorem d14_54_101 : decode prog_14_method_54_code 101 = .ok (.aload_n 0, 1) := by decide +kernel
theorem d14_54_102 : decode prog_14_method_54_code 102 = .ok (.getfield 71, 3) := by decide +kernel
theorem d14_54_105 : decode prog_14_method_54_code 105 = .ok (.iload_n 1, 1) := by decide +kernel
theorem d14_54_106 : decode prog_14_method_54_code 106 = .ok (.aload_n 0, 1) := by decide +kernel
theorem d14_54_107 : decode prog_14_method_54_code 107 = .ok (.getfield 232, 3) := by decide +kernel
theorem d14_54_110 : decode prog_14_method_54_code 110 = .ok (.ifCond .eq 11, 3) := by decide +kernel
theorem d14_54_113 : decode prog_14_method_54_code 113 = .ok (.iload_n 2, 1) := by decide +kernel
theorem d14_54_114 : decode prog_14_method_54_code 114 = .ok (.ifCond .eq 7, 3) := by decide +kernel
theorem d14_54_117 : decode prog_14_method_54_code 117 = .ok (.iconst 1, 1) := by decide +kernel
theorem d14_54_118 : decode prog_14_method_54_code 118 = .ok (.goto 4, 3) := by decide +kernel
theorem d14_54_121 : decode prog_14_method_54_code 121 = .ok (.iconst 0, 1) := by decide +kernel
theorem d14_54_122 : decode prog_14_method_54_code 122 = .ok (.bastore, 1) := by decide +kernel
theorem d14_54_123 : decode prog_14_method_54_code 123 = .ok (.aload_n 0, 1) := by decide +kernel
theorem d14_54_124 : decode prog_14_method_54_code 124 = .ok (.bipush 30, 2) := by decide +kernel
theorem d14_54_126 : decode prog_14_method_54_code 126 = .ok (.iload_n 1, 1) := by decide +kernel
theorem d14_54_127 : decode prog_14_method_54_code 127 = .ok (.invokevirtual 243, 3) := by decide +kernel
theorem d14_54_130 : decode prog_14_method_54_code 130 = .ok (.goto 29, 3) := by decide +kernel
theorem d14_54_133 : decode prog_14_method_54_code 133 = .ok (.aload_n 0, 1) := by decide +kernel
theorem d14_54_134 : decode prog_14_method_54_code 134 = .ok (.getfield 71, 3) := by decide +kernel
theorem d14_54_137 : decode prog_14_method_54_code 137 = .ok (.iload_n 1, 1) := by decide +kernel
theorem d14_54_138 : decode prog_14_method_54_code 138 = .ok (.aload_n 0, 1) := by decide +kernel
theorem d14_54_139 : decode prog_14_method_54_code 139 = .ok (.getfield 35, 3) := by decide +kernel
theorem d14_54_142 : decode prog_14_method_54_code 142 = .ok (.iload_n 1, 1) := by decide +kernel
theorem d14_54_143 : decode prog_14_method_54_code 143 = .ok (.iaload, 1) := by decide +kernel
theorem d14_54_144 : decode prog_14_method_54_code 144 = .ok (.iconst 4, 1) := by decide +kernel
theorem d14_54_145 : decode prog_14_method_54_code 145 = .ok (.if_icmp .eq 7, 3) := by decide +kernel
theorem d14_54_148 : decode prog_14_method_54_code 148 = .ok (.iconst 1, 1) := by decide +kernel
theorem d14_54_149 : decode prog_14_method_54_code 149 = .ok (.goto 4, 3) := by decide +kernel
theorem d14_54_152 : decode prog_14_method_54_code 152 = .ok (.iconst 0, 1) := by decide +kernel
theorem d14_54_153 : decode prog_14_method_54_code 153 = .ok (.bastore, 1) := by decide +kernel
theorem d14_54_154 : decode prog_14_method_54_code 154 = .ok (.aload_n 0, 1) := by decide +kernel
theorem d14_54_155 : decode prog_14_method_54_code 155 = .ok (.iload_n 1, 1) := by decide +kernel
theorem d14_54_156 : decode prog_14_method_54_code 156 = .ok (.invokevirtual 236, 3) := by decide +kernel
theorem d14_54_159 : decode prog_14_method_54_code 159 = .ok (.iinc 1 1, 3) := by decide +kernel
theorem d14_54_162 : decode prog_14_method_54_code 162 = .ok (.goto (-160), 3) := by decide +kernel
theorem d14_54_165 : decode prog_14_method_54_code 165 = .ok (.return_, 1) := by decide +kernel
