theorem d14_10_0 : decode prog_14_method_10_code 0 = .ok (.aload_n 0, 1) := by decide +kernel
theorem d14_10_1 : decode prog_14_method_10_code 1 = .ok (.getfield 114, 3) := by decide +kernel
theorem d14_10_4 : decode prog_14_method_10_code 4 = .ok (.iconst 2, 1) := by decide +kernel
theorem d14_10_5 : decode prog_14_method_10_code 5 = .ok (.isub, 1) := by decide +kernel
theorem d14_10_6 : decode prog_14_method_10_code 6 = .ok (.istore_n 1, 1) := by decide +kernel
theorem d14_10_7 : decode prog_14_method_10_code 7 = .ok (.aload_n 0, 1) := by decide +kernel
theorem d14_10_8 : decode prog_14_method_10_code 8 = .ok (.getfield 114, 3) := by decide +kernel
theorem d14_10_11 : decode prog_14_method_10_code 11 = .ok (.iconst 1, 1) := by decide +kernel
theorem d14_10_12 : decode prog_14_method_10_code 12 = .ok (.isub, 1) := by decide +kernel
theorem d14_10_13 : decode prog_14_method_10_code 13 = .ok (.istore_n 2, 1) := by decide +kernel
theorem d14_10_14 : decode prog_14_method_10_code 14 = .ok (.iconst 0, 1) := by decide +kernel
theorem d14_10_15 : decode prog_14_method_10_code 15 = .ok (.istore_n 3, 1) := by decide +kernel
theorem d14_10_16 : decode prog_14_method_10_code 16 = .ok (.iload_n 3, 1) := by decide +kernel
theorem d14_10_17 : decode prog_14_method_10_code 17 = .ok (.sipush 128, 3) := by decide +kernel
theorem d14_10_20 : decode prog_14_method_10_code 20 = .ok (.if_icmp .ge 75, 3) := by decide +kernel
theorem d14_10_23 : decode prog_14_method_10_code 23 = .ok (.aload_n 0, 1) := by decide +kernel
theorem d14_10_24 : decode prog_14_method_10_code 24 = .ok (.getfield 20, 3) := by decide +kernel
theorem d14_10_27 : decode prog_14_method_10_code 27 = .ok (.iload_n 3, 1) := by decide +kernel
theorem d14_10_28 : decode prog_14_method_10_code 28 = .ok (.iaload, 1) := by decide +kernel
theorem d14_10_29 : decode prog_14_method_10_code 29 = .ok (.iload_n 1, 1) := by decide +kernel
theorem d14_10_30 : decode prog_14_method_10_code 30 = .ok (.if_icmp .eq 13, 3) := by decide +kernel
theorem d14_10_33 : decode prog_14_method_10_code 33 = .ok (.aload_n 0, 1) := by decide +kernel
theorem d14_10_34 : decode prog_14_method_10_code 34 = .ok (.getfield 20, 3) := by decide +kernel
theorem d14_10_37 : decode prog_14_method_10_code 37 = .ok (.iload_n 3, 1) := by decide +kernel
theorem d14_10_38 : decode prog_14_method_10_code 38 = .ok (.iaload, 1) := by decide +kernel
theorem d14_10_39 : decode prog_14_method_10_code 39 = .ok (.iload_n 2, 1) := by decide +kernel
theorem d14_10_40 : decode prog_14_method_10_code 40 = .ok (.if_icmp .ne 49, 3) := by decide +kernel
theorem d14_10_43 : decode prog_14_method_10_code 43 = .ok (.aload_n 0, 1) := by decide +kernel
theorem d14_10_44 : decode prog_14_method_10_code 44 = .ok (.getfield 20, 3) := by decide +kernel
theorem d14_10_47 : decode prog_14_method_10_code 47 = .ok (.iload_n 3, 1) := by decide +kernel
theorem d14_10_48 : decode prog_14_method_10_code 48 = .ok (.aload_n 0, 1) := by decide +kernel
theorem d14_10_49 : decode prog_14_method_10_code 49 = .ok (.getfield 16, 3) := by decide +kernel
theorem d14_10_52 : decode prog_14_method_10_code 52 = .ok (.iload_n 3, 1) := by decide +kernel
theorem d14_10_53 : decode prog_14_method_10_code 53 = .ok (.baload, 1) := by decide +kernel
theorem d14_10_54 : decode prog_14_method_10_code 54 = .ok (.ifCond .eq 7, 3) := by decide +kernel
theorem d14_10_57 : decode prog_14_method_10_code 57 = .ok (.iload_n 1, 1) := by decide +kernel
theorem d14_10_58 : decode prog_14_method_10_code 58 = .ok (.goto 4, 3) := by decide +kernel
theorem d14_10_61 : decode prog_14_method_10_code 61 = .ok (.iconst (-1), 1) := by decide +kernel
theorem d14_10_62 : decode prog_14_method_10_code 62 = .ok (.iastore, 1) := by decide +kernel
theorem d14_10_63 : decode prog_14_method_10_code 63 = .ok (.aload_n 0, 1) := by decide +kernel
theorem d14_10_64 : decode prog_14_method_10_code 64 = .ok (.aload_n 0, 1) := by decide +kernel
theorem d14_10_65 : decode prog_14_method_10_code 65 = .ok (.getfield 16, 3) := by decide +kernel
theorem d14_10_68 : decode prog_14_method_10_code 68 = .ok (.iload_n 3, 1) := by decide +kernel
theorem d14_10_69 : decode prog_14_method_10_code 69 = .ok (.baload, 1) := by decide +kernel
theorem d14_10_70 : decode prog_14_method_10_code 70 = .ok (.ifCond .eq 10, 3) := by decide +kernel
theorem d14_10_73 : decode prog_14_method_10_code 73 = .ok (.aload_n 0, 1) := by decide +kernel
theorem d14_10_74 : decode prog_14_method_10_code 74 = .ok (.getfield 120, 3) := by decide +kernel
theorem d14_10_77 : decode prog_14_method_10_code 77 = .ok (.goto 9, 3) := by decide +kernel
theorem d14_10_80 : decode prog_14_method_10_code 80 = .ok (.aload_n 0, 1) := by decide +kernel
theorem d14_10_81 : decode prog_14_method_10_code 81 = .ok (.getfield 120, 3) := by decide +kernel
theorem d14_10_84 : decode prog_14_method_10_code 84 = .ok (.iconst 1, 1) := by decide +kernel
theorem d14_10_85 : decode prog_14_method_10_code 85 = .ok (.iadd, 1) := by decide +kernel
theorem d14_10_86 : decode prog_14_method_10_code 86 = .ok (.putfield 120, 3) := by decide +kernel
theorem d14_10_89 : decode prog_14_method_10_code 89 = .ok (.iinc 3 1, 3) := by decide +kernel
theorem d14_10_92 : decode prog_14_method_10_code 92 = .ok (.goto (-76), 3) := by decide +kernel
theorem d14_10_95 : decode prog_14_method_10_code 95 = .ok (.aload_n 0, 1) := by decide +kernel
theorem d14_10_96 : decode prog_14_method_10_code 96 = .ok (.getfield 26, 3) := by decide +kernel
theorem d14_10_99 : decode prog_14_method_10_code 99 = .ok (.iload_n 1, 1) := by decide +kernel
theorem d14_10_100 : decode prog_14_method_10_code 100 = .ok (.aload_n 0, 1) := by decide +kernel
theorem d14_10_101 : decode prog_14_method_10_code 101 = .ok (.getfield 26, 3) := by decide +kernel
theorem d14_10_104 : decode prog_14_method_10_code 104 = .ok (.iload_n 1, 1) := by decide +kernel
theorem d14_10_105 : decode prog_14_method_10_code 105 = .ok (.iaload, 1) := by decide +kernel
theorem d14_10_106 : decode prog_14_method_10_code 106 = .ok (.aload_n 0, 1) := by decide +kernel
theorem d14_10_107 : decode prog_14_method_10_code 107 = .ok (.getfield 26, 3) := by decide +kernel
theorem d14_10_110 : decode prog_14_method_10_code 110 = .ok (.iload_n 2, 1) := by decide +kernel
theorem d14_10_111 : decode prog_14_method_10_code 111 = .ok (.iaload, 1) := by decide +kernel
theorem d14_10_112 : decode prog_14_method_10_code 112 = .ok (.if_icmp .le 12, 3) := by decide +kernel
theorem d14_10_115 : decode prog_14_method_10_code 115 = .ok (.aload_n 0, 1) := by decide +kernel
theorem d14_10_116 : decode prog_14_method_10_code 116 = .ok (.getfield 26, 3) := by decide +kernel
theorem d14_10_119 : decode prog_14_method_10_code 119 = .ok (.iload_n 1, 1) := by decide +kernel
theorem d14_10_120 : decode prog_14_method_10_code 120 = .ok (.iaload, 1) := by decide +kernel
theorem d14_10_121 : decode prog_14_method_10_code 121 = .ok (.goto 9, 3) := by decide +kernel
theorem d14_10_124 : decode prog_14_method_10_code 124 = .ok (.aload_n 0, 1) := by decide +kernel
theorem d14_10_125 : decode prog_14_method_10_code 125 = .ok (.getfield 26, 3) := by decide +kernel
theorem d14_10_128 : decode prog_14_method_10_code 128 = .ok (.iload_n 2, 1) := by decide +kernel
theorem d14_10_129 : decode prog_14_method_10_code 129 = .ok (.iaload, 1) := by decide +kernel
theorem d14_10_130 : decode prog_14_method_10_code 130 = .ok (.iconst 1, 1) := by decide +kernel
theorem d14_10_131 : decode prog_14_method_10_code 131 = .ok (.iadd, 1) := by decide +kernel
theorem d14_10_132 : decode prog_14_method_10_code 132 = .ok (.iastore, 1) := by decide +kernel
theorem d14_10_133 : decode prog_14_method_10_code 133 = .ok (.aload_n 0, 1) := by decide +kernel
theorem d14_10_134 : decode prog_14_method_10_code 134 = .ok (.iload_n 1, 1) := by decide +kernel
theorem d14_10_135 : decode prog_14_method_10_code 135 = .ok (.invokevirtual 107, 3) := by decide +kernel
theorem d14_10_138 : decode prog_14_method_10_code 138 = .ok (.istore_n 3, 1) := by decide +kernel
theorem d14_10_139 : decode prog_14_method_10_code 139 = .ok (.aload_n 0, 1) := by decide +kernel
theorem d14_10_140 : decode prog_14_method_10_code 140 = .ok (.iload_n 3, 1) := by decide +kernel
theorem d14_10_141 : decode prog_14_method_10_code 141 = .ok (.ifCond .ne 7, 3) := by decide +kernel
theorem d14_10_144 : decode prog_14_method_10_code 144 = .ok (.iload_n 1, 1) := by decide +kernel
theorem d14_10_145 : decode prog_14_method_10_code 145 = .ok (.goto 4, 3) := by decide +kernel
theorem d14_10_148 : decode prog_14_method_10_code 148 = .ok (.iload_n 2, 1) := by decide +kernel
theorem d14_10_149 : decode prog_14_method_10_code 149 = .ok (.putfield 114, 3) := by decide +kernel
theorem d14_10_152 : decode prog_14_method_10_code 152 = .ok (.return_, 1) := by decide +kernel
