theorem d14_59_0 : decode prog_14_method_59_code 0 = .ok (.iconst 0, 1) := by decide +kernel
theorem d14_59_1 : decode prog_14_method_59_code 1 = .ok (.istore_n 3, 1) := by decide +kernel
theorem d14_59_2 : decode prog_14_method_59_code 2 = .ok (.iload_n 3, 1) := by decide +kernel
theorem d14_59_3 : decode prog_14_method_59_code 3 = .ok (.aload_n 0, 1) := by decide +kernel
theorem d14_59_4 : decode prog_14_method_59_code 4 = .ok (.getfield 136, 3) := by decide +kernel
theorem d14_59_7 : decode prog_14_method_59_code 7 = .ok (.if_icmp .ge 46, 3) := by decide +kernel
theorem d14_59_10 : decode prog_14_method_59_code 10 = .ok (.iconst 0, 1) := by decide +kernel
theorem d14_59_11 : decode prog_14_method_59_code 11 = .ok (.istore 4, 2) := by decide +kernel
theorem d14_59_13 : decode prog_14_method_59_code 13 = .ok (.iload 4, 2) := by decide +kernel
theorem d14_59_15 : decode prog_14_method_59_code 15 = .ok (.aload_n 0, 1) := by decide +kernel
theorem d14_59_16 : decode prog_14_method_59_code 16 = .ok (.getfield 261, 3) := by decide +kernel
theorem d14_59_19 : decode prog_14_method_59_code 19 = .ok (.if_icmp .gt 28, 3) := by decide +kernel
theorem d14_59_22 : decode prog_14_method_59_code 22 = .ok (.aload_n 0, 1) := by decide +kernel
theorem d14_59_23 : decode prog_14_method_59_code 23 = .ok (.getfield 86, 3) := by decide +kernel
theorem d14_59_26 : decode prog_14_method_59_code 26 = .ok (.bipush 41, 2) := by decide +kernel
theorem d14_59_28 : decode prog_14_method_59_code 28 = .ok (.iload_n 3, 1) := by decide +kernel
theorem d14_59_29 : decode prog_14_method_59_code 29 = .ok (.imul, 1) := by decide +kernel
theorem d14_59_30 : decode prog_14_method_59_code 30 = .ok (.iload 4, 2) := by decide +kernel
theorem d14_59_32 : decode prog_14_method_59_code 32 = .ok (.iadd, 1) := by decide +kernel
theorem d14_59_33 : decode prog_14_method_59_code 33 = .ok (.aload_n 0, 1) := by decide +kernel
theorem d14_59_34 : decode prog_14_method_59_code 34 = .ok (.iload_n 3, 1) := by decide +kernel
theorem d14_59_35 : decode prog_14_method_59_code 35 = .ok (.iload 4, 2) := by decide +kernel
theorem d14_59_37 : decode prog_14_method_59_code 37 = .ok (.invokevirtual 271, 3) := by decide +kernel
theorem d14_59_40 : decode prog_14_method_59_code 40 = .ok (.lastore, 1) := by decide +kernel
theorem d14_59_41 : decode prog_14_method_59_code 41 = .ok (.iinc 4 1, 3) := by decide +kernel
theorem d14_59_44 : decode prog_14_method_59_code 44 = .ok (.goto (-31), 3) := by decide +kernel
theorem d14_59_47 : decode prog_14_method_59_code 47 = .ok (.iinc 3 1, 3) := by decide +kernel
theorem d14_59_50 : decode prog_14_method_59_code 50 = .ok (.goto (-48), 3) := by decide +kernel
theorem d14_59_53 : decode prog_14_method_59_code 53 = .ok (.iconst 0, 1) := by decide +kernel
theorem d14_59_54 : decode prog_14_method_59_code 54 = .ok (.istore_n 3, 1) := by decide +kernel
theorem d14_59_55 : decode prog_14_method_59_code 55 = .ok (.iload_n 3, 1) := by decide +kernel
theorem d14_59_56 : decode prog_14_method_59_code 56 = .ok (.aload_n 0, 1) := by decide +kernel
theorem d14_59_57 : decode prog_14_method_59_code 57 = .ok (.getfield 261, 3) := by decide +kernel
theorem d14_59_60 : decode prog_14_method_59_code 60 = .ok (.if_icmp .gt 96, 3) := by decide +kernel
theorem d14_59_63 : decode prog_14_method_59_code 63 = .ok (.aload_n 0, 1) := by decide +kernel
theorem d14_59_64 : decode prog_14_method_59_code 64 = .ok (.getfield 86, 3) := by decide +kernel
theorem d14_59_67 : decode prog_14_method_59_code 67 = .ok (.bipush 41, 2) := by decide +kernel
theorem d14_59_69 : decode prog_14_method_59_code 69 = .ok (.aload_n 0, 1) := by decide +kernel
theorem d14_59_70 : decode prog_14_method_59_code 70 = .ok (.getfield 136, 3) := by decide +kernel
theorem d14_59_73 : decode prog_14_method_59_code 73 = .ok (.iconst 1, 1) := by decide +kernel
theorem d14_59_74 : decode prog_14_method_59_code 74 = .ok (.isub, 1) := by decide +kernel
theorem d14_59_75 : decode prog_14_method_59_code 75 = .ok (.imul, 1) := by decide +kernel
theorem d14_59_76 : decode prog_14_method_59_code 76 = .ok (.iload_n 3, 1) := by decide +kernel
theorem d14_59_77 : decode prog_14_method_59_code 77 = .ok (.iadd, 1) := by decide +kernel
theorem d14_59_78 : decode prog_14_method_59_code 78 = .ok (.laload, 1) := by decide +kernel
theorem d14_59_79 : decode prog_14_method_59_code 79 = .ok (.lstore 4, 2) := by decide +kernel
theorem d14_59_81 : decode prog_14_method_59_code 81 = .ok (.lload 4, 2) := by decide +kernel
theorem d14_59_83 : decode prog_14_method_59_code 83 = .ok (.lconst 0, 1) := by decide +kernel
theorem d14_59_84 : decode prog_14_method_59_code 84 = .ok (.lcmp, 1) := by decide +kernel
theorem d14_59_85 : decode prog_14_method_59_code 85 = .ok (.ifCond .eq 65, 3) := by decide +kernel
theorem d14_59_88 : decode prog_14_method_59_code 88 = .ok (.bipush 40, 2) := by decide +kernel
theorem d14_59_90 : decode prog_14_method_59_code 90 = .ok (.istore 6, 2) := by decide +kernel
theorem d14_59_92 : decode prog_14_method_59_code 92 = .ok (.lload 4, 2) := by decide +kernel
theorem d14_59_94 : decode prog_14_method_59_code 94 = .ok (.iload 6, 2) := by decide +kernel
theorem d14_59_96 : decode prog_14_method_59_code 96 = .ok (.lshr, 1) := by decide +kernel
theorem d14_59_97 : decode prog_14_method_59_code 97 = .ok (.lconst 1, 1) := by decide +kernel
theorem d14_59_98 : decode prog_14_method_59_code 98 = .ok (.land, 1) := by decide +kernel
theorem d14_59_99 : decode prog_14_method_59_code 99 = .ok (.lconst 0, 1) := by decide +kernel
theorem d14_59_100 : decode prog_14_method_59_code 100 = .ok (.lcmp, 1) := by decide +kernel
theorem d14_59_101 : decode prog_14_method_59_code 101 = .ok (.ifCond .ne 9, 3) := by decide +kernel
theorem d14_59_104 : decode prog_14_method_59_code 104 = .ok (.iinc 6 (-1), 3) := by decide +kernel
theorem d14_59_107 : decode prog_14_method_59_code 107 = .ok (.goto (-15), 3) := by decide +kernel
theorem d14_59_110 : decode prog_14_method_59_code 110 = .ok (.aload_n 0, 1) := by decide +kernel
theorem d14_59_111 : decode prog_14_method_59_code 111 = .ok (.getfield 90, 3) := by decide +kernel
theorem d14_59_114 : decode prog_14_method_59_code 114 = .ok (.aload_n 0, 1) := by decide +kernel
theorem d14_59_115 : decode prog_14_method_59_code 115 = .ok (.getfield 275, 3) := by decide +kernel
theorem d14_59_118 : decode prog_14_method_59_code 118 = .ok (.iload_n 1, 1) := by decide +kernel
theorem d14_59_119 : decode prog_14_method_59_code 119 = .ok (.ldc_w 278, 3) := by decide +kernel
theorem d14_59_122 : decode prog_14_method_59_code 122 = .ok (.imul, 1) := by decide +kernel
theorem d14_59_123 : decode prog_14_method_59_code 123 = .ok (.iload_n 2, 1) := by decide +kernel
theorem d14_59_124 : decode prog_14_method_59_code 124 = .ok (.ldc_w 279, 3) := by decide +kernel
theorem d14_59_127 : decode prog_14_method_59_code 127 = .ok (.imul, 1) := by decide +kernel
theorem d14_59_128 : decode prog_14_method_59_code 128 = .ok (.iadd, 1) := by decide +kernel
theorem d14_59_129 : decode prog_14_method_59_code 129 = .ok (.iload_n 3, 1) := by decide +kernel
theorem d14_59_130 : decode prog_14_method_59_code 130 = .ok (.sipush 256, 3) := by decide +kernel
theorem d14_59_133 : decode prog_14_method_59_code 133 = .ok (.imul, 1) := by decide +kernel
theorem d14_59_134 : decode prog_14_method_59_code 134 = .ok (.iadd, 1) := by decide +kernel
theorem d14_59_135 : decode prog_14_method_59_code 135 = .ok (.iload 6, 2) := by decide +kernel
theorem d14_59_137 : decode prog_14_method_59_code 137 = .ok (.iadd, 1) := by decide +kernel
theorem d14_59_138 : decode prog_14_method_59_code 138 = .ok (.iastore, 1) := by decide +kernel
theorem d14_59_139 : decode prog_14_method_59_code 139 = .ok (.aload_n 0, 1) := by decide +kernel
theorem d14_59_140 : decode prog_14_method_59_code 140 = .ok (.dup, 1) := by decide +kernel
theorem d14_59_141 : decode prog_14_method_59_code 141 = .ok (.getfield 275, 3) := by decide +kernel
theorem d14_59_144 : decode prog_14_method_59_code 144 = .ok (.iconst 1, 1) := by decide +kernel
theorem d14_59_145 : decode prog_14_method_59_code 145 = .ok (.iadd, 1) := by decide +kernel
theorem d14_59_146 : decode prog_14_method_59_code 146 = .ok (.putfield 275, 3) := by decide +kernel
theorem d14_59_149 : decode prog_14_method_59_code 149 = .ok (.return_, 1) := by decide +kernel
theorem d14_59_150 : decode prog_14_method_59_code 150 = .ok (.iinc 3 1, 3) := by decide +kernel
theorem d14_59_153 : decode prog_14_method_59_code 153 = .ok (.goto (-98), 3) := by decide +kernel
theorem d14_59_156 : decode prog_14_method_59_code 156 = .ok (.return_, 1) := by decide +kernel
theorem d14_60_0 : decode prog_14_method_60_code 0 = .ok (.iconst 0, 1) := by decide +kernel
theorem d14_60_1 : decode prog_14_method_60_code 1 = .ok (.istore_n 3, 1) := by decide +kernel
theorem d14_60_2 : decode prog_14_method_60_code 2 = .ok (.aload_n 0, 1) := by decide +kernel
theorem d14_60_3 : decode prog_14_method_60_code 3 = .ok (.bipush 40, 2) := by decide +kernel
theorem d14_60_5 : decode prog_14_method_60_code 5 = .ok (.iload_n 2, 1) := by decide +kernel
theorem d14_60_6 : decode prog_14_method_60_code 6 = .ok (.imul, 1) := by decide +kernel
theorem d14_60_7 : decode prog_14_method_60_code 7 = .ok (.putfield 264, 3) := by decide +kernel
theorem d14_60_10 : decode prog_14_method_60_code 10 = .ok (.iconst 0, 1) := by decide +kernel
theorem d14_60_11 : decode prog_14_method_60_code 11 = .ok (.istore 4, 2) := by decide +kernel
theorem d14_60_13 : decode prog_14_method_60_code 13 = .ok (.iload 4, 2) := by decide +kernel
theorem d14_60_15 : decode prog_14_method_60_code 15 = .ok (.aload_n 0, 1) := by decide +kernel
theorem d14_60_16 : decode prog_14_method_60_code 16 = .ok (.getfield 13, 3) := by decide +kernel
theorem d14_60_19 : decode prog_14_method_60_code 19 = .ok (.iload_n 2, 1) := by decide +kernel
theorem d14_60_20 : decode prog_14_method_60_code 20 = .ok (.iaload, 1) := by decide +kernel
theorem d14_60_21 : decode prog_14_method_60_code 21 = .ok (.if_icmp .gt 75, 3) := by decide +kernel
theorem d14_60_24 : decode prog_14_method_60_code 24 = .ok (.iload 4, 2) := by decide +kernel
theorem d14_60_26 : decode prog_14_method_60_code 26 = .ok (.aload_n 0, 1) := by decide +kernel
theorem d14_60_27 : decode prog_14_method_60_code 27 = .ok (.getfield 13, 3) := by decide +kernel
theorem d14_60_30 : decode prog_14_method_60_code 30 = .ok (.iload_n 2, 1) := by decide +kernel
theorem d14_60_31 : decode prog_14_method_60_code 31 = .ok (.iaload, 1) := by decide +kernel
theorem d14_60_32 : decode prog_14_method_60_code 32 = .ok (.if_icmp .eq 20, 3) := by decide +kernel
theorem d14_60_35 : decode prog_14_method_60_code 35 = .ok (.aload_n 0, 1) := by decide +kernel
theorem d14_60_36 : decode prog_14_method_60_code 36 = .ok (.getfield 7, 3) := by decide +kernel
theorem d14_60_39 : decode prog_14_method_60_code 39 = .ok (.bipush 40, 2) := by decide +kernel
theorem d14_60_41 : decode prog_14_method_60_code 41 = .ok (.iload_n 2, 1) := by decide +kernel
theorem d14_60_42 : decode prog_14_method_60_code 42 = .ok (.imul, 1) := by decide +kernel
theorem d14_60_43 : decode prog_14_method_60_code 43 = .ok (.iload 4, 2) := by decide +kernel
theorem d14_60_45 : decode prog_14_method_60_code 45 = .ok (.iadd, 1) := by decide +kernel
theorem d14_60_46 : decode prog_14_method_60_code 46 = .ok (.iaload, 1) := by decide +kernel
theorem d14_60_47 : decode prog_14_method_60_code 47 = .ok (.bipush 10, 2) := by decide +kernel
theorem d14_60_49 : decode prog_14_method_60_code 49 = .ok (.if_icmp .ne 41, 3) := by decide +kernel
theorem d14_60_52 : decode prog_14_method_60_code 52 = .ok (.aload_n 0, 1) := by decide +kernel
theorem d14_60_53 : decode prog_14_method_60_code 53 = .ok (.bipush 40, 2) := by decide +kernel
theorem d14_60_55 : decode prog_14_method_60_code 55 = .ok (.iload_n 2, 1) := by decide +kernel
theorem d14_60_56 : decode prog_14_method_60_code 56 = .ok (.imul, 1) := by decide +kernel
theorem d14_60_57 : decode prog_14_method_60_code 57 = .ok (.iload 4, 2) := by decide +kernel
theorem d14_60_59 : decode prog_14_method_60_code 59 = .ok (.iadd, 1) := by decide +kernel
theorem d14_60_60 : decode prog_14_method_60_code 60 = .ok (.aload_n 0, 1) := by decide +kernel
theorem d14_60_61 : decode prog_14_method_60_code 61 = .ok (.getfield 264, 3) := by decide +kernel
theorem d14_60_64 : decode prog_14_method_60_code 64 = .ok (.isub, 1) := by decide +kernel
theorem d14_60_65 : decode prog_14_method_60_code 65 = .ok (.putfield 261, 3) := by decide +kernel
theorem d14_60_68 : decode prog_14_method_60_code 68 = .ok (.aload_n 0, 1) := by decide +kernel
theorem d14_60_69 : decode prog_14_method_60_code 69 = .ok (.iload_n 1, 1) := by decide +kernel
theorem d14_60_70 : decode prog_14_method_60_code 70 = .ok (.iload_n 3, 1) := by decide +kernel
theorem d14_60_71 : decode prog_14_method_60_code 71 = .ok (.invokevirtual 280, 3) := by decide +kernel
theorem d14_60_74 : decode prog_14_method_60_code 74 = .ok (.iinc 3 1, 3) := by decide +kernel
theorem d14_60_77 : decode prog_14_method_60_code 77 = .ok (.aload_n 0, 1) := by decide +kernel
theorem d14_60_78 : decode prog_14_method_60_code 78 = .ok (.bipush 40, 2) := by decide +kernel
theorem d14_60_80 : decode prog_14_method_60_code 80 = .ok (.iload_n 2, 1) := by decide +kernel
theorem d14_60_81 : decode prog_14_method_60_code 81 = .ok (.imul, 1) := by decide +kernel
theorem d14_60_82 : decode prog_14_method_60_code 82 = .ok (.iload 4, 2) := by decide +kernel
theorem d14_60_84 : decode prog_14_method_60_code 84 = .ok (.iadd, 1) := by decide +kernel
theorem d14_60_85 : decode prog_14_method_60_code 85 = .ok (.iconst 1, 1) := by decide +kernel
theorem d14_60_86 : decode prog_14_method_60_code 86 = .ok (.iadd, 1) := by decide +kernel
theorem d14_60_87 : decode prog_14_method_60_code 87 = .ok (.putfield 264, 3) := by decide +kernel
theorem d14_60_90 : decode prog_14_method_60_code 90 = .ok (.iinc 4 1, 3) := by decide +kernel
theorem d14_60_93 : decode prog_14_method_60_code 93 = .ok (.goto (-80), 3) := by decide +kernel
theorem d14_60_96 : decode prog_14_method_60_code 96 = .ok (.return_, 1) := by decide +kernel
