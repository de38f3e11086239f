theorem d12_4_0 : decode prog_12_method_4_code 0 = .ok (.aload_n 0, 1) := by decide +kernel
theorem d12_4_1 : decode prog_12_method_4_code 1 = .ok (.getfield 9, 3) := by decide +kernel
theorem d12_4_4 : decode prog_12_method_4_code 4 = .ok (.iload_n 1, 1) := by decide +kernel
theorem d12_4_5 : decode prog_12_method_4_code 5 = .ok (.bipush 12, 2) := by decide +kernel
theorem d12_4_7 : decode prog_12_method_4_code 7 = .ok (.imul, 1) := by decide +kernel
theorem d12_4_8 : decode prog_12_method_4_code 8 = .ok (.iload_n 2, 1) := by decide +kernel
theorem d12_4_9 : decode prog_12_method_4_code 9 = .ok (.iadd, 1) := by decide +kernel
theorem d12_4_10 : decode prog_12_method_4_code 10 = .ok (.caload, 1) := by decide +kernel
theorem d12_4_11 : decode prog_12_method_4_code 11 = .ok (.ireturn, 1) := by decide +kernel
theorem d12_8_0 : decode prog_12_method_8_code 0 = .ok (.aload_n 0, 1) := by decide +kernel
theorem d12_8_1 : decode prog_12_method_8_code 1 = .ok (.getfield 13, 3) := by decide +kernel
theorem d12_8_4 : decode prog_12_method_8_code 4 = .ok (.iload_n 1, 1) := by decide +kernel
theorem d12_8_5 : decode prog_12_method_8_code 5 = .ok (.iaload, 1) := by decide +kernel
theorem d12_8_6 : decode prog_12_method_8_code 6 = .ok (.aload_n 0, 1) := by decide +kernel
theorem d12_8_7 : decode prog_12_method_8_code 7 = .ok (.getfield 13, 3) := by decide +kernel
theorem d12_8_10 : decode prog_12_method_8_code 10 = .ok (.aload_n 0, 1) := by decide +kernel
theorem d12_8_11 : decode prog_12_method_8_code 11 = .ok (.getfield 18, 3) := by decide +kernel
theorem d12_8_14 : decode prog_12_method_8_code 14 = .ok (.iaload, 1) := by decide +kernel
theorem d12_8_15 : decode prog_12_method_8_code 15 = .ok (.if_icmp .eq 5, 3) := by decide +kernel
theorem d12_8_18 : decode prog_12_method_8_code 18 = .ok (.iconst 0, 1) := by decide +kernel
theorem d12_8_19 : decode prog_12_method_8_code 19 = .ok (.ireturn, 1) := by decide +kernel
theorem d12_8_20 : decode prog_12_method_8_code 20 = .ok (.iconst 0, 1) := by decide +kernel
theorem d12_8_21 : decode prog_12_method_8_code 21 = .ok (.istore_n 2, 1) := by decide +kernel
theorem d12_8_22 : decode prog_12_method_8_code 22 = .ok (.iload_n 2, 1) := by decide +kernel
theorem d12_8_23 : decode prog_12_method_8_code 23 = .ok (.aload_n 0, 1) := by decide +kernel
theorem d12_8_24 : decode prog_12_method_8_code 24 = .ok (.getfield 13, 3) := by decide +kernel
theorem d12_8_27 : decode prog_12_method_8_code 27 = .ok (.iload_n 1, 1) := by decide +kernel
theorem d12_8_28 : decode prog_12_method_8_code 28 = .ok (.iaload, 1) := by decide +kernel
theorem d12_8_29 : decode prog_12_method_8_code 29 = .ok (.if_icmp .ge 29, 3) := by decide +kernel
theorem d12_8_32 : decode prog_12_method_8_code 32 = .ok (.aload_n 0, 1) := by decide +kernel
theorem d12_8_33 : decode prog_12_method_8_code 33 = .ok (.iload_n 1, 1) := by decide +kernel
theorem d12_8_34 : decode prog_12_method_8_code 34 = .ok (.iload_n 2, 1) := by decide +kernel
theorem d12_8_35 : decode prog_12_method_8_code 35 = .ok (.invokevirtual 36, 3) := by decide +kernel
theorem d12_8_38 : decode prog_12_method_8_code 38 = .ok (.aload_n 0, 1) := by decide +kernel
theorem d12_8_39 : decode prog_12_method_8_code 39 = .ok (.aload_n 0, 1) := by decide +kernel
theorem d12_8_40 : decode prog_12_method_8_code 40 = .ok (.getfield 18, 3) := by decide +kernel
theorem d12_8_43 : decode prog_12_method_8_code 43 = .ok (.iload_n 2, 1) := by decide +kernel
theorem d12_8_44 : decode prog_12_method_8_code 44 = .ok (.invokevirtual 36, 3) := by decide +kernel
theorem d12_8_47 : decode prog_12_method_8_code 47 = .ok (.if_icmp .eq 5, 3) := by decide +kernel
theorem d12_8_50 : decode prog_12_method_8_code 50 = .ok (.iconst 0, 1) := by decide +kernel
theorem d12_8_51 : decode prog_12_method_8_code 51 = .ok (.ireturn, 1) := by decide +kernel
theorem d12_8_52 : decode prog_12_method_8_code 52 = .ok (.iinc 2 1, 3) := by decide +kernel
theorem d12_8_55 : decode prog_12_method_8_code 55 = .ok (.goto (-33), 3) := by decide +kernel
theorem d12_8_58 : decode prog_12_method_8_code 58 = .ok (.iconst 1, 1) := by decide +kernel
theorem d12_8_59 : decode prog_12_method_8_code 59 = .ok (.ireturn, 1) := by decide +kernel
theorem d12_7_0 : decode prog_12_method_7_code 0 = .ok (.iconst 0, 1) := by decide +kernel
theorem d12_7_1 : decode prog_12_method_7_code 1 = .ok (.istore_n 1, 1) := by decide +kernel
theorem d12_7_2 : decode prog_12_method_7_code 2 = .ok (.iload_n 1, 1) := by decide +kernel
theorem d12_7_3 : decode prog_12_method_7_code 3 = .ok (.aload_n 0, 1) := by decide +kernel
theorem d12_7_4 : decode prog_12_method_7_code 4 = .ok (.getfield 18, 3) := by decide +kernel
theorem d12_7_7 : decode prog_12_method_7_code 7 = .ok (.if_icmp .ge 19, 3) := by decide +kernel
theorem d12_7_10 : decode prog_12_method_7_code 10 = .ok (.aload_n 0, 1) := by decide +kernel
theorem d12_7_11 : decode prog_12_method_7_code 11 = .ok (.iload_n 1, 1) := by decide +kernel
theorem d12_7_12 : decode prog_12_method_7_code 12 = .ok (.invokevirtual 32, 3) := by decide +kernel
theorem d12_7_15 : decode prog_12_method_7_code 15 = .ok (.ifCond .eq 5, 3) := by decide +kernel
theorem d12_7_18 : decode prog_12_method_7_code 18 = .ok (.iconst 1, 1) := by decide +kernel
theorem d12_7_19 : decode prog_12_method_7_code 19 = .ok (.ireturn, 1) := by decide +kernel
theorem d12_7_20 : decode prog_12_method_7_code 20 = .ok (.iinc 1 1, 3) := by decide +kernel
theorem d12_7_23 : decode prog_12_method_7_code 23 = .ok (.goto (-21), 3) := by decide +kernel
theorem d12_7_26 : decode prog_12_method_7_code 26 = .ok (.aload_n 0, 1) := by decide +kernel
theorem d12_7_27 : decode prog_12_method_7_code 27 = .ok (.getfield 18, 3) := by decide +kernel
theorem d12_7_30 : decode prog_12_method_7_code 30 = .ok (.iconst 4, 1) := by decide +kernel
theorem d12_7_31 : decode prog_12_method_7_code 31 = .ok (.if_icmp .lt 5, 3) := by decide +kernel
theorem d12_7_34 : decode prog_12_method_7_code 34 = .ok (.iconst 0, 1) := by decide +kernel
theorem d12_7_35 : decode prog_12_method_7_code 35 = .ok (.ireturn, 1) := by decide +kernel
theorem d12_7_36 : decode prog_12_method_7_code 36 = .ok (.aload_n 0, 1) := by decide +kernel
theorem d12_7_37 : decode prog_12_method_7_code 37 = .ok (.dup, 1) := by decide +kernel
theorem d12_7_38 : decode prog_12_method_7_code 38 = .ok (.getfield 18, 3) := by decide +kernel
theorem d12_7_41 : decode prog_12_method_7_code 41 = .ok (.iconst 1, 1) := by decide +kernel
theorem d12_7_42 : decode prog_12_method_7_code 42 = .ok (.iadd, 1) := by decide +kernel
theorem d12_7_43 : decode prog_12_method_7_code 43 = .ok (.putfield 18, 3) := by decide +kernel
theorem d12_7_46 : decode prog_12_method_7_code 46 = .ok (.iconst 1, 1) := by decide +kernel
theorem d12_7_47 : decode prog_12_method_7_code 47 = .ok (.ireturn, 1) := by decide +kernel
theorem d12_5_0 : decode prog_12_method_5_code 0 = .ok (.aload_n 0, 1) := by decide +kernel
theorem d12_5_1 : decode prog_12_method_5_code 1 = .ok (.getfield 9, 3) := by decide +kernel
theorem d12_5_4 : decode prog_12_method_5_code 4 = .ok (.aload_n 0, 1) := by decide +kernel
theorem d12_5_5 : decode prog_12_method_5_code 5 = .ok (.getfield 18, 3) := by decide +kernel
theorem d12_5_8 : decode prog_12_method_5_code 8 = .ok (.bipush 12, 2) := by decide +kernel
theorem d12_5_10 : decode prog_12_method_5_code 10 = .ok (.imul, 1) := by decide +kernel
theorem d12_5_11 : decode prog_12_method_5_code 11 = .ok (.iload_n 1, 1) := by decide +kernel
theorem d12_5_12 : decode prog_12_method_5_code 12 = .ok (.castore, 1) := by decide +kernel
theorem d12_5_13 : decode prog_12_method_5_code 13 = .ok (.aload_n 0, 1) := by decide +kernel
theorem d12_5_14 : decode prog_12_method_5_code 14 = .ok (.getfield 13, 3) := by decide +kernel
theorem d12_5_17 : decode prog_12_method_5_code 17 = .ok (.aload_n 0, 1) := by decide +kernel
theorem d12_5_18 : decode prog_12_method_5_code 18 = .ok (.getfield 18, 3) := by decide +kernel
theorem d12_5_21 : decode prog_12_method_5_code 21 = .ok (.iconst 1, 1) := by decide +kernel
theorem d12_5_22 : decode prog_12_method_5_code 22 = .ok (.iastore, 1) := by decide +kernel
theorem d12_5_23 : decode prog_12_method_5_code 23 = .ok (.aload_n 0, 1) := by decide +kernel
theorem d12_5_24 : decode prog_12_method_5_code 24 = .ok (.invokevirtual 22, 3) := by decide +kernel
theorem d12_5_27 : decode prog_12_method_5_code 27 = .ok (.ireturn, 1) := by decide +kernel
theorem d12_6_0 : decode prog_12_method_6_code 0 = .ok (.iconst 0, 1) := by decide +kernel
theorem d12_6_1 : decode prog_12_method_6_code 1 = .ok (.istore_n 3, 1) := by decide +kernel
theorem d12_6_2 : decode prog_12_method_6_code 2 = .ok (.iload_n 3, 1) := by decide +kernel
theorem d12_6_3 : decode prog_12_method_6_code 3 = .ok (.aload_n 1, 1) := by decide +kernel
theorem d12_6_4 : decode prog_12_method_6_code 4 = .ok (.getfield 18, 3) := by decide +kernel
theorem d12_6_7 : decode prog_12_method_6_code 7 = .ok (.if_icmp .ge 148, 3) := by decide +kernel
theorem d12_6_10 : decode prog_12_method_6_code 10 = .ok (.iconst 0, 1) := by decide +kernel
theorem d12_6_11 : decode prog_12_method_6_code 11 = .ok (.istore 4, 2) := by decide +kernel
theorem d12_6_13 : decode prog_12_method_6_code 13 = .ok (.iload 4, 2) := by decide +kernel
theorem d12_6_15 : decode prog_12_method_6_code 15 = .ok (.aload_n 2, 1) := by decide +kernel
theorem d12_6_16 : decode prog_12_method_6_code 16 = .ok (.getfield 18, 3) := by decide +kernel
theorem d12_6_19 : decode prog_12_method_6_code 19 = .ok (.if_icmp .ge 130, 3) := by decide +kernel
theorem d12_6_22 : decode prog_12_method_6_code 22 = .ok (.aload_n 1, 1) := by decide +kernel
theorem d12_6_23 : decode prog_12_method_6_code 23 = .ok (.getfield 13, 3) := by decide +kernel
theorem d12_6_26 : decode prog_12_method_6_code 26 = .ok (.iload_n 3, 1) := by decide +kernel
theorem d12_6_27 : decode prog_12_method_6_code 27 = .ok (.iaload, 1) := by decide +kernel
theorem d12_6_28 : decode prog_12_method_6_code 28 = .ok (.aload_n 2, 1) := by decide +kernel
theorem d12_6_29 : decode prog_12_method_6_code 29 = .ok (.getfield 13, 3) := by decide +kernel
theorem d12_6_32 : decode prog_12_method_6_code 32 = .ok (.iload 4, 2) := by decide +kernel
theorem d12_6_34 : decode prog_12_method_6_code 34 = .ok (.iaload, 1) := by decide +kernel
theorem d12_6_35 : decode prog_12_method_6_code 35 = .ok (.iadd, 1) := by decide +kernel
theorem d12_6_36 : decode prog_12_method_6_code 36 = .ok (.bipush 12, 2) := by decide +kernel
theorem d12_6_38 : decode prog_12_method_6_code 38 = .ok (.if_icmp .le 5, 3) := by decide +kernel
theorem d12_6_41 : decode prog_12_method_6_code 41 = .ok (.iconst 0, 1) := by decide +kernel
theorem d12_6_42 : decode prog_12_method_6_code 42 = .ok (.ireturn, 1) := by decide +kernel
theorem d12_6_43 : decode prog_12_method_6_code 43 = .ok (.aload_n 0, 1) := by decide +kernel
theorem d12_6_44 : decode prog_12_method_6_code 44 = .ok (.getfield 18, 3) := by decide +kernel
theorem d12_6_47 : decode prog_12_method_6_code 47 = .ok (.bipush 12, 2) := by decide +kernel
theorem d12_6_49 : decode prog_12_method_6_code 49 = .ok (.imul, 1) := by decide +kernel
theorem d12_6_50 : decode prog_12_method_6_code 50 = .ok (.istore 5, 2) := by decide +kernel
theorem d12_6_52 : decode prog_12_method_6_code 52 = .ok (.iload 5, 2) := by decide +kernel
theorem d12_6_54 : decode prog_12_method_6_code 54 = .ok (.aload_n 1, 1) := by decide +kernel
theorem d12_6_55 : decode prog_12_method_6_code 55 = .ok (.getfield 13, 3) := by decide +kernel
theorem d12_6_58 : decode prog_12_method_6_code 58 = .ok (.iload_n 3, 1) := by decide +kernel
theorem d12_6_59 : decode prog_12_method_6_code 59 = .ok (.iaload, 1) := by decide +kernel
theorem d12_6_60 : decode prog_12_method_6_code 60 = .ok (.iadd, 1) := by decide +kernel
theorem d12_6_61 : decode prog_12_method_6_code 61 = .ok (.istore 6, 2) := by decide +kernel
theorem d12_6_63 : decode prog_12_method_6_code 63 = .ok (.aload_n 1, 1) := by decide +kernel
theorem d12_6_64 : decode prog_12_method_6_code 64 = .ok (.getfield 9, 3) := by decide +kernel
theorem d12_6_67 : decode prog_12_method_6_code 67 = .ok (.iload_n 3, 1) := by decide +kernel
theorem d12_6_68 : decode prog_12_method_6_code 68 = .ok (.bipush 12, 2) := by decide +kernel
theorem d12_6_70 : decode prog_12_method_6_code 70 = .ok (.imul, 1) := by decide +kernel
theorem d12_6_71 : decode prog_12_method_6_code 71 = .ok (.aload_n 0, 1) := by decide +kernel
theorem d12_6_72 : decode prog_12_method_6_code 72 = .ok (.getfield 9, 3) := by decide +kernel
theorem d12_6_75 : decode prog_12_method_6_code 75 = .ok (.iload 5, 2) := by decide +kernel
theorem d12_6_77 : decode prog_12_method_6_code 77 = .ok (.aload_n 1, 1) := by decide +kernel
theorem d12_6_78 : decode prog_12_method_6_code 78 = .ok (.getfield 13, 3) := by decide +kernel
theorem d12_6_81 : decode prog_12_method_6_code 81 = .ok (.iload_n 3, 1) := by decide +kernel
theorem d12_6_82 : decode prog_12_method_6_code 82 = .ok (.iaload, 1) := by decide +kernel
theorem d12_6_83 : decode prog_12_method_6_code 83 = .ok (.invokestatic 26, 3) := by decide +kernel
theorem d12_6_86 : decode prog_12_method_6_code 86 = .ok (.aload_n 2, 1) := by decide +kernel
theorem d12_6_87 : decode prog_12_method_6_code 87 = .ok (.getfield 9, 3) := by decide +kernel
theorem d12_6_90 : decode prog_12_method_6_code 90 = .ok (.iload 4, 2) := by decide +kernel
theorem d12_6_92 : decode prog_12_method_6_code 92 = .ok (.bipush 12, 2) := by decide +kernel
theorem d12_6_94 : decode prog_12_method_6_code 94 = .ok (.imul, 1) := by decide +kernel
theorem d12_6_95 : decode prog_12_method_6_code 95 = .ok (.aload_n 0, 1) := by decide +kernel
theorem d12_6_96 : decode prog_12_method_6_code 96 = .ok (.getfield 9, 3) := by decide +kernel
theorem d12_6_99 : decode prog_12_method_6_code 99 = .ok (.iload 6, 2) := by decide +kernel
theorem d12_6_101 : decode prog_12_method_6_code 101 = .ok (.aload_n 2, 1) := by decide +kernel
theorem d12_6_102 : decode prog_12_method_6_code 102 = .ok (.getfield 13, 3) := by decide +kernel
theorem d12_6_105 : decode prog_12_method_6_code 105 = .ok (.iload 4, 2) := by decide +kernel
theorem d12_6_107 : decode prog_12_method_6_code 107 = .ok (.iaload, 1) := by decide +kernel
theorem d12_6_108 : decode prog_12_method_6_code 108 = .ok (.invokestatic 26, 3) := by decide +kernel
theorem d12_6_111 : decode prog_12_method_6_code 111 = .ok (.aload_n 0, 1) := by decide +kernel
theorem d12_6_112 : decode prog_12_method_6_code 112 = .ok (.getfield 13, 3) := by decide +kernel
theorem d12_6_115 : decode prog_12_method_6_code 115 = .ok (.aload_n 0, 1) := by decide +kernel
theorem d12_6_116 : decode prog_12_method_6_code 116 = .ok (.getfield 18, 3) := by decide +kernel
theorem d12_6_119 : decode prog_12_method_6_code 119 = .ok (.aload_n 1, 1) := by decide +kernel
theorem d12_6_120 : decode prog_12_method_6_code 120 = .ok (.getfield 13, 3) := by decide +kernel
theorem d12_6_123 : decode prog_12_method_6_code 123 = .ok (.iload_n 3, 1) := by decide +kernel
theorem d12_6_124 : decode prog_12_method_6_code 124 = .ok (.iaload, 1) := by decide +kernel
theorem d12_6_125 : decode prog_12_method_6_code 125 = .ok (.aload_n 2, 1) := by decide +kernel
theorem d12_6_126 : decode prog_12_method_6_code 126 = .ok (.getfield 13, 3) := by decide +kernel
theorem d12_6_129 : decode prog_12_method_6_code 129 = .ok (.iload 4, 2) := by decide +kernel
theorem d12_6_131 : decode prog_12_method_6_code 131 = .ok (.iaload, 1) := by decide +kernel
theorem d12_6_132 : decode prog_12_method_6_code 132 = .ok (.iadd, 1) := by decide +kernel
theorem d12_6_133 : decode prog_12_method_6_code 133 = .ok (.iastore, 1) := by decide +kernel
theorem d12_6_134 : decode prog_12_method_6_code 134 = .ok (.aload_n 0, 1) := by decide +kernel
theorem d12_6_135 : decode prog_12_method_6_code 135 = .ok (.invokevirtual 22, 3) := by decide +kernel
theorem d12_6_138 : decode prog_12_method_6_code 138 = .ok (.ifCond .ne 5, 3) := by decide +kernel
theorem d12_6_141 : decode prog_12_method_6_code 141 = .ok (.iconst 0, 1) := by decide +kernel
theorem d12_6_142 : decode prog_12_method_6_code 142 = .ok (.ireturn, 1) := by decide +kernel
theorem d12_6_143 : decode prog_12_method_6_code 143 = .ok (.iinc 4 1, 3) := by decide +kernel
theorem d12_6_146 : decode prog_12_method_6_code 146 = .ok (.goto (-133), 3) := by decide +kernel
theorem d12_6_149 : decode prog_12_method_6_code 149 = .ok (.iinc 3 1, 3) := by decide +kernel
theorem d12_6_152 : decode prog_12_method_6_code 152 = .ok (.goto (-150), 3) := by decide +kernel
theorem d12_6_155 : decode prog_12_method_6_code 155 = .ok (.iconst 1, 1) := by decide +kernel
theorem d12_6_156 : decode prog_12_method_6_code 156 = .ok (.ireturn, 1) := by decide +kernel
