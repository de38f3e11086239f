theorem d8_7_0 : decode prog_8_method_7_code 0 = .ok (.new 98, 3) := by decide +kernel
theorem d8_7_3 : decode prog_8_method_7_code 3 = .ok (.dup, 1) := by decide +kernel
theorem d8_7_4 : decode prog_8_method_7_code 4 = .ok (.invokespecial 100, 3) := by decide +kernel
theorem d8_7_7 : decode prog_8_method_7_code 7 = .ok (.astore_n 3, 1) := by decide +kernel
theorem d8_7_8 : decode prog_8_method_7_code 8 = .ok (.aload_n 3, 1) := by decide +kernel
theorem d8_7_9 : decode prog_8_method_7_code 9 = .ok (.iload_n 1, 1) := by decide +kernel
theorem d8_7_10 : decode prog_8_method_7_code 10 = .ok (.iload_n 2, 1) := by decide +kernel
theorem d8_7_11 : decode prog_8_method_7_code 11 = .ok (.invokevirtual 101, 3) := by decide +kernel
theorem d8_7_14 : decode prog_8_method_7_code 14 = .ok (.aload_n 0, 1) := by decide +kernel
theorem d8_7_15 : decode prog_8_method_7_code 15 = .ok (.invokevirtual 78, 3) := by decide +kernel
theorem d8_7_18 : decode prog_8_method_7_code 18 = .ok (.aload_n 3, 1) := by decide +kernel
theorem d8_7_19 : decode prog_8_method_7_code 19 = .ok (.invokevirtual 87, 3) := by decide +kernel
theorem d8_7_22 : decode prog_8_method_7_code 22 = .ok (.return_, 1) := by decide +kernel
theorem d8_14_0 : decode prog_8_method_14_code 0 = .ok (.aload_n 0, 1) := by decide +kernel
theorem d8_14_1 : decode prog_8_method_14_code 1 = .ok (.aload_n 0, 1) := by decide +kernel
theorem d8_14_2 : decode prog_8_method_14_code 2 = .ok (.getfield 30, 3) := by decide +kernel
theorem d8_14_5 : decode prog_8_method_14_code 5 = .ok (.invokevirtual 123, 3) := by decide +kernel
theorem d8_14_8 : decode prog_8_method_14_code 8 = .ok (.istore_n 1, 1) := by decide +kernel
theorem d8_14_9 : decode prog_8_method_14_code 9 = .ok (.ldc 127, 2) := by decide +kernel
theorem d8_14_11 : decode prog_8_method_14_code 11 = .ok (.iload_n 1, 1) := by decide +kernel
theorem d8_14_12 : decode prog_8_method_14_code 12 = .ok (.invokevirtual 129, 3) := by decide +kernel
theorem d8_14_15 : decode prog_8_method_14_code 15 = .ok (.ifCond .ge 12, 3) := by decide +kernel
theorem d8_14_18 : decode prog_8_method_14_code 18 = .ok (.aload_n 0, 1) := by decide +kernel
theorem d8_14_19 : decode prog_8_method_14_code 19 = .ok (.bipush 7, 2) := by decide +kernel
theorem d8_14_21 : decode prog_8_method_14_code 21 = .ok (.putfield 33, 3) := by decide +kernel
theorem d8_14_24 : decode prog_8_method_14_code 24 = .ok (.goto 19, 3) := by decide +kernel
theorem d8_14_27 : decode prog_8_method_14_code 27 = .ok (.aload_n 0, 1) := by decide +kernel
theorem d8_14_28 : decode prog_8_method_14_code 28 = .ok (.iload_n 1, 1) := by decide +kernel
theorem d8_14_29 : decode prog_8_method_14_code 29 = .ok (.iload_n 1, 1) := by decide +kernel
theorem d8_14_30 : decode prog_8_method_14_code 30 = .ok (.invokevirtual 91, 3) := by decide +kernel
theorem d8_14_33 : decode prog_8_method_14_code 33 = .ok (.aload_n 0, 1) := by decide +kernel
theorem d8_14_34 : decode prog_8_method_14_code 34 = .ok (.dup, 1) := by decide +kernel
theorem d8_14_35 : decode prog_8_method_14_code 35 = .ok (.getfield 30, 3) := by decide +kernel
theorem d8_14_38 : decode prog_8_method_14_code 38 = .ok (.iconst 1, 1) := by decide +kernel
theorem d8_14_39 : decode prog_8_method_14_code 39 = .ok (.iadd, 1) := by decide +kernel
theorem d8_14_40 : decode prog_8_method_14_code 40 = .ok (.putfield 30, 3) := by decide +kernel
theorem d8_14_43 : decode prog_8_method_14_code 43 = .ok (.return_, 1) := by decide +kernel
theorem d3_4_0 : decode prog_3_method_4_code 0 = .ok (.aload_n 0, 1) := by decide +kernel
theorem d3_4_1 : decode prog_3_method_4_code 1 = .ok (.getfield 10, 3) := by decide +kernel
theorem d3_4_4 : decode prog_3_method_4_code 4 = .ok (.invokevirtual 23, 3) := by decide +kernel
theorem d3_4_7 : decode prog_3_method_4_code 7 = .ok (.ifCond .ne 29, 3) := by decide +kernel
theorem d3_4_10 : decode prog_3_method_4_code 10 = .ok (.aload_n 0, 1) := by decide +kernel
theorem d3_4_11 : decode prog_3_method_4_code 11 = .ok (.getfield 10, 3) := by decide +kernel
theorem d3_4_14 : decode prog_3_method_4_code 14 = .ok (.aload_n 0, 1) := by decide +kernel
theorem d3_4_15 : decode prog_3_method_4_code 15 = .ok (.getfield 10, 3) := by decide +kernel
theorem d3_4_18 : decode prog_3_method_4_code 18 = .ok (.invokevirtual 31, 3) := by decide +kernel
theorem d3_4_21 : decode prog_3_method_4_code 21 = .ok (.iconst 1, 1) := by decide +kernel
theorem d3_4_22 : decode prog_3_method_4_code 22 = .ok (.isub, 1) := by decide +kernel
theorem d3_4_23 : decode prog_3_method_4_code 23 = .ok (.invokevirtual 35, 3) := by decide +kernel
theorem d3_4_26 : decode prog_3_method_4_code 26 = .ok (.instanceof 39, 3) := by decide +kernel
theorem d3_4_29 : decode prog_3_method_4_code 29 = .ok (.ifCond .ne 7, 3) := by decide +kernel
theorem d3_4_32 : decode prog_3_method_4_code 32 = .ok (.iconst 1, 1) := by decide +kernel
theorem d3_4_33 : decode prog_3_method_4_code 33 = .ok (.goto 4, 3) := by decide +kernel
theorem d3_4_36 : decode prog_3_method_4_code 36 = .ok (.iconst 0, 1) := by decide +kernel
theorem d3_4_37 : decode prog_3_method_4_code 37 = .ok (.ireturn, 1) := by decide +kernel
theorem d8_11_0 : decode prog_8_method_11_code 0 = .ok (.aload_n 0, 1) := by decide +kernel
theorem d8_11_1 : decode prog_8_method_11_code 1 = .ok (.invokevirtual 78, 3) := by decide +kernel
theorem d8_11_4 : decode prog_8_method_11_code 4 = .ok (.invokevirtual 107, 3) := by decide +kernel
theorem d8_11_7 : decode prog_8_method_11_code 7 = .ok (.ifCond .ne 11, 3) := by decide +kernel
theorem d8_11_10 : decode prog_8_method_11_code 10 = .ok (.aload_n 0, 1) := by decide +kernel
theorem d8_11_11 : decode prog_8_method_11_code 11 = .ok (.iconst 3, 1) := by decide +kernel
theorem d8_11_12 : decode prog_8_method_11_code 12 = .ok (.putfield 33, 3) := by decide +kernel
theorem d8_11_15 : decode prog_8_method_11_code 15 = .ok (.goto 61, 3) := by decide +kernel
theorem d8_11_18 : decode prog_8_method_11_code 18 = .ok (.iload_n 1, 1) := by decide +kernel
theorem d8_11_19 : decode prog_8_method_11_code 19 = .ok (.bipush 42, 2) := by decide +kernel
theorem d8_11_21 : decode prog_8_method_11_code 21 = .ok (.if_icmp .ne 15, 3) := by decide +kernel
theorem d8_11_24 : decode prog_8_method_11_code 24 = .ok (.aload_n 0, 1) := by decide +kernel
theorem d8_11_25 : decode prog_8_method_11_code 25 = .ok (.invokevirtual 78, 3) := by decide +kernel
theorem d8_11_28 : decode prog_8_method_11_code 28 = .ok (.iconst 0, 1) := by decide +kernel
theorem d8_11_29 : decode prog_8_method_11_code 29 = .ok (.iconst (-1), 1) := by decide +kernel
theorem d8_11_30 : decode prog_8_method_11_code 30 = .ok (.invokevirtual 112, 3) := by decide +kernel
theorem d8_11_33 : decode prog_8_method_11_code 33 = .ok (.goto 43, 3) := by decide +kernel
theorem d8_11_36 : decode prog_8_method_11_code 36 = .ok (.iload_n 1, 1) := by decide +kernel
theorem d8_11_37 : decode prog_8_method_11_code 37 = .ok (.bipush 43, 2) := by decide +kernel
theorem d8_11_39 : decode prog_8_method_11_code 39 = .ok (.if_icmp .ne 15, 3) := by decide +kernel
theorem d8_11_42 : decode prog_8_method_11_code 42 = .ok (.aload_n 0, 1) := by decide +kernel
theorem d8_11_43 : decode prog_8_method_11_code 43 = .ok (.invokevirtual 78, 3) := by decide +kernel
theorem d8_11_46 : decode prog_8_method_11_code 46 = .ok (.iconst 1, 1) := by decide +kernel
theorem d8_11_47 : decode prog_8_method_11_code 47 = .ok (.iconst (-1), 1) := by decide +kernel
theorem d8_11_48 : decode prog_8_method_11_code 48 = .ok (.invokevirtual 112, 3) := by decide +kernel
theorem d8_11_51 : decode prog_8_method_11_code 51 = .ok (.goto 25, 3) := by decide +kernel
theorem d8_11_54 : decode prog_8_method_11_code 54 = .ok (.iload_n 1, 1) := by decide +kernel
theorem d8_11_55 : decode prog_8_method_11_code 55 = .ok (.bipush 63, 2) := by decide +kernel
theorem d8_11_57 : decode prog_8_method_11_code 57 = .ok (.if_icmp .ne 15, 3) := by decide +kernel
theorem d8_11_60 : decode prog_8_method_11_code 60 = .ok (.aload_n 0, 1) := by decide +kernel
theorem d8_11_61 : decode prog_8_method_11_code 61 = .ok (.invokevirtual 78, 3) := by decide +kernel
theorem d8_11_64 : decode prog_8_method_11_code 64 = .ok (.iconst 0, 1) := by decide +kernel
theorem d8_11_65 : decode prog_8_method_11_code 65 = .ok (.iconst 1, 1) := by decide +kernel
theorem d8_11_66 : decode prog_8_method_11_code 66 = .ok (.invokevirtual 112, 3) := by decide +kernel
theorem d8_11_69 : decode prog_8_method_11_code 69 = .ok (.goto 7, 3) := by decide +kernel
theorem d8_11_72 : decode prog_8_method_11_code 72 = .ok (.aload_n 0, 1) := by decide +kernel
theorem d8_11_73 : decode prog_8_method_11_code 73 = .ok (.invokevirtual 116, 3) := by decide +kernel
theorem d8_11_76 : decode prog_8_method_11_code 76 = .ok (.return_, 1) := by decide +kernel
theorem d8_12_0 : decode prog_8_method_12_code 0 = .ok (.aload_n 0, 1) := by decide +kernel
theorem d8_12_1 : decode prog_8_method_12_code 1 = .ok (.aload_n 0, 1) := by decide +kernel
theorem d8_12_2 : decode prog_8_method_12_code 2 = .ok (.getfield 30, 3) := by decide +kernel
theorem d8_12_5 : decode prog_8_method_12_code 5 = .ok (.invokevirtual 119, 3) := by decide +kernel
theorem d8_12_8 : decode prog_8_method_12_code 8 = .ok (.istore_n 1, 1) := by decide +kernel
theorem d8_12_9 : decode prog_8_method_12_code 9 = .ok (.aload_n 0, 1) := by decide +kernel
theorem d8_12_10 : decode prog_8_method_12_code 10 = .ok (.aload_n 0, 1) := by decide +kernel
theorem d8_12_11 : decode prog_8_method_12_code 11 = .ok (.getfield 30, 3) := by decide +kernel
theorem d8_12_14 : decode prog_8_method_12_code 14 = .ok (.iconst 2, 1) := by decide +kernel
theorem d8_12_15 : decode prog_8_method_12_code 15 = .ok (.iadd, 1) := by decide +kernel
theorem d8_12_16 : decode prog_8_method_12_code 16 = .ok (.invokevirtual 119, 3) := by decide +kernel
theorem d8_12_19 : decode prog_8_method_12_code 19 = .ok (.istore_n 2, 1) := by decide +kernel
theorem d8_12_20 : decode prog_8_method_12_code 20 = .ok (.iload_n 1, 1) := by decide +kernel
theorem d8_12_21 : decode prog_8_method_12_code 21 = .ok (.iconst (-1), 1) := by decide +kernel
theorem d8_12_22 : decode prog_8_method_12_code 22 = .ok (.if_icmp .ne 11, 3) := by decide +kernel
theorem d8_12_25 : decode prog_8_method_12_code 25 = .ok (.aload_n 0, 1) := by decide +kernel
theorem d8_12_26 : decode prog_8_method_12_code 26 = .ok (.iconst 4, 1) := by decide +kernel
theorem d8_12_27 : decode prog_8_method_12_code 27 = .ok (.putfield 33, 3) := by decide +kernel
theorem d8_12_30 : decode prog_8_method_12_code 30 = .ok (.goto 147, 3) := by decide +kernel
theorem d8_12_33 : decode prog_8_method_12_code 33 = .ok (.aload_n 0, 1) := by decide +kernel
theorem d8_12_34 : decode prog_8_method_12_code 34 = .ok (.aload_n 0, 1) := by decide +kernel
theorem d8_12_35 : decode prog_8_method_12_code 35 = .ok (.getfield 30, 3) := by decide +kernel
theorem d8_12_38 : decode prog_8_method_12_code 38 = .ok (.iconst 1, 1) := by decide +kernel
theorem d8_12_39 : decode prog_8_method_12_code 39 = .ok (.iadd, 1) := by decide +kernel
theorem d8_12_40 : decode prog_8_method_12_code 40 = .ok (.invokevirtual 123, 3) := by decide +kernel
theorem d8_12_43 : decode prog_8_method_12_code 43 = .ok (.bipush 125, 2) := by decide +kernel
theorem d8_12_45 : decode prog_8_method_12_code 45 = .ok (.if_icmp .ne 25, 3) := by decide +kernel
theorem d8_12_48 : decode prog_8_method_12_code 48 = .ok (.aload_n 0, 1) := by decide +kernel
theorem d8_12_49 : decode prog_8_method_12_code 49 = .ok (.invokevirtual 78, 3) := by decide +kernel
theorem d8_12_52 : decode prog_8_method_12_code 52 = .ok (.iload_n 1, 1) := by decide +kernel
theorem d8_12_53 : decode prog_8_method_12_code 53 = .ok (.iload_n 1, 1) := by decide +kernel
theorem d8_12_54 : decode prog_8_method_12_code 54 = .ok (.invokevirtual 112, 3) := by decide +kernel
theorem d8_12_57 : decode prog_8_method_12_code 57 = .ok (.aload_n 0, 1) := by decide +kernel
theorem d8_12_58 : decode prog_8_method_12_code 58 = .ok (.dup, 1) := by decide +kernel
theorem d8_12_59 : decode prog_8_method_12_code 59 = .ok (.getfield 30, 3) := by decide +kernel
theorem d8_12_62 : decode prog_8_method_12_code 62 = .ok (.iconst 2, 1) := by decide +kernel
theorem d8_12_63 : decode prog_8_method_12_code 63 = .ok (.iadd, 1) := by decide +kernel
theorem d8_12_64 : decode prog_8_method_12_code 64 = .ok (.putfield 30, 3) := by decide +kernel
theorem d8_12_67 : decode prog_8_method_12_code 67 = .ok (.goto 110, 3) := by decide +kernel
theorem d8_12_70 : decode prog_8_method_12_code 70 = .ok (.aload_n 0, 1) := by decide +kernel
theorem d8_12_71 : decode prog_8_method_12_code 71 = .ok (.aload_n 0, 1) := by decide +kernel
theorem d8_12_72 : decode prog_8_method_12_code 72 = .ok (.getfield 30, 3) := by decide +kernel
theorem d8_12_75 : decode prog_8_method_12_code 75 = .ok (.iconst 1, 1) := by decide +kernel
theorem d8_12_76 : decode prog_8_method_12_code 76 = .ok (.iadd, 1) := by decide +kernel
theorem d8_12_77 : decode prog_8_method_12_code 77 = .ok (.invokevirtual 123, 3) := by decide +kernel
theorem d8_12_80 : decode prog_8_method_12_code 80 = .ok (.bipush 44, 2) := by decide +kernel
theorem d8_12_82 : decode prog_8_method_12_code 82 = .ok (.if_icmp .eq 11, 3) := by decide +kernel
theorem d8_12_85 : decode prog_8_method_12_code 85 = .ok (.aload_n 0, 1) := by decide +kernel
theorem d8_12_86 : decode prog_8_method_12_code 86 = .ok (.iconst 4, 1) := by decide +kernel
theorem d8_12_87 : decode prog_8_method_12_code 87 = .ok (.putfield 33, 3) := by decide +kernel
theorem d8_12_90 : decode prog_8_method_12_code 90 = .ok (.goto 87, 3) := by decide +kernel
theorem d8_12_93 : decode prog_8_method_12_code 93 = .ok (.aload_n 0, 1) := by decide +kernel
theorem d8_12_94 : decode prog_8_method_12_code 94 = .ok (.aload_n 0, 1) := by decide +kernel
theorem d8_12_95 : decode prog_8_method_12_code 95 = .ok (.getfield 30, 3) := by decide +kernel
theorem d8_12_98 : decode prog_8_method_12_code 98 = .ok (.iconst 2, 1) := by decide +kernel
theorem d8_12_99 : decode prog_8_method_12_code 99 = .ok (.iadd, 1) := by decide +kernel
theorem d8_12_100 : decode prog_8_method_12_code 100 = .ok (.invokevirtual 123, 3) := by decide +kernel
theorem d8_12_103 : decode prog_8_method_12_code 103 = .ok (.bipush 125, 2) := by decide +kernel
theorem d8_12_105 : decode prog_8_method_12_code 105 = .ok (.if_icmp .ne 25, 3) := by decide +kernel
theorem d8_12_108 : decode prog_8_method_12_code 108 = .ok (.aload_n 0, 1) := by decide +kernel
theorem d8_12_109 : decode prog_8_method_12_code 109 = .ok (.invokevirtual 78, 3) := by decide +kernel
theorem d8_12_112 : decode prog_8_method_12_code 112 = .ok (.iload_n 1, 1) := by decide +kernel
theorem d8_12_113 : decode prog_8_method_12_code 113 = .ok (.iconst (-1), 1) := by decide +kernel
theorem d8_12_114 : decode prog_8_method_12_code 114 = .ok (.invokevirtual 112, 3) := by decide +kernel
theorem d8_12_117 : decode prog_8_method_12_code 117 = .ok (.aload_n 0, 1) := by decide +kernel
theorem d8_12_118 : decode prog_8_method_12_code 118 = .ok (.dup, 1) := by decide +kernel
theorem d8_12_119 : decode prog_8_method_12_code 119 = .ok (.getfield 30, 3) := by decide +kernel
theorem d8_12_122 : decode prog_8_method_12_code 122 = .ok (.iconst 3, 1) := by decide +kernel
theorem d8_12_123 : decode prog_8_method_12_code 123 = .ok (.iadd, 1) := by decide +kernel
theorem d8_12_124 : decode prog_8_method_12_code 124 = .ok (.putfield 30, 3) := by decide +kernel
theorem d8_12_127 : decode prog_8_method_12_code 127 = .ok (.goto 50, 3) := by decide +kernel
theorem d8_12_130 : decode prog_8_method_12_code 130 = .ok (.iload_n 2, 1) := by decide +kernel
theorem d8_12_131 : decode prog_8_method_12_code 131 = .ok (.iload_n 1, 1) := by decide +kernel
theorem d8_12_132 : decode prog_8_method_12_code 132 = .ok (.if_icmp .lt 40, 3) := by decide +kernel
theorem d8_12_135 : decode prog_8_method_12_code 135 = .ok (.aload_n 0, 1) := by decide +kernel
theorem d8_12_136 : decode prog_8_method_12_code 136 = .ok (.aload_n 0, 1) := by decide +kernel
theorem d8_12_137 : decode prog_8_method_12_code 137 = .ok (.getfield 30, 3) := by decide +kernel
theorem d8_12_140 : decode prog_8_method_12_code 140 = .ok (.iconst 3, 1) := by decide +kernel
theorem d8_12_141 : decode prog_8_method_12_code 141 = .ok (.iadd, 1) := by decide +kernel
theorem d8_12_142 : decode prog_8_method_12_code 142 = .ok (.invokevirtual 123, 3) := by decide +kernel
theorem d8_12_145 : decode prog_8_method_12_code 145 = .ok (.bipush 125, 2) := by decide +kernel
theorem d8_12_147 : decode prog_8_method_12_code 147 = .ok (.if_icmp .ne 25, 3) := by decide +kernel
theorem d8_12_150 : decode prog_8_method_12_code 150 = .ok (.aload_n 0, 1) := by decide +kernel
theorem d8_12_151 : decode prog_8_method_12_code 151 = .ok (.invokevirtual 78, 3) := by decide +kernel
theorem d8_12_154 : decode prog_8_method_12_code 154 = .ok (.iload_n 1, 1) := by decide +kernel
theorem d8_12_155 : decode prog_8_method_12_code 155 = .ok (.iload_n 2, 1) := by decide +kernel
theorem d8_12_156 : decode prog_8_method_12_code 156 = .ok (.invokevirtual 112, 3) := by decide +kernel
theorem d8_12_159 : decode prog_8_method_12_code 159 = .ok (.aload_n 0, 1) := by decide +kernel
theorem d8_12_160 : decode prog_8_method_12_code 160 = .ok (.dup, 1) := by decide +kernel
theorem d8_12_161 : decode prog_8_method_12_code 161 = .ok (.getfield 30, 3) := by decide +kernel
theorem d8_12_164 : decode prog_8_method_12_code 164 = .ok (.iconst 4, 1) := by decide +kernel
theorem d8_12_165 : decode prog_8_method_12_code 165 = .ok (.iadd, 1) := by decide +kernel
theorem d8_12_166 : decode prog_8_method_12_code 166 = .ok (.putfield 30, 3) := by decide +kernel
theorem d8_12_169 : decode prog_8_method_12_code 169 = .ok (.goto 8, 3) := by decide +kernel
theorem d8_12_172 : decode prog_8_method_12_code 172 = .ok (.aload_n 0, 1) := by decide +kernel
theorem d8_12_173 : decode prog_8_method_12_code 173 = .ok (.iconst 4, 1) := by decide +kernel
theorem d8_12_174 : decode prog_8_method_12_code 174 = .ok (.putfield 33, 3) := by decide +kernel
theorem d8_12_177 : decode prog_8_method_12_code 177 = .ok (.return_, 1) := by decide +kernel
