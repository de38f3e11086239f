theorem d8_18_0 : decode prog_8_method_18_code 0 = .ok (.iconst 0, 1) := by decide +kernel
theorem d8_18_1 : decode prog_8_method_18_code 1 = .ok (.istore_n 2, 1) := by decide +kernel
theorem d8_18_2 : decode prog_8_method_18_code 2 = .ok (.iload_n 2, 1) := by decide +kernel
theorem d8_18_3 : decode prog_8_method_18_code 3 = .ok (.aload_n 1, 1) := by decide +kernel
theorem d8_18_4 : decode prog_8_method_18_code 4 = .ok (.invokevirtual 156, 3) := by decide +kernel
theorem d8_18_7 : decode prog_8_method_18_code 7 = .ok (.if_icmp .ge 29, 3) := by decide +kernel
theorem d8_18_10 : decode prog_8_method_18_code 10 = .ok (.aload_n 0, 1) := by decide +kernel
theorem d8_18_11 : decode prog_8_method_18_code 11 = .ok (.aload_n 0, 1) := by decide +kernel
theorem d8_18_12 : decode prog_8_method_18_code 12 = .ok (.getfield 30, 3) := by decide +kernel
theorem d8_18_15 : decode prog_8_method_18_code 15 = .ok (.iload_n 2, 1) := by decide +kernel
theorem d8_18_16 : decode prog_8_method_18_code 16 = .ok (.iadd, 1) := by decide +kernel
theorem d8_18_17 : decode prog_8_method_18_code 17 = .ok (.invokevirtual 123, 3) := by decide +kernel
theorem d8_18_20 : decode prog_8_method_18_code 20 = .ok (.aload_n 1, 1) := by decide +kernel
theorem d8_18_21 : decode prog_8_method_18_code 21 = .ok (.iload_n 2, 1) := by decide +kernel
theorem d8_18_22 : decode prog_8_method_18_code 22 = .ok (.invokevirtual 159, 3) := by decide +kernel
theorem d8_18_25 : decode prog_8_method_18_code 25 = .ok (.if_icmp .eq 5, 3) := by decide +kernel
theorem d8_18_28 : decode prog_8_method_18_code 28 = .ok (.iconst 0, 1) := by decide +kernel
theorem d8_18_29 : decode prog_8_method_18_code 29 = .ok (.ireturn, 1) := by decide +kernel
theorem d8_18_30 : decode prog_8_method_18_code 30 = .ok (.iinc 2 1, 3) := by decide +kernel
theorem d8_18_33 : decode prog_8_method_18_code 33 = .ok (.goto (-31), 3) := by decide +kernel
theorem d8_18_36 : decode prog_8_method_18_code 36 = .ok (.iconst 1, 1) := by decide +kernel
theorem d8_18_37 : decode prog_8_method_18_code 37 = .ok (.ireturn, 1) := by decide +kernel
theorem d8_17_0 : decode prog_8_method_17_code 0 = .ok (.aload_n 0, 1) := by decide +kernel
theorem d8_17_1 : decode prog_8_method_17_code 1 = .ok (.ldc 144, 2) := by decide +kernel
theorem d8_17_3 : decode prog_8_method_17_code 3 = .ok (.invokevirtual 146, 3) := by decide +kernel
theorem d8_17_6 : decode prog_8_method_17_code 6 = .ok (.istore_n 2, 1) := by decide +kernel
theorem d8_17_7 : decode prog_8_method_17_code 7 = .ok (.iload_n 2, 1) := by decide +kernel
theorem d8_17_8 : decode prog_8_method_17_code 8 = .ok (.ifCond .ne 12, 3) := by decide +kernel
theorem d8_17_11 : decode prog_8_method_17_code 11 = .ok (.aload_n 0, 1) := by decide +kernel
theorem d8_17_12 : decode prog_8_method_17_code 12 = .ok (.ldc 150, 2) := by decide +kernel
theorem d8_17_14 : decode prog_8_method_17_code 14 = .ok (.invokevirtual 146, 3) := by decide +kernel
theorem d8_17_17 : decode prog_8_method_17_code 17 = .ok (.ifCond .eq 7, 3) := by decide +kernel
theorem d8_17_20 : decode prog_8_method_17_code 20 = .ok (.iconst 1, 1) := by decide +kernel
theorem d8_17_21 : decode prog_8_method_17_code 21 = .ok (.goto 4, 3) := by decide +kernel
theorem d8_17_24 : decode prog_8_method_17_code 24 = .ok (.iconst 0, 1) := by decide +kernel
theorem d8_17_25 : decode prog_8_method_17_code 25 = .ok (.istore_n 3, 1) := by decide +kernel
theorem d8_17_26 : decode prog_8_method_17_code 26 = .ok (.iload_n 2, 1) := by decide +kernel
theorem d8_17_27 : decode prog_8_method_17_code 27 = .ok (.ifCond .ne 12, 3) := by decide +kernel
theorem d8_17_30 : decode prog_8_method_17_code 30 = .ok (.aload_n 0, 1) := by decide +kernel
theorem d8_17_31 : decode prog_8_method_17_code 31 = .ok (.ldc 152, 2) := by decide +kernel
theorem d8_17_33 : decode prog_8_method_17_code 33 = .ok (.invokevirtual 146, 3) := by decide +kernel
theorem d8_17_36 : decode prog_8_method_17_code 36 = .ok (.ifCond .eq 7, 3) := by decide +kernel
theorem d8_17_39 : decode prog_8_method_17_code 39 = .ok (.iconst 1, 1) := by decide +kernel
theorem d8_17_40 : decode prog_8_method_17_code 40 = .ok (.goto 4, 3) := by decide +kernel
theorem d8_17_43 : decode prog_8_method_17_code 43 = .ok (.iconst 0, 1) := by decide +kernel
theorem d8_17_44 : decode prog_8_method_17_code 44 = .ok (.istore 4, 2) := by decide +kernel
theorem d8_17_46 : decode prog_8_method_17_code 46 = .ok (.aload_n 0, 1) := by decide +kernel
theorem d8_17_47 : decode prog_8_method_17_code 47 = .ok (.ldc 154, 2) := by decide +kernel
theorem d8_17_49 : decode prog_8_method_17_code 49 = .ok (.invokevirtual 146, 3) := by decide +kernel
theorem d8_17_52 : decode prog_8_method_17_code 52 = .ok (.istore 5, 2) := by decide +kernel
theorem d8_17_54 : decode prog_8_method_17_code 54 = .ok (.iload_n 3, 1) := by decide +kernel
theorem d8_17_55 : decode prog_8_method_17_code 55 = .ok (.ifCond .eq 11, 3) := by decide +kernel
theorem d8_17_58 : decode prog_8_method_17_code 58 = .ok (.aload_n 1, 1) := by decide +kernel
theorem d8_17_59 : decode prog_8_method_17_code 59 = .ok (.bipush 97, 2) := by decide +kernel
theorem d8_17_61 : decode prog_8_method_17_code 61 = .ok (.bipush 122, 2) := by decide +kernel
theorem d8_17_63 : decode prog_8_method_17_code 63 = .ok (.invokevirtual 101, 3) := by decide +kernel
theorem d8_17_66 : decode prog_8_method_17_code 66 = .ok (.iload 4, 2) := by decide +kernel
theorem d8_17_68 : decode prog_8_method_17_code 68 = .ok (.ifCond .eq 11, 3) := by decide +kernel
theorem d8_17_71 : decode prog_8_method_17_code 71 = .ok (.aload_n 1, 1) := by decide +kernel
theorem d8_17_72 : decode prog_8_method_17_code 72 = .ok (.bipush 65, 2) := by decide +kernel
theorem d8_17_74 : decode prog_8_method_17_code 74 = .ok (.bipush 90, 2) := by decide +kernel
theorem d8_17_76 : decode prog_8_method_17_code 76 = .ok (.invokevirtual 101, 3) := by decide +kernel
theorem d8_17_79 : decode prog_8_method_17_code 79 = .ok (.iload 5, 2) := by decide +kernel
theorem d8_17_81 : decode prog_8_method_17_code 81 = .ok (.ifCond .eq 11, 3) := by decide +kernel
theorem d8_17_84 : decode prog_8_method_17_code 84 = .ok (.aload_n 1, 1) := by decide +kernel
theorem d8_17_85 : decode prog_8_method_17_code 85 = .ok (.bipush 48, 2) := by decide +kernel
theorem d8_17_87 : decode prog_8_method_17_code 87 = .ok (.bipush 57, 2) := by decide +kernel
theorem d8_17_89 : decode prog_8_method_17_code 89 = .ok (.invokevirtual 101, 3) := by decide +kernel
theorem d8_17_92 : decode prog_8_method_17_code 92 = .ok (.iload_n 3, 1) := by decide +kernel
theorem d8_17_93 : decode prog_8_method_17_code 93 = .ok (.ifCond .ne 13, 3) := by decide +kernel
theorem d8_17_96 : decode prog_8_method_17_code 96 = .ok (.iload 4, 2) := by decide +kernel
theorem d8_17_98 : decode prog_8_method_17_code 98 = .ok (.ifCond .ne 8, 3) := by decide +kernel
theorem d8_17_101 : decode prog_8_method_17_code 101 = .ok (.iload 5, 2) := by decide +kernel
theorem d8_17_103 : decode prog_8_method_17_code 103 = .ok (.ifCond .eq 17, 3) := by decide +kernel
theorem d8_17_106 : decode prog_8_method_17_code 106 = .ok (.aload_n 0, 1) := by decide +kernel
theorem d8_17_107 : decode prog_8_method_17_code 107 = .ok (.dup, 1) := by decide +kernel
theorem d8_17_108 : decode prog_8_method_17_code 108 = .ok (.getfield 30, 3) := by decide +kernel
theorem d8_17_111 : decode prog_8_method_17_code 111 = .ok (.bipush 9, 2) := by decide +kernel
theorem d8_17_113 : decode prog_8_method_17_code 113 = .ok (.iadd, 1) := by decide +kernel
theorem d8_17_114 : decode prog_8_method_17_code 114 = .ok (.putfield 30, 3) := by decide +kernel
theorem d8_17_117 : decode prog_8_method_17_code 117 = .ok (.goto 8, 3) := by decide +kernel
theorem d8_17_120 : decode prog_8_method_17_code 120 = .ok (.aload_n 0, 1) := by decide +kernel
theorem d8_17_121 : decode prog_8_method_17_code 121 = .ok (.iconst 5, 1) := by decide +kernel
theorem d8_17_122 : decode prog_8_method_17_code 122 = .ok (.putfield 33, 3) := by decide +kernel
theorem d8_17_125 : decode prog_8_method_17_code 125 = .ok (.return_, 1) := by decide +kernel
theorem d8_16_0 : decode prog_8_method_16_code 0 = .ok (.aload_n 0, 1) := by decide +kernel
theorem d8_16_1 : decode prog_8_method_16_code 1 = .ok (.aload_n 0, 1) := by decide +kernel
theorem d8_16_2 : decode prog_8_method_16_code 2 = .ok (.getfield 30, 3) := by decide +kernel
theorem d8_16_5 : decode prog_8_method_16_code 5 = .ok (.invokevirtual 123, 3) := by decide +kernel
theorem d8_16_8 : decode prog_8_method_16_code 8 = .ok (.istore_n 2, 1) := by decide +kernel
theorem d8_16_9 : decode prog_8_method_16_code 9 = .ok (.aload_n 0, 1) := by decide +kernel
theorem d8_16_10 : decode prog_8_method_16_code 10 = .ok (.aload_n 0, 1) := by decide +kernel
theorem d8_16_11 : decode prog_8_method_16_code 11 = .ok (.getfield 30, 3) := by decide +kernel
theorem d8_16_14 : decode prog_8_method_16_code 14 = .ok (.iconst 1, 1) := by decide +kernel
theorem d8_16_15 : decode prog_8_method_16_code 15 = .ok (.iadd, 1) := by decide +kernel
theorem d8_16_16 : decode prog_8_method_16_code 16 = .ok (.invokevirtual 123, 3) := by decide +kernel
theorem d8_16_19 : decode prog_8_method_16_code 19 = .ok (.istore_n 3, 1) := by decide +kernel
theorem d8_16_20 : decode prog_8_method_16_code 20 = .ok (.aload_n 0, 1) := by decide +kernel
theorem d8_16_21 : decode prog_8_method_16_code 21 = .ok (.aload_n 0, 1) := by decide +kernel
theorem d8_16_22 : decode prog_8_method_16_code 22 = .ok (.getfield 30, 3) := by decide +kernel
theorem d8_16_25 : decode prog_8_method_16_code 25 = .ok (.iconst 2, 1) := by decide +kernel
theorem d8_16_26 : decode prog_8_method_16_code 26 = .ok (.iadd, 1) := by decide +kernel
theorem d8_16_27 : decode prog_8_method_16_code 27 = .ok (.invokevirtual 123, 3) := by decide +kernel
theorem d8_16_30 : decode prog_8_method_16_code 30 = .ok (.istore 4, 2) := by decide +kernel
theorem d8_16_32 : decode prog_8_method_16_code 32 = .ok (.iload_n 2, 1) := by decide +kernel
theorem d8_16_33 : decode prog_8_method_16_code 33 = .ok (.bipush 91, 2) := by decide +kernel
theorem d8_16_35 : decode prog_8_method_16_code 35 = .ok (.if_icmp .ne 17, 3) := by decide +kernel
theorem d8_16_38 : decode prog_8_method_16_code 38 = .ok (.iload_n 3, 1) := by decide +kernel
theorem d8_16_39 : decode prog_8_method_16_code 39 = .ok (.bipush 58, 2) := by decide +kernel
theorem d8_16_41 : decode prog_8_method_16_code 41 = .ok (.if_icmp .ne 11, 3) := by decide +kernel
theorem d8_16_44 : decode prog_8_method_16_code 44 = .ok (.aload_n 0, 1) := by decide +kernel
theorem d8_16_45 : decode prog_8_method_16_code 45 = .ok (.aload_n 1, 1) := by decide +kernel
theorem d8_16_46 : decode prog_8_method_16_code 46 = .ok (.invokevirtual 141, 3) := by decide +kernel
theorem d8_16_49 : decode prog_8_method_16_code 49 = .ok (.goto 98, 3) := by decide +kernel
theorem d8_16_52 : decode prog_8_method_16_code 52 = .ok (.iload_n 2, 1) := by decide +kernel
theorem d8_16_53 : decode prog_8_method_16_code 53 = .ok (.bipush 91, 2) := by decide +kernel
theorem d8_16_55 : decode prog_8_method_16_code 55 = .ok (.if_icmp .ne 24, 3) := by decide +kernel
theorem d8_16_58 : decode prog_8_method_16_code 58 = .ok (.iload_n 3, 1) := by decide +kernel
theorem d8_16_59 : decode prog_8_method_16_code 59 = .ok (.bipush 46, 2) := by decide +kernel
theorem d8_16_61 : decode prog_8_method_16_code 61 = .ok (.if_icmp .eq 9, 3) := by decide +kernel
theorem d8_16_64 : decode prog_8_method_16_code 64 = .ok (.iload_n 3, 1) := by decide +kernel
theorem d8_16_65 : decode prog_8_method_16_code 65 = .ok (.bipush 61, 2) := by decide +kernel
theorem d8_16_67 : decode prog_8_method_16_code 67 = .ok (.if_icmp .ne 12, 3) := by decide +kernel
theorem d8_16_70 : decode prog_8_method_16_code 70 = .ok (.aload_n 0, 1) := by decide +kernel
theorem d8_16_71 : decode prog_8_method_16_code 71 = .ok (.bipush 6, 2) := by decide +kernel
theorem d8_16_73 : decode prog_8_method_16_code 73 = .ok (.putfield 33, 3) := by decide +kernel
theorem d8_16_76 : decode prog_8_method_16_code 76 = .ok (.goto 71, 3) := by decide +kernel
theorem d8_16_79 : decode prog_8_method_16_code 79 = .ok (.iload_n 3, 1) := by decide +kernel
theorem d8_16_80 : decode prog_8_method_16_code 80 = .ok (.bipush 45, 2) := by decide +kernel
theorem d8_16_82 : decode prog_8_method_16_code 82 = .ok (.if_icmp .ne 15, 3) := by decide +kernel
theorem d8_16_85 : decode prog_8_method_16_code 85 = .ok (.iload 4, 2) := by decide +kernel
theorem d8_16_87 : decode prog_8_method_16_code 87 = .ok (.bipush 93, 2) := by decide +kernel
theorem d8_16_89 : decode prog_8_method_16_code 89 = .ok (.if_icmp .eq 8, 3) := by decide +kernel
theorem d8_16_92 : decode prog_8_method_16_code 92 = .ok (.iload 4, 2) := by decide +kernel
theorem d8_16_94 : decode prog_8_method_16_code 94 = .ok (.ifCond .ne 22, 3) := by decide +kernel
theorem d8_16_97 : decode prog_8_method_16_code 97 = .ok (.aload_n 1, 1) := by decide +kernel
theorem d8_16_98 : decode prog_8_method_16_code 98 = .ok (.iload_n 2, 1) := by decide +kernel
theorem d8_16_99 : decode prog_8_method_16_code 99 = .ok (.iload_n 2, 1) := by decide +kernel
theorem d8_16_100 : decode prog_8_method_16_code 100 = .ok (.invokevirtual 101, 3) := by decide +kernel
theorem d8_16_103 : decode prog_8_method_16_code 103 = .ok (.aload_n 0, 1) := by decide +kernel
theorem d8_16_104 : decode prog_8_method_16_code 104 = .ok (.dup, 1) := by decide +kernel
theorem d8_16_105 : decode prog_8_method_16_code 105 = .ok (.getfield 30, 3) := by decide +kernel
theorem d8_16_108 : decode prog_8_method_16_code 108 = .ok (.iconst 1, 1) := by decide +kernel
theorem d8_16_109 : decode prog_8_method_16_code 109 = .ok (.iadd, 1) := by decide +kernel
theorem d8_16_110 : decode prog_8_method_16_code 110 = .ok (.putfield 30, 3) := by decide +kernel
theorem d8_16_113 : decode prog_8_method_16_code 113 = .ok (.goto 34, 3) := by decide +kernel
theorem d8_16_116 : decode prog_8_method_16_code 116 = .ok (.iload 4, 2) := by decide +kernel
theorem d8_16_118 : decode prog_8_method_16_code 118 = .ok (.iload_n 2, 1) := by decide +kernel
theorem d8_16_119 : decode prog_8_method_16_code 119 = .ok (.if_icmp .ge 11, 3) := by decide +kernel
theorem d8_16_122 : decode prog_8_method_16_code 122 = .ok (.aload_n 0, 1) := by decide +kernel
theorem d8_16_123 : decode prog_8_method_16_code 123 = .ok (.iconst 5, 1) := by decide +kernel
theorem d8_16_124 : decode prog_8_method_16_code 124 = .ok (.putfield 33, 3) := by decide +kernel
theorem d8_16_127 : decode prog_8_method_16_code 127 = .ok (.goto 20, 3) := by decide +kernel
theorem d8_16_130 : decode prog_8_method_16_code 130 = .ok (.aload_n 1, 1) := by decide +kernel
theorem d8_16_131 : decode prog_8_method_16_code 131 = .ok (.iload_n 2, 1) := by decide +kernel
theorem d8_16_132 : decode prog_8_method_16_code 132 = .ok (.iload 4, 2) := by decide +kernel
theorem d8_16_134 : decode prog_8_method_16_code 134 = .ok (.invokevirtual 101, 3) := by decide +kernel
theorem d8_16_137 : decode prog_8_method_16_code 137 = .ok (.aload_n 0, 1) := by decide +kernel
theorem d8_16_138 : decode prog_8_method_16_code 138 = .ok (.dup, 1) := by decide +kernel
theorem d8_16_139 : decode prog_8_method_16_code 139 = .ok (.getfield 30, 3) := by decide +kernel
theorem d8_16_142 : decode prog_8_method_16_code 142 = .ok (.iconst 3, 1) := by decide +kernel
theorem d8_16_143 : decode prog_8_method_16_code 143 = .ok (.iadd, 1) := by decide +kernel
theorem d8_16_144 : decode prog_8_method_16_code 144 = .ok (.putfield 30, 3) := by decide +kernel
theorem d8_16_147 : decode prog_8_method_16_code 147 = .ok (.return_, 1) := by decide +kernel
theorem d8_15_0 : decode prog_8_method_15_code 0 = .ok (.new 98, 3) := by decide +kernel
theorem d8_15_3 : decode prog_8_method_15_code 3 = .ok (.dup, 1) := by decide +kernel
theorem d8_15_4 : decode prog_8_method_15_code 4 = .ok (.invokespecial 100, 3) := by decide +kernel
theorem d8_15_7 : decode prog_8_method_15_code 7 = .ok (.astore_n 1, 1) := by decide +kernel
theorem d8_15_8 : decode prog_8_method_15_code 8 = .ok (.aload_n 0, 1) := by decide +kernel
theorem d8_15_9 : decode prog_8_method_15_code 9 = .ok (.aload_n 0, 1) := by decide +kernel
theorem d8_15_10 : decode prog_8_method_15_code 10 = .ok (.getfield 30, 3) := by decide +kernel
theorem d8_15_13 : decode prog_8_method_15_code 13 = .ok (.invokevirtual 123, 3) := by decide +kernel
theorem d8_15_16 : decode prog_8_method_15_code 16 = .ok (.bipush 94, 2) := by decide +kernel
theorem d8_15_18 : decode prog_8_method_15_code 18 = .ok (.if_icmp .ne 7, 3) := by decide +kernel
theorem d8_15_21 : decode prog_8_method_15_code 21 = .ok (.iconst 1, 1) := by decide +kernel
theorem d8_15_22 : decode prog_8_method_15_code 22 = .ok (.goto 4, 3) := by decide +kernel
theorem d8_15_25 : decode prog_8_method_15_code 25 = .ok (.iconst 0, 1) := by decide +kernel
theorem d8_15_26 : decode prog_8_method_15_code 26 = .ok (.istore_n 2, 1) := by decide +kernel
theorem d8_15_27 : decode prog_8_method_15_code 27 = .ok (.iload_n 2, 1) := by decide +kernel
theorem d8_15_28 : decode prog_8_method_15_code 28 = .ok (.ifCond .eq 13, 3) := by decide +kernel
theorem d8_15_31 : decode prog_8_method_15_code 31 = .ok (.aload_n 0, 1) := by decide +kernel
theorem d8_15_32 : decode prog_8_method_15_code 32 = .ok (.dup, 1) := by decide +kernel
theorem d8_15_33 : decode prog_8_method_15_code 33 = .ok (.getfield 30, 3) := by decide +kernel
theorem d8_15_36 : decode prog_8_method_15_code 36 = .ok (.iconst 1, 1) := by decide +kernel
theorem d8_15_37 : decode prog_8_method_15_code 37 = .ok (.iadd, 1) := by decide +kernel
theorem d8_15_38 : decode prog_8_method_15_code 38 = .ok (.putfield 30, 3) := by decide +kernel
theorem d8_15_41 : decode prog_8_method_15_code 41 = .ok (.iconst 0, 1) := by decide +kernel
theorem d8_15_42 : decode prog_8_method_15_code 42 = .ok (.istore_n 3, 1) := by decide +kernel
theorem d8_15_43 : decode prog_8_method_15_code 43 = .ok (.iload_n 3, 1) := by decide +kernel
theorem d8_15_44 : decode prog_8_method_15_code 44 = .ok (.aload_n 0, 1) := by decide +kernel
theorem d8_15_45 : decode prog_8_method_15_code 45 = .ok (.getfield 26, 3) := by decide +kernel
theorem d8_15_48 : decode prog_8_method_15_code 48 = .ok (.if_icmp .ge 77, 3) := by decide +kernel
theorem d8_15_51 : decode prog_8_method_15_code 51 = .ok (.aload_n 0, 1) := by decide +kernel
theorem d8_15_52 : decode prog_8_method_15_code 52 = .ok (.getfield 30, 3) := by decide +kernel
theorem d8_15_55 : decode prog_8_method_15_code 55 = .ok (.aload_n 0, 1) := by decide +kernel
theorem d8_15_56 : decode prog_8_method_15_code 56 = .ok (.getfield 26, 3) := by decide +kernel
theorem d8_15_59 : decode prog_8_method_15_code 59 = .ok (.if_icmp .ge 66, 3) := by decide +kernel
theorem d8_15_62 : decode prog_8_method_15_code 62 = .ok (.aload_n 0, 1) := by decide +kernel
theorem d8_15_63 : decode prog_8_method_15_code 63 = .ok (.getfield 33, 3) := by decide +kernel
theorem d8_15_66 : decode prog_8_method_15_code 66 = .ok (.ifCond .ne 59, 3) := by decide +kernel
theorem d8_15_69 : decode prog_8_method_15_code 69 = .ok (.iload_n 3, 1) := by decide +kernel
theorem d8_15_70 : decode prog_8_method_15_code 70 = .ok (.ifCond .le 44, 3) := by decide +kernel
theorem d8_15_73 : decode prog_8_method_15_code 73 = .ok (.aload_n 0, 1) := by decide +kernel
theorem d8_15_74 : decode prog_8_method_15_code 74 = .ok (.getfield 22, 3) := by decide +kernel
theorem d8_15_77 : decode prog_8_method_15_code 77 = .ok (.aload_n 0, 1) := by decide +kernel
theorem d8_15_78 : decode prog_8_method_15_code 78 = .ok (.getfield 30, 3) := by decide +kernel
theorem d8_15_81 : decode prog_8_method_15_code 81 = .ok (.caload, 1) := by decide +kernel
theorem d8_15_82 : decode prog_8_method_15_code 82 = .ok (.bipush 93, 2) := by decide +kernel
theorem d8_15_84 : decode prog_8_method_15_code 84 = .ok (.if_icmp .ne 30, 3) := by decide +kernel
theorem d8_15_87 : decode prog_8_method_15_code 87 = .ok (.aload_n 0, 1) := by decide +kernel
theorem d8_15_88 : decode prog_8_method_15_code 88 = .ok (.dup, 1) := by decide +kernel
theorem d8_15_89 : decode prog_8_method_15_code 89 = .ok (.getfield 30, 3) := by decide +kernel
theorem d8_15_92 : decode prog_8_method_15_code 92 = .ok (.iconst 1, 1) := by decide +kernel
theorem d8_15_93 : decode prog_8_method_15_code 93 = .ok (.iadd, 1) := by decide +kernel
theorem d8_15_94 : decode prog_8_method_15_code 94 = .ok (.putfield 30, 3) := by decide +kernel
theorem d8_15_97 : decode prog_8_method_15_code 97 = .ok (.iload_n 2, 1) := by decide +kernel
theorem d8_15_98 : decode prog_8_method_15_code 98 = .ok (.ifCond .eq 7, 3) := by decide +kernel
theorem d8_15_101 : decode prog_8_method_15_code 101 = .ok (.aload_n 1, 1) := by decide +kernel
theorem d8_15_102 : decode prog_8_method_15_code 102 = .ok (.invokevirtual 134, 3) := by decide +kernel
theorem d8_15_105 : decode prog_8_method_15_code 105 = .ok (.aload_n 0, 1) := by decide +kernel
theorem d8_15_106 : decode prog_8_method_15_code 106 = .ok (.invokevirtual 78, 3) := by decide +kernel
theorem d8_15_109 : decode prog_8_method_15_code 109 = .ok (.aload_n 1, 1) := by decide +kernel
theorem d8_15_110 : decode prog_8_method_15_code 110 = .ok (.invokevirtual 87, 3) := by decide +kernel
theorem d8_15_113 : decode prog_8_method_15_code 113 = .ok (.return_, 1) := by decide +kernel
theorem d8_15_114 : decode prog_8_method_15_code 114 = .ok (.aload_n 0, 1) := by decide +kernel
theorem d8_15_115 : decode prog_8_method_15_code 115 = .ok (.aload_n 1, 1) := by decide +kernel
theorem d8_15_116 : decode prog_8_method_15_code 116 = .ok (.invokevirtual 137, 3) := by decide +kernel
theorem d8_15_119 : decode prog_8_method_15_code 119 = .ok (.iinc 3 1, 3) := by decide +kernel
theorem d8_15_122 : decode prog_8_method_15_code 122 = .ok (.goto (-79), 3) := by decide +kernel
theorem d8_15_125 : decode prog_8_method_15_code 125 = .ok (.aload_n 0, 1) := by decide +kernel
theorem d8_15_126 : decode prog_8_method_15_code 126 = .ok (.getfield 33, 3) := by decide +kernel
theorem d8_15_129 : decode prog_8_method_15_code 129 = .ok (.ifCond .ne 8, 3) := by decide +kernel
theorem d8_15_132 : decode prog_8_method_15_code 132 = .ok (.aload_n 0, 1) := by decide +kernel
theorem d8_15_133 : decode prog_8_method_15_code 133 = .ok (.iconst 5, 1) := by decide +kernel
theorem d8_15_134 : decode prog_8_method_15_code 134 = .ok (.putfield 33, 3) := by decide +kernel
theorem d8_15_137 : decode prog_8_method_15_code 137 = .ok (.return_, 1) := by decide +kernel
