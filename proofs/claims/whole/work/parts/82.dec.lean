theorem d14_19_0 : decode prog_14_method_19_code 0 = .ok (.aload_n 0, 1) := by decide +kernel
theorem d14_19_1 : decode prog_14_method_19_code 1 = .ok (.getfield 133, 3) := by decide +kernel
theorem d14_19_4 : decode prog_14_method_19_code 4 = .ok (.iload_n 1, 1) := by decide +kernel
theorem d14_19_5 : decode prog_14_method_19_code 5 = .ok (.iadd, 1) := by decide +kernel
theorem d14_19_6 : decode prog_14_method_19_code 6 = .ok (.aload_n 0, 1) := by decide +kernel
theorem d14_19_7 : decode prog_14_method_19_code 7 = .ok (.getfield 130, 3) := by decide +kernel
theorem d14_19_10 : decode prog_14_method_19_code 10 = .ok (.if_icmp .ge 17, 3) := by decide +kernel
theorem d14_19_13 : decode prog_14_method_19_code 13 = .ok (.aload_n 0, 1) := by decide +kernel
theorem d14_19_14 : decode prog_14_method_19_code 14 = .ok (.getfield 32, 3) := by decide +kernel
theorem d14_19_17 : decode prog_14_method_19_code 17 = .ok (.aload_n 0, 1) := by decide +kernel
theorem d14_19_18 : decode prog_14_method_19_code 18 = .ok (.getfield 133, 3) := by decide +kernel
theorem d14_19_21 : decode prog_14_method_19_code 21 = .ok (.iload_n 1, 1) := by decide +kernel
theorem d14_19_22 : decode prog_14_method_19_code 22 = .ok (.iadd, 1) := by decide +kernel
theorem d14_19_23 : decode prog_14_method_19_code 23 = .ok (.iaload, 1) := by decide +kernel
theorem d14_19_24 : decode prog_14_method_19_code 24 = .ok (.goto 4, 3) := by decide +kernel
theorem d14_19_27 : decode prog_14_method_19_code 27 = .ok (.iconst 0, 1) := by decide +kernel
theorem d14_19_28 : decode prog_14_method_19_code 28 = .ok (.ireturn, 1) := by decide +kernel
theorem d14_20_0 : decode prog_14_method_20_code 0 = .ok (.aload_n 0, 1) := by decide +kernel
theorem d14_20_1 : decode prog_14_method_20_code 1 = .ok (.getfield 35, 3) := by decide +kernel
theorem d14_20_4 : decode prog_14_method_20_code 4 = .ok (.aload_n 0, 1) := by decide +kernel
theorem d14_20_5 : decode prog_14_method_20_code 5 = .ok (.getfield 136, 3) := by decide +kernel
theorem d14_20_8 : decode prog_14_method_20_code 8 = .ok (.iload_n 1, 1) := by decide +kernel
theorem d14_20_9 : decode prog_14_method_20_code 9 = .ok (.iastore, 1) := by decide +kernel
theorem d14_20_10 : decode prog_14_method_20_code 10 = .ok (.aload_n 0, 1) := by decide +kernel
theorem d14_20_11 : decode prog_14_method_20_code 11 = .ok (.getfield 53, 3) := by decide +kernel
theorem d14_20_14 : decode prog_14_method_20_code 14 = .ok (.aload_n 0, 1) := by decide +kernel
theorem d14_20_15 : decode prog_14_method_20_code 15 = .ok (.getfield 136, 3) := by decide +kernel
theorem d14_20_18 : decode prog_14_method_20_code 18 = .ok (.iload_n 2, 1) := by decide +kernel
theorem d14_20_19 : decode prog_14_method_20_code 19 = .ok (.iastore, 1) := by decide +kernel
theorem d14_20_20 : decode prog_14_method_20_code 20 = .ok (.aload_n 0, 1) := by decide +kernel
theorem d14_20_21 : decode prog_14_method_20_code 21 = .ok (.getfield 38, 3) := by decide +kernel
theorem d14_20_24 : decode prog_14_method_20_code 24 = .ok (.aload_n 0, 1) := by decide +kernel
theorem d14_20_25 : decode prog_14_method_20_code 25 = .ok (.getfield 136, 3) := by decide +kernel
theorem d14_20_28 : decode prog_14_method_20_code 28 = .ok (.iconst (-1), 1) := by decide +kernel
theorem d14_20_29 : decode prog_14_method_20_code 29 = .ok (.iastore, 1) := by decide +kernel
theorem d14_20_30 : decode prog_14_method_20_code 30 = .ok (.aload_n 0, 1) := by decide +kernel
theorem d14_20_31 : decode prog_14_method_20_code 31 = .ok (.getfield 41, 3) := by decide +kernel
theorem d14_20_34 : decode prog_14_method_20_code 34 = .ok (.aload_n 0, 1) := by decide +kernel
theorem d14_20_35 : decode prog_14_method_20_code 35 = .ok (.getfield 136, 3) := by decide +kernel
theorem d14_20_38 : decode prog_14_method_20_code 38 = .ok (.iconst (-1), 1) := by decide +kernel
theorem d14_20_39 : decode prog_14_method_20_code 39 = .ok (.iastore, 1) := by decide +kernel
theorem d14_20_40 : decode prog_14_method_20_code 40 = .ok (.iconst 0, 1) := by decide +kernel
theorem d14_20_41 : decode prog_14_method_20_code 41 = .ok (.istore_n 3, 1) := by decide +kernel
theorem d14_20_42 : decode prog_14_method_20_code 42 = .ok (.iload_n 3, 1) := by decide +kernel
theorem d14_20_43 : decode prog_14_method_20_code 43 = .ok (.bipush 95, 2) := by decide +kernel
theorem d14_20_45 : decode prog_14_method_20_code 45 = .ok (.if_icmp .ge 24, 3) := by decide +kernel
theorem d14_20_48 : decode prog_14_method_20_code 48 = .ok (.aload_n 0, 1) := by decide +kernel
theorem d14_20_49 : decode prog_14_method_20_code 49 = .ok (.getfield 56, 3) := by decide +kernel
theorem d14_20_52 : decode prog_14_method_20_code 52 = .ok (.bipush 95, 2) := by decide +kernel
theorem d14_20_54 : decode prog_14_method_20_code 54 = .ok (.aload_n 0, 1) := by decide +kernel
theorem d14_20_55 : decode prog_14_method_20_code 55 = .ok (.getfield 136, 3) := by decide +kernel
theorem d14_20_58 : decode prog_14_method_20_code 58 = .ok (.imul, 1) := by decide +kernel
theorem d14_20_59 : decode prog_14_method_20_code 59 = .ok (.iload_n 3, 1) := by decide +kernel
theorem d14_20_60 : decode prog_14_method_20_code 60 = .ok (.iadd, 1) := by decide +kernel
theorem d14_20_61 : decode prog_14_method_20_code 61 = .ok (.iconst 0, 1) := by decide +kernel
theorem d14_20_62 : decode prog_14_method_20_code 62 = .ok (.bastore, 1) := by decide +kernel
theorem d14_20_63 : decode prog_14_method_20_code 63 = .ok (.iinc 3 1, 3) := by decide +kernel
theorem d14_20_66 : decode prog_14_method_20_code 66 = .ok (.goto (-24), 3) := by decide +kernel
theorem d14_20_69 : decode prog_14_method_20_code 69 = .ok (.aload_n 0, 1) := by decide +kernel
theorem d14_20_70 : decode prog_14_method_20_code 70 = .ok (.dup, 1) := by decide +kernel
theorem d14_20_71 : decode prog_14_method_20_code 71 = .ok (.getfield 136, 3) := by decide +kernel
theorem d14_20_74 : decode prog_14_method_20_code 74 = .ok (.iconst 1, 1) := by decide +kernel
theorem d14_20_75 : decode prog_14_method_20_code 75 = .ok (.iadd, 1) := by decide +kernel
theorem d14_20_76 : decode prog_14_method_20_code 76 = .ok (.putfield 136, 3) := by decide +kernel
theorem d14_20_79 : decode prog_14_method_20_code 79 = .ok (.aload_n 0, 1) := by decide +kernel
theorem d14_20_80 : decode prog_14_method_20_code 80 = .ok (.getfield 136, 3) := by decide +kernel
theorem d14_20_83 : decode prog_14_method_20_code 83 = .ok (.iconst 1, 1) := by decide +kernel
theorem d14_20_84 : decode prog_14_method_20_code 84 = .ok (.isub, 1) := by decide +kernel
theorem d14_20_85 : decode prog_14_method_20_code 85 = .ok (.ireturn, 1) := by decide +kernel
theorem d14_22_0 : decode prog_14_method_22_code 0 = .ok (.aload_n 0, 1) := by decide +kernel
theorem d14_22_1 : decode prog_14_method_22_code 1 = .ok (.getfield 44, 3) := by decide +kernel
theorem d14_22_4 : decode prog_14_method_22_code 4 = .ok (.iload_n 1, 1) := by decide +kernel
theorem d14_22_5 : decode prog_14_method_22_code 5 = .ok (.aload_n 0, 1) := by decide +kernel
theorem d14_22_6 : decode prog_14_method_22_code 6 = .ok (.getfield 62, 3) := by decide +kernel
theorem d14_22_9 : decode prog_14_method_22_code 9 = .ok (.aload_n 0, 1) := by decide +kernel
theorem d14_22_10 : decode prog_14_method_22_code 10 = .ok (.getfield 139, 3) := by decide +kernel
theorem d14_22_13 : decode prog_14_method_22_code 13 = .ok (.iaload, 1) := by decide +kernel
theorem d14_22_14 : decode prog_14_method_22_code 14 = .ok (.iastore, 1) := by decide +kernel
theorem d14_22_15 : decode prog_14_method_22_code 15 = .ok (.aload_n 0, 1) := by decide +kernel
theorem d14_22_16 : decode prog_14_method_22_code 16 = .ok (.invokevirtual 142, 3) := by decide +kernel
theorem d14_22_19 : decode prog_14_method_22_code 19 = .ok (.ifCond .eq 16, 3) := by decide +kernel
theorem d14_22_22 : decode prog_14_method_22_code 22 = .ok (.aload_n 0, 1) := by decide +kernel
theorem d14_22_23 : decode prog_14_method_22_code 23 = .ok (.getfield 59, 3) := by decide +kernel
theorem d14_22_26 : decode prog_14_method_22_code 26 = .ok (.aload_n 0, 1) := by decide +kernel
theorem d14_22_27 : decode prog_14_method_22_code 27 = .ok (.getfield 139, 3) := by decide +kernel
theorem d14_22_30 : decode prog_14_method_22_code 30 = .ok (.iload_n 1, 1) := by decide +kernel
theorem d14_22_31 : decode prog_14_method_22_code 31 = .ok (.iastore, 1) := by decide +kernel
theorem d14_22_32 : decode prog_14_method_22_code 32 = .ok (.goto 18, 3) := by decide +kernel
theorem d14_22_35 : decode prog_14_method_22_code 35 = .ok (.aload_n 0, 1) := by decide +kernel
theorem d14_22_36 : decode prog_14_method_22_code 36 = .ok (.getfield 41, 3) := by decide +kernel
theorem d14_22_39 : decode prog_14_method_22_code 39 = .ok (.aload_n 0, 1) := by decide +kernel
theorem d14_22_40 : decode prog_14_method_22_code 40 = .ok (.getfield 62, 3) := by decide +kernel
theorem d14_22_43 : decode prog_14_method_22_code 43 = .ok (.aload_n 0, 1) := by decide +kernel
theorem d14_22_44 : decode prog_14_method_22_code 44 = .ok (.getfield 139, 3) := by decide +kernel
theorem d14_22_47 : decode prog_14_method_22_code 47 = .ok (.iaload, 1) := by decide +kernel
theorem d14_22_48 : decode prog_14_method_22_code 48 = .ok (.iload_n 1, 1) := by decide +kernel
theorem d14_22_49 : decode prog_14_method_22_code 49 = .ok (.iastore, 1) := by decide +kernel
theorem d14_22_50 : decode prog_14_method_22_code 50 = .ok (.aload_n 0, 1) := by decide +kernel
theorem d14_22_51 : decode prog_14_method_22_code 51 = .ok (.getfield 62, 3) := by decide +kernel
theorem d14_22_54 : decode prog_14_method_22_code 54 = .ok (.aload_n 0, 1) := by decide +kernel
theorem d14_22_55 : decode prog_14_method_22_code 55 = .ok (.getfield 139, 3) := by decide +kernel
theorem d14_22_58 : decode prog_14_method_22_code 58 = .ok (.iload_n 1, 1) := by decide +kernel
theorem d14_22_59 : decode prog_14_method_22_code 59 = .ok (.iastore, 1) := by decide +kernel
theorem d14_22_60 : decode prog_14_method_22_code 60 = .ok (.return_, 1) := by decide +kernel
theorem d14_24_0 : decode prog_14_method_24_code 0 = .ok (.iconst 0, 1) := by decide +kernel
theorem d14_24_1 : decode prog_14_method_24_code 1 = .ok (.istore_n 1, 1) := by decide +kernel
theorem d14_24_2 : decode prog_14_method_24_code 2 = .ok (.aload_n 0, 1) := by decide +kernel
theorem d14_24_3 : decode prog_14_method_24_code 3 = .ok (.getfield 59, 3) := by decide +kernel
theorem d14_24_6 : decode prog_14_method_24_code 6 = .ok (.aload_n 0, 1) := by decide +kernel
theorem d14_24_7 : decode prog_14_method_24_code 7 = .ok (.getfield 139, 3) := by decide +kernel
theorem d14_24_10 : decode prog_14_method_24_code 10 = .ok (.iaload, 1) := by decide +kernel
theorem d14_24_11 : decode prog_14_method_24_code 11 = .ok (.istore_n 2, 1) := by decide +kernel
theorem d14_24_12 : decode prog_14_method_24_code 12 = .ok (.iload_n 2, 1) := by decide +kernel
theorem d14_24_13 : decode prog_14_method_24_code 13 = .ok (.ifCond .lt 22, 3) := by decide +kernel
theorem d14_24_16 : decode prog_14_method_24_code 16 = .ok (.iload_n 1, 1) := by decide +kernel
theorem d14_24_17 : decode prog_14_method_24_code 17 = .ok (.aload_n 0, 1) := by decide +kernel
theorem d14_24_18 : decode prog_14_method_24_code 18 = .ok (.getfield 53, 3) := by decide +kernel
theorem d14_24_21 : decode prog_14_method_24_code 21 = .ok (.iload_n 2, 1) := by decide +kernel
theorem d14_24_22 : decode prog_14_method_24_code 22 = .ok (.iaload, 1) := by decide +kernel
theorem d14_24_23 : decode prog_14_method_24_code 23 = .ok (.iadd, 1) := by decide +kernel
theorem d14_24_24 : decode prog_14_method_24_code 24 = .ok (.istore_n 1, 1) := by decide +kernel
theorem d14_24_25 : decode prog_14_method_24_code 25 = .ok (.aload_n 0, 1) := by decide +kernel
theorem d14_24_26 : decode prog_14_method_24_code 26 = .ok (.getfield 41, 3) := by decide +kernel
theorem d14_24_29 : decode prog_14_method_24_code 29 = .ok (.iload_n 2, 1) := by decide +kernel
theorem d14_24_30 : decode prog_14_method_24_code 30 = .ok (.iaload, 1) := by decide +kernel
theorem d14_24_31 : decode prog_14_method_24_code 31 = .ok (.istore_n 2, 1) := by decide +kernel
theorem d14_24_32 : decode prog_14_method_24_code 32 = .ok (.goto (-20), 3) := by decide +kernel
theorem d14_24_35 : decode prog_14_method_24_code 35 = .ok (.aload_n 0, 1) := by decide +kernel
theorem d14_24_36 : decode prog_14_method_24_code 36 = .ok (.iconst 5, 1) := by decide +kernel
theorem d14_24_37 : decode prog_14_method_24_code 37 = .ok (.iload_n 1, 1) := by decide +kernel
theorem d14_24_38 : decode prog_14_method_24_code 38 = .ok (.invokevirtual 146, 3) := by decide +kernel
theorem d14_24_41 : decode prog_14_method_24_code 41 = .ok (.istore_n 2, 1) := by decide +kernel
theorem d14_24_42 : decode prog_14_method_24_code 42 = .ok (.aload_n 0, 1) := by decide +kernel
theorem d14_24_43 : decode prog_14_method_24_code 43 = .ok (.getfield 38, 3) := by decide +kernel
theorem d14_24_46 : decode prog_14_method_24_code 46 = .ok (.iload_n 2, 1) := by decide +kernel
theorem d14_24_47 : decode prog_14_method_24_code 47 = .ok (.aload_n 0, 1) := by decide +kernel
theorem d14_24_48 : decode prog_14_method_24_code 48 = .ok (.getfield 59, 3) := by decide +kernel
theorem d14_24_51 : decode prog_14_method_24_code 51 = .ok (.aload_n 0, 1) := by decide +kernel
theorem d14_24_52 : decode prog_14_method_24_code 52 = .ok (.getfield 139, 3) := by decide +kernel
theorem d14_24_55 : decode prog_14_method_24_code 55 = .ok (.iaload, 1) := by decide +kernel
theorem d14_24_56 : decode prog_14_method_24_code 56 = .ok (.iastore, 1) := by decide +kernel
theorem d14_24_57 : decode prog_14_method_24_code 57 = .ok (.aload_n 0, 1) := by decide +kernel
theorem d14_24_58 : decode prog_14_method_24_code 58 = .ok (.getfield 65, 3) := by decide +kernel
theorem d14_24_61 : decode prog_14_method_24_code 61 = .ok (.aload_n 0, 1) := by decide +kernel
theorem d14_24_62 : decode prog_14_method_24_code 62 = .ok (.getfield 139, 3) := by decide +kernel
theorem d14_24_65 : decode prog_14_method_24_code 65 = .ok (.iaload, 1) := by decide +kernel
theorem d14_24_66 : decode prog_14_method_24_code 66 = .ok (.ifCond .ge 16, 3) := by decide +kernel
theorem d14_24_69 : decode prog_14_method_24_code 69 = .ok (.aload_n 0, 1) := by decide +kernel
theorem d14_24_70 : decode prog_14_method_24_code 70 = .ok (.getfield 65, 3) := by decide +kernel
theorem d14_24_73 : decode prog_14_method_24_code 73 = .ok (.aload_n 0, 1) := by decide +kernel
theorem d14_24_74 : decode prog_14_method_24_code 74 = .ok (.getfield 139, 3) := by decide +kernel
theorem d14_24_77 : decode prog_14_method_24_code 77 = .ok (.iload_n 2, 1) := by decide +kernel
theorem d14_24_78 : decode prog_14_method_24_code 78 = .ok (.iastore, 1) := by decide +kernel
theorem d14_24_79 : decode prog_14_method_24_code 79 = .ok (.goto 18, 3) := by decide +kernel
theorem d14_24_82 : decode prog_14_method_24_code 82 = .ok (.aload_n 0, 1) := by decide +kernel
theorem d14_24_83 : decode prog_14_method_24_code 83 = .ok (.getfield 41, 3) := by decide +kernel
theorem d14_24_86 : decode prog_14_method_24_code 86 = .ok (.aload_n 0, 1) := by decide +kernel
theorem d14_24_87 : decode prog_14_method_24_code 87 = .ok (.getfield 68, 3) := by decide +kernel
theorem d14_24_90 : decode prog_14_method_24_code 90 = .ok (.aload_n 0, 1) := by decide +kernel
theorem d14_24_91 : decode prog_14_method_24_code 91 = .ok (.getfield 139, 3) := by decide +kernel
theorem d14_24_94 : decode prog_14_method_24_code 94 = .ok (.iaload, 1) := by decide +kernel
theorem d14_24_95 : decode prog_14_method_24_code 95 = .ok (.iload_n 2, 1) := by decide +kernel
theorem d14_24_96 : decode prog_14_method_24_code 96 = .ok (.iastore, 1) := by decide +kernel
theorem d14_24_97 : decode prog_14_method_24_code 97 = .ok (.aload_n 0, 1) := by decide +kernel
theorem d14_24_98 : decode prog_14_method_24_code 98 = .ok (.getfield 68, 3) := by decide +kernel
theorem d14_24_101 : decode prog_14_method_24_code 101 = .ok (.aload_n 0, 1) := by decide +kernel
theorem d14_24_102 : decode prog_14_method_24_code 102 = .ok (.getfield 139, 3) := by decide +kernel
theorem d14_24_105 : decode prog_14_method_24_code 105 = .ok (.iload_n 2, 1) := by decide +kernel
theorem d14_24_106 : decode prog_14_method_24_code 106 = .ok (.iastore, 1) := by decide +kernel
theorem d14_24_107 : decode prog_14_method_24_code 107 = .ok (.aload_n 0, 1) := by decide +kernel
theorem d14_24_108 : decode prog_14_method_24_code 108 = .ok (.getfield 59, 3) := by decide +kernel
theorem d14_24_111 : decode prog_14_method_24_code 111 = .ok (.aload_n 0, 1) := by decide +kernel
theorem d14_24_112 : decode prog_14_method_24_code 112 = .ok (.getfield 139, 3) := by decide +kernel
theorem d14_24_115 : decode prog_14_method_24_code 115 = .ok (.iconst (-1), 1) := by decide +kernel
theorem d14_24_116 : decode prog_14_method_24_code 116 = .ok (.iastore, 1) := by decide +kernel
theorem d14_24_117 : decode prog_14_method_24_code 117 = .ok (.aload_n 0, 1) := by decide +kernel
theorem d14_24_118 : decode prog_14_method_24_code 118 = .ok (.getfield 62, 3) := by decide +kernel
theorem d14_24_121 : decode prog_14_method_24_code 121 = .ok (.aload_n 0, 1) := by decide +kernel
theorem d14_24_122 : decode prog_14_method_24_code 122 = .ok (.getfield 139, 3) := by decide +kernel
theorem d14_24_125 : decode prog_14_method_24_code 125 = .ok (.iconst (-1), 1) := by decide +kernel
theorem d14_24_126 : decode prog_14_method_24_code 126 = .ok (.iastore, 1) := by decide +kernel
theorem d14_24_127 : decode prog_14_method_24_code 127 = .ok (.return_, 1) := by decide +kernel
theorem d14_25_0 : decode prog_14_method_25_code 0 = .ok (.iconst (-1), 1) := by decide +kernel
theorem d14_25_1 : decode prog_14_method_25_code 1 = .ok (.istore_n 1, 1) := by decide +kernel
theorem d14_25_2 : decode prog_14_method_25_code 2 = .ok (.aload_n 0, 1) := by decide +kernel
theorem d14_25_3 : decode prog_14_method_25_code 3 = .ok (.getfield 65, 3) := by decide +kernel
theorem d14_25_6 : decode prog_14_method_25_code 6 = .ok (.aload_n 0, 1) := by decide +kernel
theorem d14_25_7 : decode prog_14_method_25_code 7 = .ok (.getfield 139, 3) := by decide +kernel
theorem d14_25_10 : decode prog_14_method_25_code 10 = .ok (.iaload, 1) := by decide +kernel
theorem d14_25_11 : decode prog_14_method_25_code 11 = .ok (.istore_n 2, 1) := by decide +kernel
theorem d14_25_12 : decode prog_14_method_25_code 12 = .ok (.iload_n 2, 1) := by decide +kernel
theorem d14_25_13 : decode prog_14_method_25_code 13 = .ok (.ifCond .lt 24, 3) := by decide +kernel
theorem d14_25_16 : decode prog_14_method_25_code 16 = .ok (.iload_n 1, 1) := by decide +kernel
theorem d14_25_17 : decode prog_14_method_25_code 17 = .ok (.iconst 1, 1) := by decide +kernel
theorem d14_25_18 : decode prog_14_method_25_code 18 = .ok (.iadd, 1) := by decide +kernel
theorem d14_25_19 : decode prog_14_method_25_code 19 = .ok (.aload_n 0, 1) := by decide +kernel
theorem d14_25_20 : decode prog_14_method_25_code 20 = .ok (.getfield 53, 3) := by decide +kernel
theorem d14_25_23 : decode prog_14_method_25_code 23 = .ok (.iload_n 2, 1) := by decide +kernel
theorem d14_25_24 : decode prog_14_method_25_code 24 = .ok (.iaload, 1) := by decide +kernel
theorem d14_25_25 : decode prog_14_method_25_code 25 = .ok (.iadd, 1) := by decide +kernel
theorem d14_25_26 : decode prog_14_method_25_code 26 = .ok (.istore_n 1, 1) := by decide +kernel
theorem d14_25_27 : decode prog_14_method_25_code 27 = .ok (.aload_n 0, 1) := by decide +kernel
theorem d14_25_28 : decode prog_14_method_25_code 28 = .ok (.getfield 41, 3) := by decide +kernel
theorem d14_25_31 : decode prog_14_method_25_code 31 = .ok (.iload_n 2, 1) := by decide +kernel
theorem d14_25_32 : decode prog_14_method_25_code 32 = .ok (.iaload, 1) := by decide +kernel
theorem d14_25_33 : decode prog_14_method_25_code 33 = .ok (.istore_n 2, 1) := by decide +kernel
theorem d14_25_34 : decode prog_14_method_25_code 34 = .ok (.goto (-22), 3) := by decide +kernel
theorem d14_25_37 : decode prog_14_method_25_code 37 = .ok (.aload_n 0, 1) := by decide +kernel
theorem d14_25_38 : decode prog_14_method_25_code 38 = .ok (.bipush 6, 2) := by decide +kernel
theorem d14_25_40 : decode prog_14_method_25_code 40 = .ok (.iload_n 1, 1) := by decide +kernel
theorem d14_25_41 : decode prog_14_method_25_code 41 = .ok (.invokevirtual 146, 3) := by decide +kernel
theorem d14_25_44 : decode prog_14_method_25_code 44 = .ok (.istore_n 2, 1) := by decide +kernel
theorem d14_25_45 : decode prog_14_method_25_code 45 = .ok (.aload_n 0, 1) := by decide +kernel
theorem d14_25_46 : decode prog_14_method_25_code 46 = .ok (.getfield 38, 3) := by decide +kernel
theorem d14_25_49 : decode prog_14_method_25_code 49 = .ok (.iload_n 2, 1) := by decide +kernel
theorem d14_25_50 : decode prog_14_method_25_code 50 = .ok (.aload_n 0, 1) := by decide +kernel
theorem d14_25_51 : decode prog_14_method_25_code 51 = .ok (.getfield 65, 3) := by decide +kernel
theorem d14_25_54 : decode prog_14_method_25_code 54 = .ok (.aload_n 0, 1) := by decide +kernel
theorem d14_25_55 : decode prog_14_method_25_code 55 = .ok (.getfield 139, 3) := by decide +kernel
theorem d14_25_58 : decode prog_14_method_25_code 58 = .ok (.iaload, 1) := by decide +kernel
theorem d14_25_59 : decode prog_14_method_25_code 59 = .ok (.iastore, 1) := by decide +kernel
theorem d14_25_60 : decode prog_14_method_25_code 60 = .ok (.iload_n 2, 1) := by decide +kernel
theorem d14_25_61 : decode prog_14_method_25_code 61 = .ok (.ireturn, 1) := by decide +kernel
