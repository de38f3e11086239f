theorem d14_43_0 : decode prog_14_method_43_code 0 = .ok (.aload_n 0, 1) := by decide +kernel
theorem d14_43_1 : decode prog_14_method_43_code 1 = .ok (.getfield 74, 3) := by decide +kernel
theorem d14_43_4 : decode prog_14_method_43_code 4 = .ok (.iload_n 1, 1) := by decide +kernel
theorem d14_43_5 : decode prog_14_method_43_code 5 = .ok (.iconst 1, 1) := by decide +kernel
theorem d14_43_6 : decode prog_14_method_43_code 6 = .ok (.iastore, 1) := by decide +kernel
theorem d14_43_7 : decode prog_14_method_43_code 7 = .ok (.aload_n 0, 1) := by decide +kernel
theorem d14_43_8 : decode prog_14_method_43_code 8 = .ok (.getfield 80, 3) := by decide +kernel
theorem d14_43_11 : decode prog_14_method_43_code 11 = .ok (.iconst 4, 1) := by decide +kernel
theorem d14_43_12 : decode prog_14_method_43_code 12 = .ok (.iload_n 1, 1) := by decide +kernel
theorem d14_43_13 : decode prog_14_method_43_code 13 = .ok (.imul, 1) := by decide +kernel
theorem d14_43_14 : decode prog_14_method_43_code 14 = .ok (.iconst 0, 1) := by decide +kernel
theorem d14_43_15 : decode prog_14_method_43_code 15 = .ok (.iastore, 1) := by decide +kernel
theorem d14_43_16 : decode prog_14_method_43_code 16 = .ok (.return_, 1) := by decide +kernel
theorem d14_44_0 : decode prog_14_method_44_code 0 = .ok (.aload_n 0, 1) := by decide +kernel
theorem d14_44_1 : decode prog_14_method_44_code 1 = .ok (.getfield 80, 3) := by decide +kernel
theorem d14_44_4 : decode prog_14_method_44_code 4 = .ok (.iconst 4, 1) := by decide +kernel
theorem d14_44_5 : decode prog_14_method_44_code 5 = .ok (.iload_n 3, 1) := by decide +kernel
theorem d14_44_6 : decode prog_14_method_44_code 6 = .ok (.imul, 1) := by decide +kernel
theorem d14_44_7 : decode prog_14_method_44_code 7 = .ok (.iload 4, 2) := by decide +kernel
theorem d14_44_9 : decode prog_14_method_44_code 9 = .ok (.iadd, 1) := by decide +kernel
theorem d14_44_10 : decode prog_14_method_44_code 10 = .ok (.aload_n 0, 1) := by decide +kernel
theorem d14_44_11 : decode prog_14_method_44_code 11 = .ok (.getfield 80, 3) := by decide +kernel
theorem d14_44_14 : decode prog_14_method_44_code 14 = .ok (.iconst 4, 1) := by decide +kernel
theorem d14_44_15 : decode prog_14_method_44_code 15 = .ok (.iload_n 1, 1) := by decide +kernel
theorem d14_44_16 : decode prog_14_method_44_code 16 = .ok (.imul, 1) := by decide +kernel
theorem d14_44_17 : decode prog_14_method_44_code 17 = .ok (.iload_n 2, 1) := by decide +kernel
theorem d14_44_18 : decode prog_14_method_44_code 18 = .ok (.iadd, 1) := by decide +kernel
theorem d14_44_19 : decode prog_14_method_44_code 19 = .ok (.iaload, 1) := by decide +kernel
theorem d14_44_20 : decode prog_14_method_44_code 20 = .ok (.iastore, 1) := by decide +kernel
theorem d14_44_21 : decode prog_14_method_44_code 21 = .ok (.iconst 0, 1) := by decide +kernel
theorem d14_44_22 : decode prog_14_method_44_code 22 = .ok (.istore 5, 2) := by decide +kernel
theorem d14_44_24 : decode prog_14_method_44_code 24 = .ok (.iload 5, 2) := by decide +kernel
theorem d14_44_26 : decode prog_14_method_44_code 26 = .ok (.bipush 12, 2) := by decide +kernel
theorem d14_44_28 : decode prog_14_method_44_code 28 = .ok (.if_icmp .ge 44, 3) := by decide +kernel
theorem d14_44_31 : decode prog_14_method_44_code 31 = .ok (.aload_n 0, 1) := by decide +kernel
theorem d14_44_32 : decode prog_14_method_44_code 32 = .ok (.getfield 77, 3) := by decide +kernel
theorem d14_44_35 : decode prog_14_method_44_code 35 = .ok (.bipush 48, 2) := by decide +kernel
theorem d14_44_37 : decode prog_14_method_44_code 37 = .ok (.iload_n 3, 1) := by decide +kernel
theorem d14_44_38 : decode prog_14_method_44_code 38 = .ok (.imul, 1) := by decide +kernel
theorem d14_44_39 : decode prog_14_method_44_code 39 = .ok (.bipush 12, 2) := by decide +kernel
theorem d14_44_41 : decode prog_14_method_44_code 41 = .ok (.iload 4, 2) := by decide +kernel
theorem d14_44_43 : decode prog_14_method_44_code 43 = .ok (.imul, 1) := by decide +kernel
theorem d14_44_44 : decode prog_14_method_44_code 44 = .ok (.iadd, 1) := by decide +kernel
theorem d14_44_45 : decode prog_14_method_44_code 45 = .ok (.iload 5, 2) := by decide +kernel
theorem d14_44_47 : decode prog_14_method_44_code 47 = .ok (.iadd, 1) := by decide +kernel
theorem d14_44_48 : decode prog_14_method_44_code 48 = .ok (.aload_n 0, 1) := by decide +kernel
theorem d14_44_49 : decode prog_14_method_44_code 49 = .ok (.getfield 77, 3) := by decide +kernel
theorem d14_44_52 : decode prog_14_method_44_code 52 = .ok (.bipush 48, 2) := by decide +kernel
theorem d14_44_54 : decode prog_14_method_44_code 54 = .ok (.iload_n 1, 1) := by decide +kernel
theorem d14_44_55 : decode prog_14_method_44_code 55 = .ok (.imul, 1) := by decide +kernel
theorem d14_44_56 : decode prog_14_method_44_code 56 = .ok (.bipush 12, 2) := by decide +kernel
theorem d14_44_58 : decode prog_14_method_44_code 58 = .ok (.iload_n 2, 1) := by decide +kernel
theorem d14_44_59 : decode prog_14_method_44_code 59 = .ok (.imul, 1) := by decide +kernel
theorem d14_44_60 : decode prog_14_method_44_code 60 = .ok (.iadd, 1) := by decide +kernel
theorem d14_44_61 : decode prog_14_method_44_code 61 = .ok (.iload 5, 2) := by decide +kernel
theorem d14_44_63 : decode prog_14_method_44_code 63 = .ok (.iadd, 1) := by decide +kernel
theorem d14_44_64 : decode prog_14_method_44_code 64 = .ok (.iaload, 1) := by decide +kernel
theorem d14_44_65 : decode prog_14_method_44_code 65 = .ok (.iastore, 1) := by decide +kernel
theorem d14_44_66 : decode prog_14_method_44_code 66 = .ok (.iinc 5 1, 3) := by decide +kernel
theorem d14_44_69 : decode prog_14_method_44_code 69 = .ok (.goto (-45), 3) := by decide +kernel
theorem d14_44_72 : decode prog_14_method_44_code 72 = .ok (.return_, 1) := by decide +kernel
theorem d14_45_0 : decode prog_14_method_45_code 0 = .ok (.aload_n 0, 1) := by decide +kernel
theorem d14_45_1 : decode prog_14_method_45_code 1 = .ok (.getfield 74, 3) := by decide +kernel
theorem d14_45_4 : decode prog_14_method_45_code 4 = .ok (.iload_n 2, 1) := by decide +kernel
theorem d14_45_5 : decode prog_14_method_45_code 5 = .ok (.aload_n 0, 1) := by decide +kernel
theorem d14_45_6 : decode prog_14_method_45_code 6 = .ok (.getfield 74, 3) := by decide +kernel
theorem d14_45_9 : decode prog_14_method_45_code 9 = .ok (.iload_n 1, 1) := by decide +kernel
theorem d14_45_10 : decode prog_14_method_45_code 10 = .ok (.iaload, 1) := by decide +kernel
theorem d14_45_11 : decode prog_14_method_45_code 11 = .ok (.iastore, 1) := by decide +kernel
theorem d14_45_12 : decode prog_14_method_45_code 12 = .ok (.iconst 0, 1) := by decide +kernel
theorem d14_45_13 : decode prog_14_method_45_code 13 = .ok (.istore_n 3, 1) := by decide +kernel
theorem d14_45_14 : decode prog_14_method_45_code 14 = .ok (.iload_n 3, 1) := by decide +kernel
theorem d14_45_15 : decode prog_14_method_45_code 15 = .ok (.aload_n 0, 1) := by decide +kernel
theorem d14_45_16 : decode prog_14_method_45_code 16 = .ok (.getfield 74, 3) := by decide +kernel
theorem d14_45_19 : decode prog_14_method_45_code 19 = .ok (.iload_n 1, 1) := by decide +kernel
theorem d14_45_20 : decode prog_14_method_45_code 20 = .ok (.iaload, 1) := by decide +kernel
theorem d14_45_21 : decode prog_14_method_45_code 21 = .ok (.if_icmp .ge 17, 3) := by decide +kernel
theorem d14_45_24 : decode prog_14_method_45_code 24 = .ok (.aload_n 0, 1) := by decide +kernel
theorem d14_45_25 : decode prog_14_method_45_code 25 = .ok (.iload_n 1, 1) := by decide +kernel
theorem d14_45_26 : decode prog_14_method_45_code 26 = .ok (.iload_n 3, 1) := by decide +kernel
theorem d14_45_27 : decode prog_14_method_45_code 27 = .ok (.iload_n 2, 1) := by decide +kernel
theorem d14_45_28 : decode prog_14_method_45_code 28 = .ok (.iload_n 3, 1) := by decide +kernel
theorem d14_45_29 : decode prog_14_method_45_code 29 = .ok (.invokevirtual 218, 3) := by decide +kernel
theorem d14_45_32 : decode prog_14_method_45_code 32 = .ok (.iinc 3 1, 3) := by decide +kernel
theorem d14_45_35 : decode prog_14_method_45_code 35 = .ok (.goto (-21), 3) := by decide +kernel
theorem d14_45_38 : decode prog_14_method_45_code 38 = .ok (.return_, 1) := by decide +kernel
theorem d14_46_0 : decode prog_14_method_46_code 0 = .ok (.aload_n 0, 1) := by decide +kernel
theorem d14_46_1 : decode prog_14_method_46_code 1 = .ok (.getfield 80, 3) := by decide +kernel
theorem d14_46_4 : decode prog_14_method_46_code 4 = .ok (.iconst 4, 1) := by decide +kernel
theorem d14_46_5 : decode prog_14_method_46_code 5 = .ok (.iload_n 1, 1) := by decide +kernel
theorem d14_46_6 : decode prog_14_method_46_code 6 = .ok (.imul, 1) := by decide +kernel
theorem d14_46_7 : decode prog_14_method_46_code 7 = .ok (.iload_n 2, 1) := by decide +kernel
theorem d14_46_8 : decode prog_14_method_46_code 8 = .ok (.iadd, 1) := by decide +kernel
theorem d14_46_9 : decode prog_14_method_46_code 9 = .ok (.iaload, 1) := by decide +kernel
theorem d14_46_10 : decode prog_14_method_46_code 10 = .ok (.aload_n 0, 1) := by decide +kernel
theorem d14_46_11 : decode prog_14_method_46_code 11 = .ok (.getfield 80, 3) := by decide +kernel
theorem d14_46_14 : decode prog_14_method_46_code 14 = .ok (.iconst 4, 1) := by decide +kernel
theorem d14_46_15 : decode prog_14_method_46_code 15 = .ok (.iload_n 3, 1) := by decide +kernel
theorem d14_46_16 : decode prog_14_method_46_code 16 = .ok (.imul, 1) := by decide +kernel
theorem d14_46_17 : decode prog_14_method_46_code 17 = .ok (.iload 4, 2) := by decide +kernel
theorem d14_46_19 : decode prog_14_method_46_code 19 = .ok (.iadd, 1) := by decide +kernel
theorem d14_46_20 : decode prog_14_method_46_code 20 = .ok (.iaload, 1) := by decide +kernel
theorem d14_46_21 : decode prog_14_method_46_code 21 = .ok (.if_icmp .ne 7, 3) := by decide +kernel
theorem d14_46_24 : decode prog_14_method_46_code 24 = .ok (.iconst 1, 1) := by decide +kernel
theorem d14_46_25 : decode prog_14_method_46_code 25 = .ok (.goto 4, 3) := by decide +kernel
theorem d14_46_28 : decode prog_14_method_46_code 28 = .ok (.iconst 0, 1) := by decide +kernel
theorem d14_46_29 : decode prog_14_method_46_code 29 = .ok (.istore 5, 2) := by decide +kernel
theorem d14_46_31 : decode prog_14_method_46_code 31 = .ok (.iconst 0, 1) := by decide +kernel
theorem d14_46_32 : decode prog_14_method_46_code 32 = .ok (.istore 6, 2) := by decide +kernel
theorem d14_46_34 : decode prog_14_method_46_code 34 = .ok (.iload 6, 2) := by decide +kernel
theorem d14_46_36 : decode prog_14_method_46_code 36 = .ok (.bipush 12, 2) := by decide +kernel
theorem d14_46_38 : decode prog_14_method_46_code 38 = .ok (.if_icmp .ge 74, 3) := by decide +kernel
theorem d14_46_41 : decode prog_14_method_46_code 41 = .ok (.iload 6, 2) := by decide +kernel
theorem d14_46_43 : decode prog_14_method_46_code 43 = .ok (.aload_n 0, 1) := by decide +kernel
theorem d14_46_44 : decode prog_14_method_46_code 44 = .ok (.getfield 80, 3) := by decide +kernel
theorem d14_46_47 : decode prog_14_method_46_code 47 = .ok (.iconst 4, 1) := by decide +kernel
theorem d14_46_48 : decode prog_14_method_46_code 48 = .ok (.iload_n 1, 1) := by decide +kernel
theorem d14_46_49 : decode prog_14_method_46_code 49 = .ok (.imul, 1) := by decide +kernel
theorem d14_46_50 : decode prog_14_method_46_code 50 = .ok (.iload_n 2, 1) := by decide +kernel
theorem d14_46_51 : decode prog_14_method_46_code 51 = .ok (.iadd, 1) := by decide +kernel
theorem d14_46_52 : decode prog_14_method_46_code 52 = .ok (.iaload, 1) := by decide +kernel
theorem d14_46_53 : decode prog_14_method_46_code 53 = .ok (.if_icmp .ge 59, 3) := by decide +kernel
theorem d14_46_56 : decode prog_14_method_46_code 56 = .ok (.iload 5, 2) := by decide +kernel
theorem d14_46_58 : decode prog_14_method_46_code 58 = .ok (.ifCond .eq 45, 3) := by decide +kernel
theorem d14_46_61 : decode prog_14_method_46_code 61 = .ok (.aload_n 0, 1) := by decide +kernel
theorem d14_46_62 : decode prog_14_method_46_code 62 = .ok (.getfield 77, 3) := by decide +kernel
theorem d14_46_65 : decode prog_14_method_46_code 65 = .ok (.bipush 48, 2) := by decide +kernel
theorem d14_46_67 : decode prog_14_method_46_code 67 = .ok (.iload_n 1, 1) := by decide +kernel
theorem d14_46_68 : decode prog_14_method_46_code 68 = .ok (.imul, 1) := by decide +kernel
theorem d14_46_69 : decode prog_14_method_46_code 69 = .ok (.bipush 12, 2) := by decide +kernel
theorem d14_46_71 : decode prog_14_method_46_code 71 = .ok (.iload_n 2, 1) := by decide +kernel
theorem d14_46_72 : decode prog_14_method_46_code 72 = .ok (.imul, 1) := by decide +kernel
theorem d14_46_73 : decode prog_14_method_46_code 73 = .ok (.iadd, 1) := by decide +kernel
theorem d14_46_74 : decode prog_14_method_46_code 74 = .ok (.iload 6, 2) := by decide +kernel
theorem d14_46_76 : decode prog_14_method_46_code 76 = .ok (.iadd, 1) := by decide +kernel
theorem d14_46_77 : decode prog_14_method_46_code 77 = .ok (.iaload, 1) := by decide +kernel
theorem d14_46_78 : decode prog_14_method_46_code 78 = .ok (.aload_n 0, 1) := by decide +kernel
theorem d14_46_79 : decode prog_14_method_46_code 79 = .ok (.getfield 77, 3) := by decide +kernel
theorem d14_46_82 : decode prog_14_method_46_code 82 = .ok (.bipush 48, 2) := by decide +kernel
theorem d14_46_84 : decode prog_14_method_46_code 84 = .ok (.iload_n 3, 1) := by decide +kernel
theorem d14_46_85 : decode prog_14_method_46_code 85 = .ok (.imul, 1) := by decide +kernel
theorem d14_46_86 : decode prog_14_method_46_code 86 = .ok (.bipush 12, 2) := by decide +kernel
theorem d14_46_88 : decode prog_14_method_46_code 88 = .ok (.iload 4, 2) := by decide +kernel
theorem d14_46_90 : decode prog_14_method_46_code 90 = .ok (.imul, 1) := by decide +kernel
theorem d14_46_91 : decode prog_14_method_46_code 91 = .ok (.iadd, 1) := by decide +kernel
theorem d14_46_92 : decode prog_14_method_46_code 92 = .ok (.iload 6, 2) := by decide +kernel
theorem d14_46_94 : decode prog_14_method_46_code 94 = .ok (.iadd, 1) := by decide +kernel
theorem d14_46_95 : decode prog_14_method_46_code 95 = .ok (.iaload, 1) := by decide +kernel
theorem d14_46_96 : decode prog_14_method_46_code 96 = .ok (.if_icmp .ne 7, 3) := by decide +kernel
theorem d14_46_99 : decode prog_14_method_46_code 99 = .ok (.iconst 1, 1) := by decide +kernel
theorem d14_46_100 : decode prog_14_method_46_code 100 = .ok (.goto 4, 3) := by decide +kernel
theorem d14_46_103 : decode prog_14_method_46_code 103 = .ok (.iconst 0, 1) := by decide +kernel
theorem d14_46_104 : decode prog_14_method_46_code 104 = .ok (.istore 5, 2) := by decide +kernel
theorem d14_46_106 : decode prog_14_method_46_code 106 = .ok (.iinc 6 1, 3) := by decide +kernel
theorem d14_46_109 : decode prog_14_method_46_code 109 = .ok (.goto (-75), 3) := by decide +kernel
theorem d14_46_112 : decode prog_14_method_46_code 112 = .ok (.iload 5, 2) := by decide +kernel
theorem d14_46_114 : decode prog_14_method_46_code 114 = .ok (.ireturn, 1) := by decide +kernel
