theorem d14_52_0 : decode prog_14_method_52_code 0 = .ok (.aload_n 0, 1) := by decide +kernel
theorem d14_52_1 : decode prog_14_method_52_code 1 = .ok (.getfield 74, 3) := by decide +kernel
theorem d14_52_4 : decode prog_14_method_52_code 4 = .ok (.bipush 31, 2) := by decide +kernel
theorem d14_52_6 : decode prog_14_method_52_code 6 = .ok (.iconst 0, 1) := by decide +kernel
theorem d14_52_7 : decode prog_14_method_52_code 7 = .ok (.iastore, 1) := by decide +kernel
theorem d14_52_8 : decode prog_14_method_52_code 8 = .ok (.aload_n 0, 1) := by decide +kernel
theorem d14_52_9 : decode prog_14_method_52_code 9 = .ok (.getfield 38, 3) := by decide +kernel
theorem d14_52_12 : decode prog_14_method_52_code 12 = .ok (.iload_n 1, 1) := by decide +kernel
theorem d14_52_13 : decode prog_14_method_52_code 13 = .ok (.iaload, 1) := by decide +kernel
theorem d14_52_14 : decode prog_14_method_52_code 14 = .ok (.istore_n 2, 1) := by decide +kernel
theorem d14_52_15 : decode prog_14_method_52_code 15 = .ok (.iload_n 2, 1) := by decide +kernel
theorem d14_52_16 : decode prog_14_method_52_code 16 = .ok (.ifCond .lt 55, 3) := by decide +kernel
theorem d14_52_19 : decode prog_14_method_52_code 19 = .ok (.aload_n 0, 1) := by decide +kernel
theorem d14_52_20 : decode prog_14_method_52_code 20 = .ok (.getfield 71, 3) := by decide +kernel
theorem d14_52_23 : decode prog_14_method_52_code 23 = .ok (.iload_n 2, 1) := by decide +kernel
theorem d14_52_24 : decode prog_14_method_52_code 24 = .ok (.baload, 1) := by decide +kernel
theorem d14_52_25 : decode prog_14_method_52_code 25 = .ok (.ifCond .ne 5, 3) := by decide +kernel
theorem d14_52_28 : decode prog_14_method_52_code 28 = .ok (.iconst 0, 1) := by decide +kernel
theorem d14_52_29 : decode prog_14_method_52_code 29 = .ok (.ireturn, 1) := by decide +kernel
theorem d14_52_30 : decode prog_14_method_52_code 30 = .ok (.iconst 0, 1) := by decide +kernel
theorem d14_52_31 : decode prog_14_method_52_code 31 = .ok (.istore_n 3, 1) := by decide +kernel
theorem d14_52_32 : decode prog_14_method_52_code 32 = .ok (.iload_n 3, 1) := by decide +kernel
theorem d14_52_33 : decode prog_14_method_52_code 33 = .ok (.aload_n 0, 1) := by decide +kernel
theorem d14_52_34 : decode prog_14_method_52_code 34 = .ok (.getfield 74, 3) := by decide +kernel
theorem d14_52_37 : decode prog_14_method_52_code 37 = .ok (.iload_n 2, 1) := by decide +kernel
theorem d14_52_38 : decode prog_14_method_52_code 38 = .ok (.iaload, 1) := by decide +kernel
theorem d14_52_39 : decode prog_14_method_52_code 39 = .ok (.if_icmp .ge 22, 3) := by decide +kernel
theorem d14_52_42 : decode prog_14_method_52_code 42 = .ok (.aload_n 0, 1) := by decide +kernel
theorem d14_52_43 : decode prog_14_method_52_code 43 = .ok (.iload_n 2, 1) := by decide +kernel
theorem d14_52_44 : decode prog_14_method_52_code 44 = .ok (.iload_n 3, 1) := by decide +kernel
theorem d14_52_45 : decode prog_14_method_52_code 45 = .ok (.iconst (-1), 1) := by decide +kernel
theorem d14_52_46 : decode prog_14_method_52_code 46 = .ok (.iconst 0, 1) := by decide +kernel
theorem d14_52_47 : decode prog_14_method_52_code 47 = .ok (.invokevirtual 225, 3) := by decide +kernel
theorem d14_52_50 : decode prog_14_method_52_code 50 = .ok (.ifCond .ne 5, 3) := by decide +kernel
theorem d14_52_53 : decode prog_14_method_52_code 53 = .ok (.iconst 0, 1) := by decide +kernel
theorem d14_52_54 : decode prog_14_method_52_code 54 = .ok (.ireturn, 1) := by decide +kernel
theorem d14_52_55 : decode prog_14_method_52_code 55 = .ok (.iinc 3 1, 3) := by decide +kernel
theorem d14_52_58 : decode prog_14_method_52_code 58 = .ok (.goto (-26), 3) := by decide +kernel
theorem d14_52_61 : decode prog_14_method_52_code 61 = .ok (.aload_n 0, 1) := by decide +kernel
theorem d14_52_62 : decode prog_14_method_52_code 62 = .ok (.getfield 41, 3) := by decide +kernel
theorem d14_52_65 : decode prog_14_method_52_code 65 = .ok (.iload_n 2, 1) := by decide +kernel
theorem d14_52_66 : decode prog_14_method_52_code 66 = .ok (.iaload, 1) := by decide +kernel
theorem d14_52_67 : decode prog_14_method_52_code 67 = .ok (.istore_n 2, 1) := by decide +kernel
theorem d14_52_68 : decode prog_14_method_52_code 68 = .ok (.goto (-53), 3) := by decide +kernel
theorem d14_52_71 : decode prog_14_method_52_code 71 = .ok (.aload_n 0, 1) := by decide +kernel
theorem d14_52_72 : decode prog_14_method_52_code 72 = .ok (.bipush 31, 2) := by decide +kernel
theorem d14_52_74 : decode prog_14_method_52_code 74 = .ok (.iload_n 1, 1) := by decide +kernel
theorem d14_52_75 : decode prog_14_method_52_code 75 = .ok (.invokevirtual 243, 3) := by decide +kernel
theorem d14_52_78 : decode prog_14_method_52_code 78 = .ok (.iconst 1, 1) := by decide +kernel
theorem d14_52_79 : decode prog_14_method_52_code 79 = .ok (.ireturn, 1) := by decide +kernel
theorem d14_53_0 : decode prog_14_method_53_code 0 = .ok (.iconst 0, 1) := by decide +kernel
theorem d14_53_1 : decode prog_14_method_53_code 1 = .ok (.istore_n 2, 1) := by decide +kernel
theorem d14_53_2 : decode prog_14_method_53_code 2 = .ok (.iconst 0, 1) := by decide +kernel
theorem d14_53_3 : decode prog_14_method_53_code 3 = .ok (.istore_n 3, 1) := by decide +kernel
theorem d14_53_4 : decode prog_14_method_53_code 4 = .ok (.iload_n 3, 1) := by decide +kernel
theorem d14_53_5 : decode prog_14_method_53_code 5 = .ok (.bipush 95, 2) := by decide +kernel
theorem d14_53_7 : decode prog_14_method_53_code 7 = .ok (.if_icmp .ge 62, 3) := by decide +kernel
theorem d14_53_10 : decode prog_14_method_53_code 10 = .ok (.aload_n 0, 1) := by decide +kernel
theorem d14_53_11 : decode prog_14_method_53_code 11 = .ok (.getfield 56, 3) := by decide +kernel
theorem d14_53_14 : decode prog_14_method_53_code 14 = .ok (.bipush 95, 2) := by decide +kernel
theorem d14_53_16 : decode prog_14_method_53_code 16 = .ok (.iload_n 1, 1) := by decide +kernel
theorem d14_53_17 : decode prog_14_method_53_code 17 = .ok (.imul, 1) := by decide +kernel
theorem d14_53_18 : decode prog_14_method_53_code 18 = .ok (.iload_n 3, 1) := by decide +kernel
theorem d14_53_19 : decode prog_14_method_53_code 19 = .ok (.iadd, 1) := by decide +kernel
theorem d14_53_20 : decode prog_14_method_53_code 20 = .ok (.baload, 1) := by decide +kernel
theorem d14_53_21 : decode prog_14_method_53_code 21 = .ok (.ifCond .eq 42, 3) := by decide +kernel
theorem d14_53_24 : decode prog_14_method_53_code 24 = .ok (.iload_n 2, 1) := by decide +kernel
theorem d14_53_25 : decode prog_14_method_53_code 25 = .ok (.iconst 4, 1) := by decide +kernel
theorem d14_53_26 : decode prog_14_method_53_code 26 = .ok (.if_icmp .ne 5, 3) := by decide +kernel
theorem d14_53_29 : decode prog_14_method_53_code 29 = .ok (.iconst 0, 1) := by decide +kernel
theorem d14_53_30 : decode prog_14_method_53_code 30 = .ok (.ireturn, 1) := by decide +kernel
theorem d14_53_31 : decode prog_14_method_53_code 31 = .ok (.aload_n 0, 1) := by decide +kernel
theorem d14_53_32 : decode prog_14_method_53_code 32 = .ok (.getfield 77, 3) := by decide +kernel
theorem d14_53_35 : decode prog_14_method_53_code 35 = .ok (.bipush 48, 2) := by decide +kernel
theorem d14_53_37 : decode prog_14_method_53_code 37 = .ok (.iload_n 1, 1) := by decide +kernel
theorem d14_53_38 : decode prog_14_method_53_code 38 = .ok (.imul, 1) := by decide +kernel
theorem d14_53_39 : decode prog_14_method_53_code 39 = .ok (.bipush 12, 2) := by decide +kernel
theorem d14_53_41 : decode prog_14_method_53_code 41 = .ok (.iload_n 2, 1) := by decide +kernel
theorem d14_53_42 : decode prog_14_method_53_code 42 = .ok (.imul, 1) := by decide +kernel
theorem d14_53_43 : decode prog_14_method_53_code 43 = .ok (.iadd, 1) := by decide +kernel
theorem d14_53_44 : decode prog_14_method_53_code 44 = .ok (.iload_n 3, 1) := by decide +kernel
theorem d14_53_45 : decode prog_14_method_53_code 45 = .ok (.bipush 32, 2) := by decide +kernel
theorem d14_53_47 : decode prog_14_method_53_code 47 = .ok (.iadd, 1) := by decide +kernel
theorem d14_53_48 : decode prog_14_method_53_code 48 = .ok (.iastore, 1) := by decide +kernel
theorem d14_53_49 : decode prog_14_method_53_code 49 = .ok (.aload_n 0, 1) := by decide +kernel
theorem d14_53_50 : decode prog_14_method_53_code 50 = .ok (.getfield 80, 3) := by decide +kernel
theorem d14_53_53 : decode prog_14_method_53_code 53 = .ok (.iconst 4, 1) := by decide +kernel
theorem d14_53_54 : decode prog_14_method_53_code 54 = .ok (.iload_n 1, 1) := by decide +kernel
theorem d14_53_55 : decode prog_14_method_53_code 55 = .ok (.imul, 1) := by decide +kernel
theorem d14_53_56 : decode prog_14_method_53_code 56 = .ok (.iload_n 2, 1) := by decide +kernel
theorem d14_53_57 : decode prog_14_method_53_code 57 = .ok (.iadd, 1) := by decide +kernel
theorem d14_53_58 : decode prog_14_method_53_code 58 = .ok (.iconst 1, 1) := by decide +kernel
theorem d14_53_59 : decode prog_14_method_53_code 59 = .ok (.iastore, 1) := by decide +kernel
theorem d14_53_60 : decode prog_14_method_53_code 60 = .ok (.iinc 2 1, 3) := by decide +kernel
theorem d14_53_63 : decode prog_14_method_53_code 63 = .ok (.iinc 3 1, 3) := by decide +kernel
theorem d14_53_66 : decode prog_14_method_53_code 66 = .ok (.goto (-62), 3) := by decide +kernel
theorem d14_53_69 : decode prog_14_method_53_code 69 = .ok (.aload_n 0, 1) := by decide +kernel
theorem d14_53_70 : decode prog_14_method_53_code 70 = .ok (.getfield 74, 3) := by decide +kernel
theorem d14_53_73 : decode prog_14_method_53_code 73 = .ok (.iload_n 1, 1) := by decide +kernel
theorem d14_53_74 : decode prog_14_method_53_code 74 = .ok (.iload_n 2, 1) := by decide +kernel
theorem d14_53_75 : decode prog_14_method_53_code 75 = .ok (.iastore, 1) := by decide +kernel
theorem d14_53_76 : decode prog_14_method_53_code 76 = .ok (.iconst 1, 1) := by decide +kernel
theorem d14_53_77 : decode prog_14_method_53_code 77 = .ok (.ireturn, 1) := by decide +kernel
