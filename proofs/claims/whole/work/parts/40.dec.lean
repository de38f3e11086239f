theorem d10_3_0 : decode prog_10_method_3_code 0 = .ok (.iconst 0, 1) := by decide +kernel
theorem d10_3_1 : decode prog_10_method_3_code 1 = .ok (.istore_n 2, 1) := by decide +kernel
theorem d10_3_2 : decode prog_10_method_3_code 2 = .ok (.iload_n 2, 1) := by decide +kernel
theorem d10_3_3 : decode prog_10_method_3_code 3 = .ok (.aload_n 1, 1) := by decide +kernel
theorem d10_3_4 : decode prog_10_method_3_code 4 = .ok (.getfield 10, 3) := by decide +kernel
theorem d10_3_7 : decode prog_10_method_3_code 7 = .ok (.invokevirtual 24, 3) := by decide +kernel
theorem d10_3_10 : decode prog_10_method_3_code 10 = .ok (.if_icmp .ge 45, 3) := by decide +kernel
theorem d10_3_13 : decode prog_10_method_3_code 13 = .ok (.aload_n 1, 1) := by decide +kernel
theorem d10_3_14 : decode prog_10_method_3_code 14 = .ok (.getfield 10, 3) := by decide +kernel
theorem d10_3_17 : decode prog_10_method_3_code 17 = .ok (.iload_n 2, 1) := by decide +kernel
theorem d10_3_18 : decode prog_10_method_3_code 18 = .ok (.invokevirtual 28, 3) := by decide +kernel
theorem d10_3_21 : decode prog_10_method_3_code 21 = .ok (.checkcast 32, 3) := by decide +kernel
theorem d10_3_24 : decode prog_10_method_3_code 24 = .ok (.getfield 34, 3) := by decide +kernel
theorem d10_3_27 : decode prog_10_method_3_code 27 = .ok (.ifCond .eq 22, 3) := by decide +kernel
theorem d10_3_30 : decode prog_10_method_3_code 30 = .ok (.aload_n 0, 1) := by decide +kernel
theorem d10_3_31 : decode prog_10_method_3_code 31 = .ok (.getfield 10, 3) := by decide +kernel
theorem d10_3_34 : decode prog_10_method_3_code 34 = .ok (.aload_n 1, 1) := by decide +kernel
theorem d10_3_35 : decode prog_10_method_3_code 35 = .ok (.getfield 10, 3) := by decide +kernel
theorem d10_3_38 : decode prog_10_method_3_code 38 = .ok (.iload_n 2, 1) := by decide +kernel
theorem d10_3_39 : decode prog_10_method_3_code 39 = .ok (.invokevirtual 28, 3) := by decide +kernel
theorem d10_3_42 : decode prog_10_method_3_code 42 = .ok (.checkcast 32, 3) := by decide +kernel
theorem d10_3_45 : decode prog_10_method_3_code 45 = .ok (.invokevirtual 20, 3) := by decide +kernel
theorem d10_3_48 : decode prog_10_method_3_code 48 = .ok (.pop, 1) := by decide +kernel
theorem d10_3_49 : decode prog_10_method_3_code 49 = .ok (.iinc 2 1, 3) := by decide +kernel
theorem d10_3_52 : decode prog_10_method_3_code 52 = .ok (.goto (-50), 3) := by decide +kernel
theorem d10_3_55 : decode prog_10_method_3_code 55 = .ok (.return_, 1) := by decide +kernel
theorem d1_27_0 : decode prog_1_method_27_code 0 = .ok (.aload_n 0, 1) := by decide +kernel
theorem d1_27_1 : decode prog_1_method_27_code 1 = .ok (.getfield 34, 3) := by decide +kernel
theorem d1_27_4 : decode prog_1_method_27_code 4 = .ok (.invokevirtual 129, 3) := by decide +kernel
theorem d1_27_7 : decode prog_1_method_27_code 7 = .ok (.istore_n 1, 1) := by decide +kernel
theorem d1_27_8 : decode prog_1_method_27_code 8 = .ok (.iload_n 1, 1) := by decide +kernel
theorem d1_27_9 : decode prog_1_method_27_code 9 = .ok (.iconst 2, 1) := by decide +kernel
theorem d1_27_10 : decode prog_1_method_27_code 10 = .ok (.if_icmp .ge 4, 3) := by decide +kernel
theorem d1_27_13 : decode prog_1_method_27_code 13 = .ok (.return_, 1) := by decide +kernel
theorem d1_27_14 : decode prog_1_method_27_code 14 = .ok (.aload_n 0, 1) := by decide +kernel
theorem d1_27_15 : decode prog_1_method_27_code 15 = .ok (.getfield 34, 3) := by decide +kernel
theorem d1_27_18 : decode prog_1_method_27_code 18 = .ok (.iload_n 1, 1) := by decide +kernel
theorem d1_27_19 : decode prog_1_method_27_code 19 = .ok (.iconst 1, 1) := by decide +kernel
theorem d1_27_20 : decode prog_1_method_27_code 20 = .ok (.isub, 1) := by decide +kernel
theorem d1_27_21 : decode prog_1_method_27_code 21 = .ok (.invokevirtual 163, 3) := by decide +kernel
theorem d1_27_24 : decode prog_1_method_27_code 24 = .ok (.checkcast 22, 3) := by decide +kernel
theorem d1_27_27 : decode prog_1_method_27_code 27 = .ok (.astore_n 2, 1) := by decide +kernel
theorem d1_27_28 : decode prog_1_method_27_code 28 = .ok (.aload_n 0, 1) := by decide +kernel
theorem d1_27_29 : decode prog_1_method_27_code 29 = .ok (.getfield 34, 3) := by decide +kernel
theorem d1_27_32 : decode prog_1_method_27_code 32 = .ok (.iload_n 1, 1) := by decide +kernel
theorem d1_27_33 : decode prog_1_method_27_code 33 = .ok (.iconst 2, 1) := by decide +kernel
theorem d1_27_34 : decode prog_1_method_27_code 34 = .ok (.isub, 1) := by decide +kernel
theorem d1_27_35 : decode prog_1_method_27_code 35 = .ok (.invokevirtual 163, 3) := by decide +kernel
theorem d1_27_38 : decode prog_1_method_27_code 38 = .ok (.checkcast 22, 3) := by decide +kernel
theorem d1_27_41 : decode prog_1_method_27_code 41 = .ok (.astore_n 3, 1) := by decide +kernel
theorem d1_27_42 : decode prog_1_method_27_code 42 = .ok (.new 22, 3) := by decide +kernel
theorem d1_27_45 : decode prog_1_method_27_code 45 = .ok (.dup, 1) := by decide +kernel
theorem d1_27_46 : decode prog_1_method_27_code 46 = .ok (.aload_n 3, 1) := by decide +kernel
theorem d1_27_47 : decode prog_1_method_27_code 47 = .ok (.getfield 136, 3) := by decide +kernel
theorem d1_27_50 : decode prog_1_method_27_code 50 = .ok (.aload_n 2, 1) := by decide +kernel
theorem d1_27_51 : decode prog_1_method_27_code 51 = .ok (.getfield 136, 3) := by decide +kernel
theorem d1_27_54 : decode prog_1_method_27_code 54 = .ok (.invokestatic 166, 3) := by decide +kernel
theorem d1_27_57 : decode prog_1_method_27_code 57 = .ok (.iconst 1, 1) := by decide +kernel
theorem d1_27_58 : decode prog_1_method_27_code 58 = .ok (.iadd, 1) := by decide +kernel
theorem d1_27_59 : decode prog_1_method_27_code 59 = .ok (.invokespecial 24, 3) := by decide +kernel
theorem d1_27_62 : decode prog_1_method_27_code 62 = .ok (.astore 4, 2) := by decide +kernel
theorem d1_27_64 : decode prog_1_method_27_code 64 = .ok (.aload 4, 2) := by decide +kernel
theorem d1_27_66 : decode prog_1_method_27_code 66 = .ok (.aload_n 3, 1) := by decide +kernel
theorem d1_27_67 : decode prog_1_method_27_code 67 = .ok (.invokevirtual 172, 3) := by decide +kernel
theorem d1_27_70 : decode prog_1_method_27_code 70 = .ok (.aload 4, 2) := by decide +kernel
theorem d1_27_72 : decode prog_1_method_27_code 72 = .ok (.aload_n 2, 1) := by decide +kernel
theorem d1_27_73 : decode prog_1_method_27_code 73 = .ok (.invokevirtual 172, 3) := by decide +kernel
theorem d1_27_76 : decode prog_1_method_27_code 76 = .ok (.aload_n 0, 1) := by decide +kernel
theorem d1_27_77 : decode prog_1_method_27_code 77 = .ok (.dup, 1) := by decide +kernel
theorem d1_27_78 : decode prog_1_method_27_code 78 = .ok (.getfield 149, 3) := by decide +kernel
theorem d1_27_81 : decode prog_1_method_27_code 81 = .ok (.aload_n 3, 1) := by decide +kernel
theorem d1_27_82 : decode prog_1_method_27_code 82 = .ok (.invokevirtual 66, 3) := by decide +kernel
theorem d1_27_85 : decode prog_1_method_27_code 85 = .ok (.aload_n 2, 1) := by decide +kernel
theorem d1_27_86 : decode prog_1_method_27_code 86 = .ok (.invokevirtual 66, 3) := by decide +kernel
theorem d1_27_89 : decode prog_1_method_27_code 89 = .ok (.iadd, 1) := by decide +kernel
theorem d1_27_90 : decode prog_1_method_27_code 90 = .ok (.aload 4, 2) := by decide +kernel
theorem d1_27_92 : decode prog_1_method_27_code 92 = .ok (.invokevirtual 66, 3) := by decide +kernel
theorem d1_27_95 : decode prog_1_method_27_code 95 = .ok (.isub, 1) := by decide +kernel
theorem d1_27_96 : decode prog_1_method_27_code 96 = .ok (.iadd, 1) := by decide +kernel
theorem d1_27_97 : decode prog_1_method_27_code 97 = .ok (.putfield 149, 3) := by decide +kernel
theorem d1_27_100 : decode prog_1_method_27_code 100 = .ok (.aload 4, 2) := by decide +kernel
theorem d1_27_102 : decode prog_1_method_27_code 102 = .ok (.invokevirtual 66, 3) := by decide +kernel
theorem d1_27_105 : decode prog_1_method_27_code 105 = .ok (.ifCond .le 13, 3) := by decide +kernel
theorem d1_27_108 : decode prog_1_method_27_code 108 = .ok (.aload_n 0, 1) := by decide +kernel
theorem d1_27_109 : decode prog_1_method_27_code 109 = .ok (.getfield 34, 3) := by decide +kernel
theorem d1_27_112 : decode prog_1_method_27_code 112 = .ok (.aload 4, 2) := by decide +kernel
theorem d1_27_114 : decode prog_1_method_27_code 114 = .ok (.invokevirtual 156, 3) := by decide +kernel
theorem d1_27_117 : decode prog_1_method_27_code 117 = .ok (.pop, 1) := by decide +kernel
theorem d1_27_118 : decode prog_1_method_27_code 118 = .ok (.return_, 1) := by decide +kernel
