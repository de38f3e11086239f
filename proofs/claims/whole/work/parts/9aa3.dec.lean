theorem d14_49_0 : decode prog_14_method_49_code 0 = .ok (.iconst 1, 1) := by decide +kernel
theorem d14_49_1 : decode prog_14_method_49_code 1 = .ok (.istore 4, 2) := by decide +kernel
theorem d14_49_3 : decode prog_14_method_49_code 3 = .ok (.bipush 48, 2) := by decide +kernel
theorem d14_49_5 : decode prog_14_method_49_code 5 = .ok (.iload_n 1, 1) := by decide +kernel
theorem d14_49_6 : decode prog_14_method_49_code 6 = .ok (.imul, 1) := by decide +kernel
theorem d14_49_7 : decode prog_14_method_49_code 7 = .ok (.bipush 12, 2) := by decide +kernel
theorem d14_49_9 : decode prog_14_method_49_code 9 = .ok (.iload_n 2, 1) := by decide +kernel
theorem d14_49_10 : decode prog_14_method_49_code 10 = .ok (.imul, 1) := by decide +kernel
theorem d14_49_11 : decode prog_14_method_49_code 11 = .ok (.iadd, 1) := by decide +kernel
theorem d14_49_12 : decode prog_14_method_49_code 12 = .ok (.istore 5, 2) := by decide +kernel
theorem d14_49_14 : decode prog_14_method_49_code 14 = .ok (.iconst 0, 1) := by decide +kernel
theorem d14_49_15 : decode prog_14_method_49_code 15 = .ok (.istore 6, 2) := by decide +kernel
theorem d14_49_17 : decode prog_14_method_49_code 17 = .ok (.iload 6, 2) := by decide +kernel
theorem d14_49_19 : decode prog_14_method_49_code 19 = .ok (.iconst 2, 1) := by decide +kernel
theorem d14_49_20 : decode prog_14_method_49_code 20 = .ok (.iadd, 1) := by decide +kernel
theorem d14_49_21 : decode prog_14_method_49_code 21 = .ok (.aload_n 0, 1) := by decide +kernel
theorem d14_49_22 : decode prog_14_method_49_code 22 = .ok (.getfield 80, 3) := by decide +kernel
theorem d14_49_25 : decode prog_14_method_49_code 25 = .ok (.iconst 4, 1) := by decide +kernel
theorem d14_49_26 : decode prog_14_method_49_code 26 = .ok (.iload_n 1, 1) := by decide +kernel
theorem d14_49_27 : decode prog_14_method_49_code 27 = .ok (.imul, 1) := by decide +kernel
theorem d14_49_28 : decode prog_14_method_49_code 28 = .ok (.iload_n 2, 1) := by decide +kernel
theorem d14_49_29 : decode prog_14_method_49_code 29 = .ok (.iadd, 1) := by decide +kernel
theorem d14_49_30 : decode prog_14_method_49_code 30 = .ok (.iaload, 1) := by decide +kernel
theorem d14_49_31 : decode prog_14_method_49_code 31 = .ok (.if_icmp .ge 63, 3) := by decide +kernel
theorem d14_49_34 : decode prog_14_method_49_code 34 = .ok (.iload 4, 2) := by decide +kernel
theorem d14_49_36 : decode prog_14_method_49_code 36 = .ok (.ifCond .eq 49, 3) := by decide +kernel
theorem d14_49_39 : decode prog_14_method_49_code 39 = .ok (.aload_n 0, 1) := by decide +kernel
theorem d14_49_40 : decode prog_14_method_49_code 40 = .ok (.iload_n 3, 1) := by decide +kernel
theorem d14_49_41 : decode prog_14_method_49_code 41 = .ok (.aload_n 0, 1) := by decide +kernel
theorem d14_49_42 : decode prog_14_method_49_code 42 = .ok (.getfield 77, 3) := by decide +kernel
theorem d14_49_45 : decode prog_14_method_49_code 45 = .ok (.iload 5, 2) := by decide +kernel
theorem d14_49_47 : decode prog_14_method_49_code 47 = .ok (.iload 6, 2) := by decide +kernel
theorem d14_49_49 : decode prog_14_method_49_code 49 = .ok (.iadd, 1) := by decide +kernel
theorem d14_49_50 : decode prog_14_method_49_code 50 = .ok (.iaload, 1) := by decide +kernel
theorem d14_49_51 : decode prog_14_method_49_code 51 = .ok (.aload_n 0, 1) := by decide +kernel
theorem d14_49_52 : decode prog_14_method_49_code 52 = .ok (.getfield 77, 3) := by decide +kernel
theorem d14_49_55 : decode prog_14_method_49_code 55 = .ok (.iload 5, 2) := by decide +kernel
theorem d14_49_57 : decode prog_14_method_49_code 57 = .ok (.iload 6, 2) := by decide +kernel
theorem d14_49_59 : decode prog_14_method_49_code 59 = .ok (.iadd, 1) := by decide +kernel
theorem d14_49_60 : decode prog_14_method_49_code 60 = .ok (.iconst 1, 1) := by decide +kernel
theorem d14_49_61 : decode prog_14_method_49_code 61 = .ok (.iadd, 1) := by decide +kernel
theorem d14_49_62 : decode prog_14_method_49_code 62 = .ok (.iaload, 1) := by decide +kernel
theorem d14_49_63 : decode prog_14_method_49_code 63 = .ok (.aload_n 0, 1) := by decide +kernel
theorem d14_49_64 : decode prog_14_method_49_code 64 = .ok (.getfield 77, 3) := by decide +kernel
theorem d14_49_67 : decode prog_14_method_49_code 67 = .ok (.iload 5, 2) := by decide +kernel
theorem d14_49_69 : decode prog_14_method_49_code 69 = .ok (.iload 6, 2) := by decide +kernel
theorem d14_49_71 : decode prog_14_method_49_code 71 = .ok (.iadd, 1) := by decide +kernel
theorem d14_49_72 : decode prog_14_method_49_code 72 = .ok (.iconst 2, 1) := by decide +kernel
theorem d14_49_73 : decode prog_14_method_49_code 73 = .ok (.iadd, 1) := by decide +kernel
theorem d14_49_74 : decode prog_14_method_49_code 74 = .ok (.iaload, 1) := by decide +kernel
theorem d14_49_75 : decode prog_14_method_49_code 75 = .ok (.invokevirtual 126, 3) := by decide +kernel
theorem d14_49_78 : decode prog_14_method_49_code 78 = .ok (.ifCond .eq 7, 3) := by decide +kernel
theorem d14_49_81 : decode prog_14_method_49_code 81 = .ok (.iconst 1, 1) := by decide +kernel
theorem d14_49_82 : decode prog_14_method_49_code 82 = .ok (.goto 4, 3) := by decide +kernel
theorem d14_49_85 : decode prog_14_method_49_code 85 = .ok (.iconst 0, 1) := by decide +kernel
theorem d14_49_86 : decode prog_14_method_49_code 86 = .ok (.istore 4, 2) := by decide +kernel
theorem d14_49_88 : decode prog_14_method_49_code 88 = .ok (.iinc 6 1, 3) := by decide +kernel
theorem d14_49_91 : decode prog_14_method_49_code 91 = .ok (.goto (-74), 3) := by decide +kernel
theorem d14_49_94 : decode prog_14_method_49_code 94 = .ok (.iload 4, 2) := by decide +kernel
theorem d14_49_96 : decode prog_14_method_49_code 96 = .ok (.ireturn, 1) := by decide +kernel
theorem d14_50_0 : decode prog_14_method_50_code 0 = .ok (.iload_n 1, 1) := by decide +kernel
theorem d14_50_1 : decode prog_14_method_50_code 1 = .ok (.ifCond .ge 7, 3) := by decide +kernel
theorem d14_50_4 : decode prog_14_method_50_code 4 = .ok (.iconst 1, 1) := by decide +kernel
theorem d14_50_5 : decode prog_14_method_50_code 5 = .ok (.goto 4, 3) := by decide +kernel
theorem d14_50_8 : decode prog_14_method_50_code 8 = .ok (.iconst 0, 1) := by decide +kernel
theorem d14_50_9 : decode prog_14_method_50_code 9 = .ok (.istore_n 3, 1) := by decide +kernel
theorem d14_50_10 : decode prog_14_method_50_code 10 = .ok (.iconst 0, 1) := by decide +kernel
theorem d14_50_11 : decode prog_14_method_50_code 11 = .ok (.istore 4, 2) := by decide +kernel
theorem d14_50_13 : decode prog_14_method_50_code 13 = .ok (.iload 4, 2) := by decide +kernel
theorem d14_50_15 : decode prog_14_method_50_code 15 = .ok (.aload_n 0, 1) := by decide +kernel
theorem d14_50_16 : decode prog_14_method_50_code 16 = .ok (.getfield 74, 3) := by decide +kernel
theorem d14_50_19 : decode prog_14_method_50_code 19 = .ok (.iload_n 2, 1) := by decide +kernel
theorem d14_50_20 : decode prog_14_method_50_code 20 = .ok (.iaload, 1) := by decide +kernel
theorem d14_50_21 : decode prog_14_method_50_code 21 = .ok (.if_icmp .ge 34, 3) := by decide +kernel
theorem d14_50_24 : decode prog_14_method_50_code 24 = .ok (.iload_n 1, 1) := by decide +kernel
theorem d14_50_25 : decode prog_14_method_50_code 25 = .ok (.ifCond .lt 30, 3) := by decide +kernel
theorem d14_50_28 : decode prog_14_method_50_code 28 = .ok (.iload_n 3, 1) := by decide +kernel
theorem d14_50_29 : decode prog_14_method_50_code 29 = .ok (.ifCond .ne 14, 3) := by decide +kernel
theorem d14_50_32 : decode prog_14_method_50_code 32 = .ok (.aload_n 0, 1) := by decide +kernel
theorem d14_50_33 : decode prog_14_method_50_code 33 = .ok (.iload_n 2, 1) := by decide +kernel
theorem d14_50_34 : decode prog_14_method_50_code 34 = .ok (.iload 4, 2) := by decide +kernel
theorem d14_50_36 : decode prog_14_method_50_code 36 = .ok (.iload_n 1, 1) := by decide +kernel
theorem d14_50_37 : decode prog_14_method_50_code 37 = .ok (.invokevirtual 228, 3) := by decide +kernel
theorem d14_50_40 : decode prog_14_method_50_code 40 = .ok (.ifCond .eq 7, 3) := by decide +kernel
theorem d14_50_43 : decode prog_14_method_50_code 43 = .ok (.iconst 1, 1) := by decide +kernel
theorem d14_50_44 : decode prog_14_method_50_code 44 = .ok (.goto 4, 3) := by decide +kernel
theorem d14_50_47 : decode prog_14_method_50_code 47 = .ok (.iconst 0, 1) := by decide +kernel
theorem d14_50_48 : decode prog_14_method_50_code 48 = .ok (.istore_n 3, 1) := by decide +kernel
theorem d14_50_49 : decode prog_14_method_50_code 49 = .ok (.iinc 4 1, 3) := by decide +kernel
theorem d14_50_52 : decode prog_14_method_50_code 52 = .ok (.goto (-39), 3) := by decide +kernel
theorem d14_50_55 : decode prog_14_method_50_code 55 = .ok (.iload_n 3, 1) := by decide +kernel
theorem d14_50_56 : decode prog_14_method_50_code 56 = .ok (.ireturn, 1) := by decide +kernel
