theorem d20_49_0 : decode prog_20_method_49_code 0 = .ok (.lload_n 0, 1) := by decide +kernel
theorem d20_49_1 : decode prog_20_method_49_code 1 = .ok (.l2i, 1) := by decide +kernel
theorem d20_49_2 : decode prog_20_method_49_code 2 = .ok (.istore_n 2, 1) := by decide +kernel
theorem d20_49_3 : decode prog_20_method_49_code 3 = .ok (.iload_n 2, 1) := by decide +kernel
theorem d20_49_4 : decode prog_20_method_49_code 4 = .ok (.ifCond .ne 17, 3) := by decide +kernel
theorem d20_49_7 : decode prog_20_method_49_code 7 = .ok (.bipush 32, 2) := by decide +kernel
theorem d20_49_9 : decode prog_20_method_49_code 9 = .ok (.lload_n 0, 1) := by decide +kernel
theorem d20_49_10 : decode prog_20_method_49_code 10 = .ok (.bipush 32, 2) := by decide +kernel
theorem d20_49_12 : decode prog_20_method_49_code 12 = .ok (.lushr, 1) := by decide +kernel
theorem d20_49_13 : decode prog_20_method_49_code 13 = .ok (.l2i, 1) := by decide +kernel
theorem d20_49_14 : decode prog_20_method_49_code 14 = .ok (.invokestatic 311, 3) := by decide +kernel
theorem d20_49_17 : decode prog_20_method_49_code 17 = .ok (.iadd, 1) := by decide +kernel
theorem d20_49_18 : decode prog_20_method_49_code 18 = .ok (.goto 7, 3) := by decide +kernel
theorem d20_49_21 : decode prog_20_method_49_code 21 = .ok (.iload_n 2, 1) := by decide +kernel
theorem d20_49_22 : decode prog_20_method_49_code 22 = .ok (.invokestatic 311, 3) := by decide +kernel
theorem d20_49_25 : decode prog_20_method_49_code 25 = .ok (.ireturn, 1) := by decide +kernel
theorem d18_48_0 : decode prog_18_method_48_code 0 = .ok (.iload_n 0, 1) := by decide +kernel
theorem d18_48_1 : decode prog_18_method_48_code 1 = .ok (.iconst (-1), 1) := by decide +kernel
theorem d18_48_2 : decode prog_18_method_48_code 2 = .ok (.ixor, 1) := by decide +kernel
theorem d18_48_3 : decode prog_18_method_48_code 3 = .ok (.iload_n 0, 1) := by decide +kernel
theorem d18_48_4 : decode prog_18_method_48_code 4 = .ok (.iconst 1, 1) := by decide +kernel
theorem d18_48_5 : decode prog_18_method_48_code 5 = .ok (.isub, 1) := by decide +kernel
theorem d18_48_6 : decode prog_18_method_48_code 6 = .ok (.iand, 1) := by decide +kernel
theorem d18_48_7 : decode prog_18_method_48_code 7 = .ok (.istore_n 0, 1) := by decide +kernel
theorem d18_48_8 : decode prog_18_method_48_code 8 = .ok (.iload_n 0, 1) := by decide +kernel
theorem d18_48_9 : decode prog_18_method_48_code 9 = .ok (.ifCond .gt 8, 3) := by decide +kernel
theorem d18_48_12 : decode prog_18_method_48_code 12 = .ok (.iload_n 0, 1) := by decide +kernel
theorem d18_48_13 : decode prog_18_method_48_code 13 = .ok (.bipush 32, 2) := by decide +kernel
theorem d18_48_15 : decode prog_18_method_48_code 15 = .ok (.iand, 1) := by decide +kernel
theorem d18_48_16 : decode prog_18_method_48_code 16 = .ok (.ireturn, 1) := by decide +kernel
theorem d18_48_17 : decode prog_18_method_48_code 17 = .ok (.iconst 1, 1) := by decide +kernel
theorem d18_48_18 : decode prog_18_method_48_code 18 = .ok (.istore_n 1, 1) := by decide +kernel
theorem d18_48_19 : decode prog_18_method_48_code 19 = .ok (.iload_n 0, 1) := by decide +kernel
theorem d18_48_20 : decode prog_18_method_48_code 20 = .ok (.ldc_w 264, 3) := by decide +kernel
theorem d18_48_23 : decode prog_18_method_48_code 23 = .ok (.if_icmp .le 11, 3) := by decide +kernel
theorem d18_48_26 : decode prog_18_method_48_code 26 = .ok (.iinc 1 16, 3) := by decide +kernel
theorem d18_48_29 : decode prog_18_method_48_code 29 = .ok (.iload_n 0, 1) := by decide +kernel
theorem d18_48_30 : decode prog_18_method_48_code 30 = .ok (.bipush 16, 2) := by decide +kernel
theorem d18_48_32 : decode prog_18_method_48_code 32 = .ok (.iushr, 1) := by decide +kernel
theorem d18_48_33 : decode prog_18_method_48_code 33 = .ok (.istore_n 0, 1) := by decide +kernel
theorem d18_48_34 : decode prog_18_method_48_code 34 = .ok (.iload_n 0, 1) := by decide +kernel
theorem d18_48_35 : decode prog_18_method_48_code 35 = .ok (.sipush 256, 3) := by decide +kernel
theorem d18_48_38 : decode prog_18_method_48_code 38 = .ok (.if_icmp .le 11, 3) := by decide +kernel
theorem d18_48_41 : decode prog_18_method_48_code 41 = .ok (.iinc 1 8, 3) := by decide +kernel
theorem d18_48_44 : decode prog_18_method_48_code 44 = .ok (.iload_n 0, 1) := by decide +kernel
theorem d18_48_45 : decode prog_18_method_48_code 45 = .ok (.bipush 8, 2) := by decide +kernel
theorem d18_48_47 : decode prog_18_method_48_code 47 = .ok (.iushr, 1) := by decide +kernel
theorem d18_48_48 : decode prog_18_method_48_code 48 = .ok (.istore_n 0, 1) := by decide +kernel
theorem d18_48_49 : decode prog_18_method_48_code 49 = .ok (.iload_n 0, 1) := by decide +kernel
theorem d18_48_50 : decode prog_18_method_48_code 50 = .ok (.bipush 16, 2) := by decide +kernel
theorem d18_48_52 : decode prog_18_method_48_code 52 = .ok (.if_icmp .le 10, 3) := by decide +kernel
theorem d18_48_55 : decode prog_18_method_48_code 55 = .ok (.iinc 1 4, 3) := by decide +kernel
theorem d18_48_58 : decode prog_18_method_48_code 58 = .ok (.iload_n 0, 1) := by decide +kernel
theorem d18_48_59 : decode prog_18_method_48_code 59 = .ok (.iconst 4, 1) := by decide +kernel
theorem d18_48_60 : decode prog_18_method_48_code 60 = .ok (.iushr, 1) := by decide +kernel
theorem d18_48_61 : decode prog_18_method_48_code 61 = .ok (.istore_n 0, 1) := by decide +kernel
theorem d18_48_62 : decode prog_18_method_48_code 62 = .ok (.iload_n 0, 1) := by decide +kernel
theorem d18_48_63 : decode prog_18_method_48_code 63 = .ok (.iconst 4, 1) := by decide +kernel
theorem d18_48_64 : decode prog_18_method_48_code 64 = .ok (.if_icmp .le 10, 3) := by decide +kernel
theorem d18_48_67 : decode prog_18_method_48_code 67 = .ok (.iinc 1 2, 3) := by decide +kernel
theorem d18_48_70 : decode prog_18_method_48_code 70 = .ok (.iload_n 0, 1) := by decide +kernel
theorem d18_48_71 : decode prog_18_method_48_code 71 = .ok (.iconst 2, 1) := by decide +kernel
theorem d18_48_72 : decode prog_18_method_48_code 72 = .ok (.iushr, 1) := by decide +kernel
theorem d18_48_73 : decode prog_18_method_48_code 73 = .ok (.istore_n 0, 1) := by decide +kernel
theorem d18_48_74 : decode prog_18_method_48_code 74 = .ok (.iload_n 1, 1) := by decide +kernel
theorem d18_48_75 : decode prog_18_method_48_code 75 = .ok (.iload_n 0, 1) := by decide +kernel
theorem d18_48_76 : decode prog_18_method_48_code 76 = .ok (.iconst 1, 1) := by decide +kernel
theorem d18_48_77 : decode prog_18_method_48_code 77 = .ok (.iushr, 1) := by decide +kernel
theorem d18_48_78 : decode prog_18_method_48_code 78 = .ok (.iadd, 1) := by decide +kernel
theorem d18_48_79 : decode prog_18_method_48_code 79 = .ok (.ireturn, 1) := by decide +kernel
theorem d20_48_0 : decode prog_20_method_48_code 0 = .ok (.lload_n 0, 1) := by decide +kernel
theorem d20_48_1 : decode prog_20_method_48_code 1 = .ok (.bipush 32, 2) := by decide +kernel
theorem d20_48_3 : decode prog_20_method_48_code 3 = .ok (.lushr, 1) := by decide +kernel
theorem d20_48_4 : decode prog_20_method_48_code 4 = .ok (.l2i, 1) := by decide +kernel
theorem d20_48_5 : decode prog_20_method_48_code 5 = .ok (.istore_n 2, 1) := by decide +kernel
theorem d20_48_6 : decode prog_20_method_48_code 6 = .ok (.iload_n 2, 1) := by decide +kernel
theorem d20_48_7 : decode prog_20_method_48_code 7 = .ok (.ifCond .ne 14, 3) := by decide +kernel
theorem d20_48_10 : decode prog_20_method_48_code 10 = .ok (.bipush 32, 2) := by decide +kernel
theorem d20_48_12 : decode prog_20_method_48_code 12 = .ok (.lload_n 0, 1) := by decide +kernel
theorem d20_48_13 : decode prog_20_method_48_code 13 = .ok (.l2i, 1) := by decide +kernel
theorem d20_48_14 : decode prog_20_method_48_code 14 = .ok (.invokestatic 308, 3) := by decide +kernel
theorem d20_48_17 : decode prog_20_method_48_code 17 = .ok (.iadd, 1) := by decide +kernel
theorem d20_48_18 : decode prog_20_method_48_code 18 = .ok (.goto 7, 3) := by decide +kernel
theorem d20_48_21 : decode prog_20_method_48_code 21 = .ok (.iload_n 2, 1) := by decide +kernel
theorem d20_48_22 : decode prog_20_method_48_code 22 = .ok (.invokestatic 308, 3) := by decide +kernel
theorem d20_48_25 : decode prog_20_method_48_code 25 = .ok (.ireturn, 1) := by decide +kernel
theorem d18_47_0 : decode prog_18_method_47_code 0 = .ok (.iload_n 0, 1) := by decide +kernel
theorem d18_47_1 : decode prog_18_method_47_code 1 = .ok (.ifCond .gt 14, 3) := by decide +kernel
theorem d18_47_4 : decode prog_18_method_47_code 4 = .ok (.iload_n 0, 1) := by decide +kernel
theorem d18_47_5 : decode prog_18_method_47_code 5 = .ok (.ifCond .ne 8, 3) := by decide +kernel
theorem d18_47_8 : decode prog_18_method_47_code 8 = .ok (.bipush 32, 2) := by decide +kernel
theorem d18_47_10 : decode prog_18_method_47_code 10 = .ok (.goto 4, 3) := by decide +kernel
theorem d18_47_13 : decode prog_18_method_47_code 13 = .ok (.iconst 0, 1) := by decide +kernel
theorem d18_47_14 : decode prog_18_method_47_code 14 = .ok (.ireturn, 1) := by decide +kernel
theorem d18_47_15 : decode prog_18_method_47_code 15 = .ok (.bipush 31, 2) := by decide +kernel
theorem d18_47_17 : decode prog_18_method_47_code 17 = .ok (.istore_n 1, 1) := by decide +kernel
theorem d18_47_18 : decode prog_18_method_47_code 18 = .ok (.iload_n 0, 1) := by decide +kernel
theorem d18_47_19 : decode prog_18_method_47_code 19 = .ok (.ldc_w 264, 3) := by decide +kernel
theorem d18_47_22 : decode prog_18_method_47_code 22 = .ok (.if_icmp .lt 11, 3) := by decide +kernel
theorem d18_47_25 : decode prog_18_method_47_code 25 = .ok (.iinc 1 (-16), 3) := by decide +kernel
theorem d18_47_28 : decode prog_18_method_47_code 28 = .ok (.iload_n 0, 1) := by decide +kernel
theorem d18_47_29 : decode prog_18_method_47_code 29 = .ok (.bipush 16, 2) := by decide +kernel
theorem d18_47_31 : decode prog_18_method_47_code 31 = .ok (.iushr, 1) := by decide +kernel
theorem d18_47_32 : decode prog_18_method_47_code 32 = .ok (.istore_n 0, 1) := by decide +kernel
theorem d18_47_33 : decode prog_18_method_47_code 33 = .ok (.iload_n 0, 1) := by decide +kernel
theorem d18_47_34 : decode prog_18_method_47_code 34 = .ok (.sipush 256, 3) := by decide +kernel
theorem d18_47_37 : decode prog_18_method_47_code 37 = .ok (.if_icmp .lt 11, 3) := by decide +kernel
theorem d18_47_40 : decode prog_18_method_47_code 40 = .ok (.iinc 1 (-8), 3) := by decide +kernel
theorem d18_47_43 : decode prog_18_method_47_code 43 = .ok (.iload_n 0, 1) := by decide +kernel
theorem d18_47_44 : decode prog_18_method_47_code 44 = .ok (.bipush 8, 2) := by decide +kernel
theorem d18_47_46 : decode prog_18_method_47_code 46 = .ok (.iushr, 1) := by decide +kernel
theorem d18_47_47 : decode prog_18_method_47_code 47 = .ok (.istore_n 0, 1) := by decide +kernel
theorem d18_47_48 : decode prog_18_method_47_code 48 = .ok (.iload_n 0, 1) := by decide +kernel
theorem d18_47_49 : decode prog_18_method_47_code 49 = .ok (.bipush 16, 2) := by decide +kernel
theorem d18_47_51 : decode prog_18_method_47_code 51 = .ok (.if_icmp .lt 10, 3) := by decide +kernel
theorem d18_47_54 : decode prog_18_method_47_code 54 = .ok (.iinc 1 (-4), 3) := by decide +kernel
theorem d18_47_57 : decode prog_18_method_47_code 57 = .ok (.iload_n 0, 1) := by decide +kernel
theorem d18_47_58 : decode prog_18_method_47_code 58 = .ok (.iconst 4, 1) := by decide +kernel
theorem d18_47_59 : decode prog_18_method_47_code 59 = .ok (.iushr, 1) := by decide +kernel
theorem d18_47_60 : decode prog_18_method_47_code 60 = .ok (.istore_n 0, 1) := by decide +kernel
theorem d18_47_61 : decode prog_18_method_47_code 61 = .ok (.iload_n 0, 1) := by decide +kernel
theorem d18_47_62 : decode prog_18_method_47_code 62 = .ok (.iconst 4, 1) := by decide +kernel
theorem d18_47_63 : decode prog_18_method_47_code 63 = .ok (.if_icmp .lt 10, 3) := by decide +kernel
theorem d18_47_66 : decode prog_18_method_47_code 66 = .ok (.iinc 1 (-2), 3) := by decide +kernel
theorem d18_47_69 : decode prog_18_method_47_code 69 = .ok (.iload_n 0, 1) := by decide +kernel
theorem d18_47_70 : decode prog_18_method_47_code 70 = .ok (.iconst 2, 1) := by decide +kernel
theorem d18_47_71 : decode prog_18_method_47_code 71 = .ok (.iushr, 1) := by decide +kernel
theorem d18_47_72 : decode prog_18_method_47_code 72 = .ok (.istore_n 0, 1) := by decide +kernel
theorem d18_47_73 : decode prog_18_method_47_code 73 = .ok (.iload_n 1, 1) := by decide +kernel
theorem d18_47_74 : decode prog_18_method_47_code 74 = .ok (.iload_n 0, 1) := by decide +kernel
theorem d18_47_75 : decode prog_18_method_47_code 75 = .ok (.iconst 1, 1) := by decide +kernel
theorem d18_47_76 : decode prog_18_method_47_code 76 = .ok (.iushr, 1) := by decide +kernel
theorem d18_47_77 : decode prog_18_method_47_code 77 = .ok (.isub, 1) := by decide +kernel
theorem d18_47_78 : decode prog_18_method_47_code 78 = .ok (.ireturn, 1) := by decide +kernel
