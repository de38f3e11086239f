theorem d20_50_0 : decode prog_20_method_50_code 0 = .ok (.lload_n 0, 1) := by decide +kernel
theorem d20_50_1 : decode prog_20_method_50_code 1 = .ok (.lload_n 0, 1) := by decide +kernel
theorem d20_50_2 : decode prog_20_method_50_code 2 = .ok (.iconst 1, 1) := by decide +kernel
theorem d20_50_3 : decode prog_20_method_50_code 3 = .ok (.lushr, 1) := by decide +kernel
theorem d20_50_4 : decode prog_20_method_50_code 4 = .ok (.ldc2_w 314, 3) := by decide +kernel
theorem d20_50_7 : decode prog_20_method_50_code 7 = .ok (.land, 1) := by decide +kernel
theorem d20_50_8 : decode prog_20_method_50_code 8 = .ok (.lsub, 1) := by decide +kernel
theorem d20_50_9 : decode prog_20_method_50_code 9 = .ok (.lstore_n 0, 1) := by decide +kernel
theorem d20_50_10 : decode prog_20_method_50_code 10 = .ok (.lload_n 0, 1) := by decide +kernel
theorem d20_50_11 : decode prog_20_method_50_code 11 = .ok (.ldc2_w 316, 3) := by decide +kernel
theorem d20_50_14 : decode prog_20_method_50_code 14 = .ok (.land, 1) := by decide +kernel
theorem d20_50_15 : decode prog_20_method_50_code 15 = .ok (.lload_n 0, 1) := by decide +kernel
theorem d20_50_16 : decode prog_20_method_50_code 16 = .ok (.iconst 2, 1) := by decide +kernel
theorem d20_50_17 : decode prog_20_method_50_code 17 = .ok (.lushr, 1) := by decide +kernel
theorem d20_50_18 : decode prog_20_method_50_code 18 = .ok (.ldc2_w 316, 3) := by decide +kernel
theorem d20_50_21 : decode prog_20_method_50_code 21 = .ok (.land, 1) := by decide +kernel
theorem d20_50_22 : decode prog_20_method_50_code 22 = .ok (.ladd, 1) := by decide +kernel
theorem d20_50_23 : decode prog_20_method_50_code 23 = .ok (.lstore_n 0, 1) := by decide +kernel
theorem d20_50_24 : decode prog_20_method_50_code 24 = .ok (.lload_n 0, 1) := by decide +kernel
theorem d20_50_25 : decode prog_20_method_50_code 25 = .ok (.lload_n 0, 1) := by decide +kernel
theorem d20_50_26 : decode prog_20_method_50_code 26 = .ok (.iconst 4, 1) := by decide +kernel
theorem d20_50_27 : decode prog_20_method_50_code 27 = .ok (.lushr, 1) := by decide +kernel
theorem d20_50_28 : decode prog_20_method_50_code 28 = .ok (.ladd, 1) := by decide +kernel
theorem d20_50_29 : decode prog_20_method_50_code 29 = .ok (.ldc2_w 318, 3) := by decide +kernel
theorem d20_50_32 : decode prog_20_method_50_code 32 = .ok (.land, 1) := by decide +kernel
theorem d20_50_33 : decode prog_20_method_50_code 33 = .ok (.lstore_n 0, 1) := by decide +kernel
theorem d20_50_34 : decode prog_20_method_50_code 34 = .ok (.lload_n 0, 1) := by decide +kernel
theorem d20_50_35 : decode prog_20_method_50_code 35 = .ok (.lload_n 0, 1) := by decide +kernel
theorem d20_50_36 : decode prog_20_method_50_code 36 = .ok (.bipush 8, 2) := by decide +kernel
theorem d20_50_38 : decode prog_20_method_50_code 38 = .ok (.lushr, 1) := by decide +kernel
theorem d20_50_39 : decode prog_20_method_50_code 39 = .ok (.ladd, 1) := by decide +kernel
theorem d20_50_40 : decode prog_20_method_50_code 40 = .ok (.lstore_n 0, 1) := by decide +kernel
theorem d20_50_41 : decode prog_20_method_50_code 41 = .ok (.lload_n 0, 1) := by decide +kernel
theorem d20_50_42 : decode prog_20_method_50_code 42 = .ok (.lload_n 0, 1) := by decide +kernel
theorem d20_50_43 : decode prog_20_method_50_code 43 = .ok (.bipush 16, 2) := by decide +kernel
theorem d20_50_45 : decode prog_20_method_50_code 45 = .ok (.lushr, 1) := by decide +kernel
theorem d20_50_46 : decode prog_20_method_50_code 46 = .ok (.ladd, 1) := by decide +kernel
theorem d20_50_47 : decode prog_20_method_50_code 47 = .ok (.lstore_n 0, 1) := by decide +kernel
theorem d20_50_48 : decode prog_20_method_50_code 48 = .ok (.lload_n 0, 1) := by decide +kernel
theorem d20_50_49 : decode prog_20_method_50_code 49 = .ok (.lload_n 0, 1) := by decide +kernel
theorem d20_50_50 : decode prog_20_method_50_code 50 = .ok (.bipush 32, 2) := by decide +kernel
theorem d20_50_52 : decode prog_20_method_50_code 52 = .ok (.lushr, 1) := by decide +kernel
theorem d20_50_53 : decode prog_20_method_50_code 53 = .ok (.ladd, 1) := by decide +kernel
theorem d20_50_54 : decode prog_20_method_50_code 54 = .ok (.lstore_n 0, 1) := by decide +kernel
theorem d20_50_55 : decode prog_20_method_50_code 55 = .ok (.lload_n 0, 1) := by decide +kernel
theorem d20_50_56 : decode prog_20_method_50_code 56 = .ok (.l2i, 1) := by decide +kernel
theorem d20_50_57 : decode prog_20_method_50_code 57 = .ok (.bipush 127, 2) := by decide +kernel
theorem d20_50_59 : decode prog_20_method_50_code 59 = .ok (.iand, 1) := by decide +kernel
theorem d20_50_60 : decode prog_20_method_50_code 60 = .ok (.ireturn, 1) := by decide +kernel
theorem d2_3_0 : decode prog_2_method_3_code 0 = .ok (.aload_n 0, 1) := by decide +kernel
theorem d2_3_1 : decode prog_2_method_3_code 1 = .ok (.invokestatic 13, 3) := by decide +kernel
theorem d2_3_4 : decode prog_2_method_3_code 4 = .ok (.putfield 19, 3) := by decide +kernel
theorem d2_3_7 : decode prog_2_method_3_code 7 = .ok (.return_, 1) := by decide +kernel
theorem d4_6_0 : decode prog_4_method_6_code 0 = .ok (.aload_n 0, 1) := by decide +kernel
theorem d4_6_1 : decode prog_4_method_6_code 1 = .ok (.getfield 9, 3) := by decide +kernel
theorem d4_6_4 : decode prog_4_method_6_code 4 = .ok (.invokestatic 24, 3) := by decide +kernel
theorem d4_6_7 : decode prog_4_method_6_code 7 = .ok (.aload_n 0, 1) := by decide +kernel
theorem d4_6_8 : decode prog_4_method_6_code 8 = .ok (.getfield 15, 3) := by decide +kernel
theorem d4_6_11 : decode prog_4_method_6_code 11 = .ok (.invokestatic 24, 3) := by decide +kernel
theorem d4_6_14 : decode prog_4_method_6_code 14 = .ok (.iadd, 1) := by decide +kernel
theorem d4_6_15 : decode prog_4_method_6_code 15 = .ok (.iconst 4, 1) := by decide +kernel
theorem d4_6_16 : decode prog_4_method_6_code 16 = .ok (.if_icmp .le 4, 3) := by decide +kernel
theorem d4_6_19 : decode prog_4_method_6_code 19 = .ok (.return_, 1) := by decide +kernel
theorem d4_6_20 : decode prog_4_method_6_code 20 = .ok (.aload_n 0, 1) := by decide +kernel
theorem d4_6_21 : decode prog_4_method_6_code 21 = .ok (.new 30, 3) := by decide +kernel
theorem d4_6_24 : decode prog_4_method_6_code 24 = .ok (.dup, 1) := by decide +kernel
theorem d4_6_25 : decode prog_4_method_6_code 25 = .ok (.invokespecial 32, 3) := by decide +kernel
theorem d4_6_28 : decode prog_4_method_6_code 28 = .ok (.putfield 33, 3) := by decide +kernel
theorem d4_6_31 : decode prog_4_method_6_code 31 = .ok (.bipush 32, 2) := by decide +kernel
theorem d4_6_33 : decode prog_4_method_6_code 33 = .ok (.istore_n 1, 1) := by decide +kernel
theorem d4_6_34 : decode prog_4_method_6_code 34 = .ok (.iload_n 1, 1) := by decide +kernel
theorem d4_6_35 : decode prog_4_method_6_code 35 = .ok (.bipush 126, 2) := by decide +kernel
theorem d4_6_37 : decode prog_4_method_6_code 37 = .ok (.if_icmp .gt 28, 3) := by decide +kernel
theorem d4_6_40 : decode prog_4_method_6_code 40 = .ok (.aload_n 0, 1) := by decide +kernel
theorem d4_6_41 : decode prog_4_method_6_code 41 = .ok (.iload_n 1, 1) := by decide +kernel
theorem d4_6_42 : decode prog_4_method_6_code 42 = .ok (.invokevirtual 37, 3) := by decide +kernel
theorem d4_6_45 : decode prog_4_method_6_code 45 = .ok (.ifCond .eq 12, 3) := by decide +kernel
theorem d4_6_48 : decode prog_4_method_6_code 48 = .ok (.aload_n 0, 1) := by decide +kernel
theorem d4_6_49 : decode prog_4_method_6_code 49 = .ok (.getfield 33, 3) := by decide +kernel
theorem d4_6_52 : decode prog_4_method_6_code 52 = .ok (.iload_n 1, 1) := by decide +kernel
theorem d4_6_53 : decode prog_4_method_6_code 53 = .ok (.invokevirtual 41, 3) := by decide +kernel
theorem d4_6_56 : decode prog_4_method_6_code 56 = .ok (.pop, 1) := by decide +kernel
theorem d4_6_57 : decode prog_4_method_6_code 57 = .ok (.iload_n 1, 1) := by decide +kernel
theorem d4_6_58 : decode prog_4_method_6_code 58 = .ok (.iconst 1, 1) := by decide +kernel
theorem d4_6_59 : decode prog_4_method_6_code 59 = .ok (.iadd, 1) := by decide +kernel
theorem d4_6_60 : decode prog_4_method_6_code 60 = .ok (.i2c, 1) := by decide +kernel
theorem d4_6_61 : decode prog_4_method_6_code 61 = .ok (.istore_n 1, 1) := by decide +kernel
theorem d4_6_62 : decode prog_4_method_6_code 62 = .ok (.goto (-28), 3) := by decide +kernel
theorem d4_6_65 : decode prog_4_method_6_code 65 = .ok (.return_, 1) := by decide +kernel
