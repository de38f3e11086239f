theorem d26_1_0 : decode prog_26_method_1_code 0 = .ok (.aload_n 0, 1) := by decide +kernel
theorem d26_1_1 : decode prog_26_method_1_code 1 = .ok (.invokespecial 1, 3) := by decide +kernel
theorem d26_1_4 : decode prog_26_method_1_code 4 = .ok (.return_, 1) := by decide +kernel
theorem d27_1_0 : decode prog_27_method_1_code 0 = .ok (.aload_n 0, 1) := by decide +kernel
theorem d27_1_1 : decode prog_27_method_1_code 1 = .ok (.invokespecial 1, 3) := by decide +kernel
theorem d27_1_4 : decode prog_27_method_1_code 4 = .ok (.aload_n 0, 1) := by decide +kernel
theorem d27_1_5 : decode prog_27_method_1_code 5 = .ok (.iconst 0, 1) := by decide +kernel
theorem d27_1_6 : decode prog_27_method_1_code 6 = .ok (.putfield 7, 3) := by decide +kernel
theorem d27_1_9 : decode prog_27_method_1_code 9 = .ok (.return_, 1) := by decide +kernel
theorem d28_2_0 : decode prog_28_method_2_code 0 = .ok (.aload_n 0, 1) := by decide +kernel
theorem d28_2_1 : decode prog_28_method_2_code 1 = .ok (.invokespecial 1, 3) := by decide +kernel
theorem d28_2_4 : decode prog_28_method_2_code 4 = .ok (.aload_n 0, 1) := by decide +kernel
theorem d28_2_5 : decode prog_28_method_2_code 5 = .ok (.getstatic 39, 3) := by decide +kernel
theorem d28_2_8 : decode prog_28_method_2_code 8 = .ok (.putfield 9, 3) := by decide +kernel
theorem d28_2_11 : decode prog_28_method_2_code 11 = .ok (.return_, 1) := by decide +kernel
theorem d10_1_0 : decode prog_10_method_1_code 0 = .ok (.aload_n 0, 1) := by decide +kernel
theorem d10_1_1 : decode prog_10_method_1_code 1 = .ok (.invokespecial 1, 3) := by decide +kernel
theorem d10_1_4 : decode prog_10_method_1_code 4 = .ok (.aload_n 0, 1) := by decide +kernel
theorem d10_1_5 : decode prog_10_method_1_code 5 = .ok (.new 7, 3) := by decide +kernel
theorem d10_1_8 : decode prog_10_method_1_code 8 = .ok (.dup, 1) := by decide +kernel
theorem d10_1_9 : decode prog_10_method_1_code 9 = .ok (.invokespecial 9, 3) := by decide +kernel
theorem d10_1_12 : decode prog_10_method_1_code 12 = .ok (.putfield 10, 3) := by decide +kernel
theorem d10_1_15 : decode prog_10_method_1_code 15 = .ok (.aload_n 0, 1) := by decide +kernel
theorem d10_1_16 : decode prog_10_method_1_code 16 = .ok (.iload_n 1, 1) := by decide +kernel
theorem d10_1_17 : decode prog_10_method_1_code 17 = .ok (.putfield 16, 3) := by decide +kernel
theorem d10_1_20 : decode prog_10_method_1_code 20 = .ok (.return_, 1) := by decide +kernel
theorem d7_1_0 : decode prog_7_method_1_code 0 = .ok (.aload_n 0, 1) := by decide +kernel
theorem d7_1_1 : decode prog_7_method_1_code 1 = .ok (.invokespecial 1, 3) := by decide +kernel
theorem d7_1_4 : decode prog_7_method_1_code 4 = .ok (.return_, 1) := by decide +kernel
theorem d12_1_0 : decode prog_12_method_1_code 0 = .ok (.aload_n 0, 1) := by decide +kernel
theorem d12_1_1 : decode prog_12_method_1_code 1 = .ok (.invokespecial 1, 3) := by decide +kernel
theorem d12_1_4 : decode prog_12_method_1_code 4 = .ok (.aload_n 0, 1) := by decide +kernel
theorem d12_1_5 : decode prog_12_method_1_code 5 = .ok (.bipush 60, 2) := by decide +kernel
theorem d12_1_7 : decode prog_12_method_1_code 7 = .ok (.newarray .char, 2) := by decide +kernel
theorem d12_1_9 : decode prog_12_method_1_code 9 = .ok (.putfield 9, 3) := by decide +kernel
theorem d12_1_12 : decode prog_12_method_1_code 12 = .ok (.aload_n 0, 1) := by decide +kernel
theorem d12_1_13 : decode prog_12_method_1_code 13 = .ok (.iconst 5, 1) := by decide +kernel
theorem d12_1_14 : decode prog_12_method_1_code 14 = .ok (.newarray .int, 2) := by decide +kernel
theorem d12_1_16 : decode prog_12_method_1_code 16 = .ok (.putfield 13, 3) := by decide +kernel
theorem d12_1_19 : decode prog_12_method_1_code 19 = .ok (.return_, 1) := by decide +kernel
theorem d12_2_0 : decode prog_12_method_2_code 0 = .ok (.new 7, 3) := by decide +kernel
theorem d12_2_3 : decode prog_12_method_2_code 3 = .ok (.dup, 1) := by decide +kernel
theorem d12_2_4 : decode prog_12_method_2_code 4 = .ok (.invokespecial 17, 3) := by decide +kernel
theorem d12_2_7 : decode prog_12_method_2_code 7 = .ok (.astore_n 0, 1) := by decide +kernel
theorem d12_2_8 : decode prog_12_method_2_code 8 = .ok (.aload_n 0, 1) := by decide +kernel
theorem d12_2_9 : decode prog_12_method_2_code 9 = .ok (.iconst 1, 1) := by decide +kernel
theorem d12_2_10 : decode prog_12_method_2_code 10 = .ok (.putfield 18, 3) := by decide +kernel
theorem d12_2_13 : decode prog_12_method_2_code 13 = .ok (.aload_n 0, 1) := by decide +kernel
theorem d12_2_14 : decode prog_12_method_2_code 14 = .ok (.areturn, 1) := by decide +kernel
theorem d6_1_0 : decode prog_6_method_1_code 0 = .ok (.aload_n 0, 1) := by decide +kernel
theorem d6_1_1 : decode prog_6_method_1_code 1 = .ok (.invokespecial 1, 3) := by decide +kernel
theorem d6_1_4 : decode prog_6_method_1_code 4 = .ok (.aload_n 0, 1) := by decide +kernel
theorem d6_1_5 : decode prog_6_method_1_code 5 = .ok (.new 7, 3) := by decide +kernel
theorem d6_1_8 : decode prog_6_method_1_code 8 = .ok (.dup, 1) := by decide +kernel
theorem d6_1_9 : decode prog_6_method_1_code 9 = .ok (.invokespecial 9, 3) := by decide +kernel
theorem d6_1_12 : decode prog_6_method_1_code 12 = .ok (.putfield 10, 3) := by decide +kernel
theorem d6_1_15 : decode prog_6_method_1_code 15 = .ok (.aload_n 0, 1) := by decide +kernel
theorem d6_1_16 : decode prog_6_method_1_code 16 = .ok (.new 7, 3) := by decide +kernel
theorem d6_1_19 : decode prog_6_method_1_code 19 = .ok (.dup, 1) := by decide +kernel
theorem d6_1_20 : decode prog_6_method_1_code 20 = .ok (.invokespecial 9, 3) := by decide +kernel
theorem d6_1_23 : decode prog_6_method_1_code 23 = .ok (.putfield 16, 3) := by decide +kernel
theorem d6_1_26 : decode prog_6_method_1_code 26 = .ok (.aload_n 0, 1) := by decide +kernel
theorem d6_1_27 : decode prog_6_method_1_code 27 = .ok (.invokestatic 19, 3) := by decide +kernel
theorem d6_1_30 : decode prog_6_method_1_code 30 = .ok (.putfield 25, 3) := by decide +kernel
theorem d6_1_33 : decode prog_6_method_1_code 33 = .ok (.aload_n 0, 1) := by decide +kernel
theorem d6_1_34 : decode prog_6_method_1_code 34 = .ok (.iconst 1, 1) := by decide +kernel
theorem d6_1_35 : decode prog_6_method_1_code 35 = .ok (.putfield 29, 3) := by decide +kernel
theorem d6_1_38 : decode prog_6_method_1_code 38 = .ok (.return_, 1) := by decide +kernel
theorem d3_1_0 : decode prog_3_method_1_code 0 = .ok (.aload_n 0, 1) := by decide +kernel
theorem d3_1_1 : decode prog_3_method_1_code 1 = .ok (.invokespecial 1, 3) := by decide +kernel
theorem d3_1_4 : decode prog_3_method_1_code 4 = .ok (.aload_n 0, 1) := by decide +kernel
theorem d3_1_5 : decode prog_3_method_1_code 5 = .ok (.new 7, 3) := by decide +kernel
theorem d3_1_8 : decode prog_3_method_1_code 8 = .ok (.dup, 1) := by decide +kernel
theorem d3_1_9 : decode prog_3_method_1_code 9 = .ok (.invokespecial 9, 3) := by decide +kernel
theorem d3_1_12 : decode prog_3_method_1_code 12 = .ok (.putfield 10, 3) := by decide +kernel
theorem d3_1_15 : decode prog_3_method_1_code 15 = .ok (.aload_n 0, 1) := by decide +kernel
theorem d3_1_16 : decode prog_3_method_1_code 16 = .ok (.new 16, 3) := by decide +kernel
theorem d3_1_19 : decode prog_3_method_1_code 19 = .ok (.dup, 1) := by decide +kernel
theorem d3_1_20 : decode prog_3_method_1_code 20 = .ok (.invokespecial 18, 3) := by decide +kernel
theorem d3_1_23 : decode prog_3_method_1_code 23 = .ok (.putfield 19, 3) := by decide +kernel
theorem d3_1_26 : decode prog_3_method_1_code 26 = .ok (.return_, 1) := by decide +kernel
theorem d28_6_0 : decode prog_28_method_6_code 0 = .ok (.aload_n 0, 1) := by decide +kernel
theorem d28_6_1 : decode prog_28_method_6_code 1 = .ok (.getfield 9, 3) := by decide +kernel
theorem d28_6_4 : decode prog_28_method_6_code 4 = .ok (.arraylength, 1) := by decide +kernel
theorem d28_6_5 : decode prog_28_method_6_code 5 = .ok (.istore_n 2, 1) := by decide +kernel
theorem d28_6_6 : decode prog_28_method_6_code 6 = .ok (.iload_n 2, 1) := by decide +kernel
theorem d28_6_7 : decode prog_28_method_6_code 7 = .ok (.ifCond .gt 13, 3) := by decide +kernel
theorem d28_6_10 : decode prog_28_method_6_code 10 = .ok (.aload_n 0, 1) := by decide +kernel
theorem d28_6_11 : decode prog_28_method_6_code 11 = .ok (.getfield 9, 3) := by decide +kernel
theorem d28_6_14 : decode prog_28_method_6_code 14 = .ok (.getstatic 39, 3) := by decide +kernel
theorem d28_6_17 : decode prog_28_method_6_code 17 = .ok (.if_acmp .eq 28, 3) := by decide +kernel
theorem d28_6_20 : decode prog_28_method_6_code 20 = .ok (.iload_n 2, 1) := by decide +kernel
theorem d28_6_21 : decode prog_28_method_6_code 21 = .ok (.iload_n 1, 1) := by decide +kernel
theorem d28_6_22 : decode prog_28_method_6_code 22 = .ok (.iload_n 2, 1) := by decide +kernel
theorem d28_6_23 : decode prog_28_method_6_code 23 = .ok (.isub, 1) := by decide +kernel
theorem d28_6_24 : decode prog_28_method_6_code 24 = .ok (.iload_n 2, 1) := by decide +kernel
theorem d28_6_25 : decode prog_28_method_6_code 25 = .ok (.iconst 1, 1) := by decide +kernel
theorem d28_6_26 : decode prog_28_method_6_code 26 = .ok (.ishr, 1) := by decide +kernel
theorem d28_6_27 : decode prog_28_method_6_code 27 = .ok (.invokestatic 73, 3) := by decide +kernel
theorem d28_6_30 : decode prog_28_method_6_code 30 = .ok (.istore_n 3, 1) := by decide +kernel
theorem d28_6_31 : decode prog_28_method_6_code 31 = .ok (.aload_n 0, 1) := by decide +kernel
theorem d28_6_32 : decode prog_28_method_6_code 32 = .ok (.aload_n 0, 1) := by decide +kernel
theorem d28_6_33 : decode prog_28_method_6_code 33 = .ok (.getfield 9, 3) := by decide +kernel
theorem d28_6_36 : decode prog_28_method_6_code 36 = .ok (.iload_n 3, 1) := by decide +kernel
theorem d28_6_37 : decode prog_28_method_6_code 37 = .ok (.invokestatic 66, 3) := by decide +kernel
theorem d28_6_40 : decode prog_28_method_6_code 40 = .ok (.dup_x1, 1) := by decide +kernel
theorem d28_6_41 : decode prog_28_method_6_code 41 = .ok (.putfield 9, 3) := by decide +kernel
theorem d28_6_44 : decode prog_28_method_6_code 44 = .ok (.areturn, 1) := by decide +kernel
theorem d28_6_45 : decode prog_28_method_6_code 45 = .ok (.aload_n 0, 1) := by decide +kernel
theorem d28_6_46 : decode prog_28_method_6_code 46 = .ok (.bipush 10, 2) := by decide +kernel
theorem d28_6_48 : decode prog_28_method_6_code 48 = .ok (.iload_n 1, 1) := by decide +kernel
theorem d28_6_49 : decode prog_28_method_6_code 49 = .ok (.invokestatic 79, 3) := by decide +kernel
theorem d28_6_52 : decode prog_28_method_6_code 52 = .ok (.anewarray 7, 3) := by decide +kernel
theorem d28_6_55 : decode prog_28_method_6_code 55 = .ok (.dup_x1, 1) := by decide +kernel
theorem d28_6_56 : decode prog_28_method_6_code 56 = .ok (.putfield 9, 3) := by decide +kernel
theorem d28_6_59 : decode prog_28_method_6_code 59 = .ok (.areturn, 1) := by decide +kernel
theorem d28_7_0 : decode prog_28_method_7_code 0 = .ok (.aload_n 0, 1) := by decide +kernel
theorem d28_7_1 : decode prog_28_method_7_code 1 = .ok (.aload_n 0, 1) := by decide +kernel
theorem d28_7_2 : decode prog_28_method_7_code 2 = .ok (.getfield 48, 3) := by decide +kernel
theorem d28_7_5 : decode prog_28_method_7_code 5 = .ok (.iconst 1, 1) := by decide +kernel
theorem d28_7_6 : decode prog_28_method_7_code 6 = .ok (.iadd, 1) := by decide +kernel
theorem d28_7_7 : decode prog_28_method_7_code 7 = .ok (.invokevirtual 69, 3) := by decide +kernel
theorem d28_7_10 : decode prog_28_method_7_code 10 = .ok (.areturn, 1) := by decide +kernel
theorem d28_24_0 : decode prog_28_method_24_code 0 = .ok (.iload_n 3, 1) := by decide +kernel
theorem d28_24_1 : decode prog_28_method_24_code 1 = .ok (.aload_n 2, 1) := by decide +kernel
theorem d28_24_2 : decode prog_28_method_24_code 2 = .ok (.arraylength, 1) := by decide +kernel
theorem d28_24_3 : decode prog_28_method_24_code 3 = .ok (.if_icmp .ne 8, 3) := by decide +kernel
theorem d28_24_6 : decode prog_28_method_24_code 6 = .ok (.aload_n 0, 1) := by decide +kernel
theorem d28_24_7 : decode prog_28_method_24_code 7 = .ok (.invokevirtual 129, 3) := by decide +kernel
theorem d28_24_10 : decode prog_28_method_24_code 10 = .ok (.astore_n 2, 1) := by decide +kernel
theorem d28_24_11 : decode prog_28_method_24_code 11 = .ok (.aload_n 2, 1) := by decide +kernel
theorem d28_24_12 : decode prog_28_method_24_code 12 = .ok (.iload_n 3, 1) := by decide +kernel
theorem d28_24_13 : decode prog_28_method_24_code 13 = .ok (.aload_n 1, 1) := by decide +kernel
theorem d28_24_14 : decode prog_28_method_24_code 14 = .ok (.aastore, 1) := by decide +kernel
theorem d28_24_15 : decode prog_28_method_24_code 15 = .ok (.aload_n 0, 1) := by decide +kernel
theorem d28_24_16 : decode prog_28_method_24_code 16 = .ok (.iload_n 3, 1) := by decide +kernel
theorem d28_24_17 : decode prog_28_method_24_code 17 = .ok (.iconst 1, 1) := by decide +kernel
theorem d28_24_18 : decode prog_28_method_24_code 18 = .ok (.iadd, 1) := by decide +kernel
theorem d28_24_19 : decode prog_28_method_24_code 19 = .ok (.putfield 48, 3) := by decide +kernel
theorem d28_24_22 : decode prog_28_method_24_code 22 = .ok (.return_, 1) := by decide +kernel
theorem d28_25_0 : decode prog_28_method_25_code 0 = .ok (.aload_n 0, 1) := by decide +kernel
theorem d28_25_1 : decode prog_28_method_25_code 1 = .ok (.dup, 1) := by decide +kernel
theorem d28_25_2 : decode prog_28_method_25_code 2 = .ok (.getfield 63, 3) := by decide +kernel
theorem d28_25_5 : decode prog_28_method_25_code 5 = .ok (.iconst 1, 1) := by decide +kernel
theorem d28_25_6 : decode prog_28_method_25_code 6 = .ok (.iadd, 1) := by decide +kernel
theorem d28_25_7 : decode prog_28_method_25_code 7 = .ok (.putfield 63, 3) := by decide +kernel
theorem d28_25_10 : decode prog_28_method_25_code 10 = .ok (.aload_n 0, 1) := by decide +kernel
theorem d28_25_11 : decode prog_28_method_25_code 11 = .ok (.aload_n 1, 1) := by decide +kernel
theorem d28_25_12 : decode prog_28_method_25_code 12 = .ok (.aload_n 0, 1) := by decide +kernel
theorem d28_25_13 : decode prog_28_method_25_code 13 = .ok (.getfield 9, 3) := by decide +kernel
theorem d28_25_16 : decode prog_28_method_25_code 16 = .ok (.aload_n 0, 1) := by decide +kernel
theorem d28_25_17 : decode prog_28_method_25_code 17 = .ok (.getfield 48, 3) := by decide +kernel
theorem d28_25_20 : decode prog_28_method_25_code 20 = .ok (.invokevirtual 131, 3) := by decide +kernel
theorem d28_25_23 : decode prog_28_method_25_code 23 = .ok (.iconst 1, 1) := by decide +kernel
theorem d28_25_24 : decode prog_28_method_25_code 24 = .ok (.ireturn, 1) := by decide +kernel
theorem d5_2_0 : decode prog_5_method_2_code 0 = .ok (.aload_n 0, 1) := by decide +kernel
theorem d5_2_1 : decode prog_5_method_2_code 1 = .ok (.new 19, 3) := by decide +kernel
theorem d5_2_4 : decode prog_5_method_2_code 4 = .ok (.dup, 1) := by decide +kernel
theorem d5_2_5 : decode prog_5_method_2_code 5 = .ok (.invokespecial 21, 3) := by decide +kernel
theorem d5_2_8 : decode prog_5_method_2_code 8 = .ok (.putfield 22, 3) := by decide +kernel
theorem d5_2_11 : decode prog_5_method_2_code 11 = .ok (.aload_n 0, 1) := by decide +kernel
theorem d5_2_12 : decode prog_5_method_2_code 12 = .ok (.getfield 10, 3) := by decide +kernel
theorem d5_2_15 : decode prog_5_method_2_code 15 = .ok (.aload_n 0, 1) := by decide +kernel
theorem d5_2_16 : decode prog_5_method_2_code 16 = .ok (.getfield 22, 3) := by decide +kernel
theorem d5_2_19 : decode prog_5_method_2_code 19 = .ok (.invokevirtual 26, 3) := by decide +kernel
theorem d5_2_22 : decode prog_5_method_2_code 22 = .ok (.pop, 1) := by decide +kernel
theorem d5_2_23 : decode prog_5_method_2_code 23 = .ok (.return_, 1) := by decide +kernel
theorem d5_1_0 : decode prog_5_method_1_code 0 = .ok (.aload_n 0, 1) := by decide +kernel
theorem d5_1_1 : decode prog_5_method_1_code 1 = .ok (.invokespecial 1, 3) := by decide +kernel
theorem d5_1_4 : decode prog_5_method_1_code 4 = .ok (.aload_n 0, 1) := by decide +kernel
theorem d5_1_5 : decode prog_5_method_1_code 5 = .ok (.new 7, 3) := by decide +kernel
theorem d5_1_8 : decode prog_5_method_1_code 8 = .ok (.dup, 1) := by decide +kernel
theorem d5_1_9 : decode prog_5_method_1_code 9 = .ok (.invokespecial 9, 3) := by decide +kernel
theorem d5_1_12 : decode prog_5_method_1_code 12 = .ok (.putfield 10, 3) := by decide +kernel
theorem d5_1_15 : decode prog_5_method_1_code 15 = .ok (.aload_n 0, 1) := by decide +kernel
theorem d5_1_16 : decode prog_5_method_1_code 16 = .ok (.invokevirtual 16, 3) := by decide +kernel
theorem d5_1_19 : decode prog_5_method_1_code 19 = .ok (.return_, 1) := by decide +kernel
theorem d8_1_0 : decode prog_8_method_1_code 0 = .ok (.aload_n 0, 1) := by decide +kernel
theorem d8_1_1 : decode prog_8_method_1_code 1 = .ok (.invokespecial 3, 3) := by decide +kernel
theorem d8_1_4 : decode prog_8_method_1_code 4 = .ok (.aload_n 0, 1) := by decide +kernel
theorem d8_1_5 : decode prog_8_method_1_code 5 = .ok (.new 9, 3) := by decide +kernel
theorem d8_1_8 : decode prog_8_method_1_code 8 = .ok (.dup, 1) := by decide +kernel
theorem d8_1_9 : decode prog_8_method_1_code 9 = .ok (.invokespecial 11, 3) := by decide +kernel
theorem d8_1_12 : decode prog_8_method_1_code 12 = .ok (.putfield 12, 3) := by decide +kernel
theorem d8_1_15 : decode prog_8_method_1_code 15 = .ok (.aload_n 0, 1) := by decide +kernel
theorem d8_1_16 : decode prog_8_method_1_code 16 = .ok (.bipush 7, 2) := by decide +kernel
theorem d8_1_18 : decode prog_8_method_1_code 18 = .ok (.anewarray 9, 3) := by decide +kernel
theorem d8_1_21 : decode prog_8_method_1_code 21 = .ok (.putfield 18, 3) := by decide +kernel
theorem d8_1_24 : decode prog_8_method_1_code 24 = .ok (.aload_n 0, 1) := by decide +kernel
theorem d8_1_25 : decode prog_8_method_1_code 25 = .ok (.aload_n 1, 1) := by decide +kernel
theorem d8_1_26 : decode prog_8_method_1_code 26 = .ok (.putfield 22, 3) := by decide +kernel
theorem d8_1_29 : decode prog_8_method_1_code 29 = .ok (.aload_n 0, 1) := by decide +kernel
theorem d8_1_30 : decode prog_8_method_1_code 30 = .ok (.iload_n 2, 1) := by decide +kernel
theorem d8_1_31 : decode prog_8_method_1_code 31 = .ok (.putfield 26, 3) := by decide +kernel
theorem d8_1_34 : decode prog_8_method_1_code 34 = .ok (.aload_n 0, 1) := by decide +kernel
theorem d8_1_35 : decode prog_8_method_1_code 35 = .ok (.getfield 18, 3) := by decide +kernel
theorem d8_1_38 : decode prog_8_method_1_code 38 = .ok (.iconst 0, 1) := by decide +kernel
theorem d8_1_39 : decode prog_8_method_1_code 39 = .ok (.aload_n 0, 1) := by decide +kernel
theorem d8_1_40 : decode prog_8_method_1_code 40 = .ok (.getfield 12, 3) := by decide +kernel
theorem d8_1_43 : decode prog_8_method_1_code 43 = .ok (.aastore, 1) := by decide +kernel
theorem d8_1_44 : decode prog_8_method_1_code 44 = .ok (.return_, 1) := by decide +kernel
theorem d1_1_0 : decode prog_1_method_1_code 0 = .ok (.aload_n 0, 1) := by decide +kernel
theorem d1_1_1 : decode prog_1_method_1_code 1 = .ok (.invokespecial 3, 3) := by decide +kernel
theorem d1_1_4 : decode prog_1_method_1_code 4 = .ok (.aload_n 0, 1) := by decide +kernel
theorem d1_1_5 : decode prog_1_method_1_code 5 = .ok (.bipush 40, 2) := by decide +kernel
theorem d1_1_7 : decode prog_1_method_1_code 7 = .ok (.newarray .char, 2) := by decide +kernel
theorem d1_1_9 : decode prog_1_method_1_code 9 = .ok (.putfield 9, 3) := by decide +kernel
theorem d1_1_12 : decode prog_1_method_1_code 12 = .ok (.aload_n 0, 1) := by decide +kernel
theorem d1_1_13 : decode prog_1_method_1_code 13 = .ok (.bipush 24, 2) := by decide +kernel
theorem d1_1_15 : decode prog_1_method_1_code 15 = .ok (.newarray .char, 2) := by decide +kernel
theorem d1_1_17 : decode prog_1_method_1_code 17 = .ok (.putfield 13, 3) := by decide +kernel
theorem d1_1_20 : decode prog_1_method_1_code 20 = .ok (.aload_n 0, 1) := by decide +kernel
theorem d1_1_21 : decode prog_1_method_1_code 21 = .ok (.bipush 10, 2) := by decide +kernel
theorem d1_1_23 : decode prog_1_method_1_code 23 = .ok (.anewarray 16, 3) := by decide +kernel
theorem d1_1_26 : decode prog_1_method_1_code 26 = .ok (.putfield 18, 3) := by decide +kernel
theorem d1_1_29 : decode prog_1_method_1_code 29 = .ok (.aload_n 0, 1) := by decide +kernel
theorem d1_1_30 : decode prog_1_method_1_code 30 = .ok (.new 22, 3) := by decide +kernel
theorem d1_1_33 : decode prog_1_method_1_code 33 = .ok (.dup, 1) := by decide +kernel
theorem d1_1_34 : decode prog_1_method_1_code 34 = .ok (.iconst 0, 1) := by decide +kernel
theorem d1_1_35 : decode prog_1_method_1_code 35 = .ok (.invokespecial 24, 3) := by decide +kernel
theorem d1_1_38 : decode prog_1_method_1_code 38 = .ok (.putfield 27, 3) := by decide +kernel
theorem d1_1_41 : decode prog_1_method_1_code 41 = .ok (.aload_n 0, 1) := by decide +kernel
theorem d1_1_42 : decode prog_1_method_1_code 42 = .ok (.new 31, 3) := by decide +kernel
theorem d1_1_45 : decode prog_1_method_1_code 45 = .ok (.dup, 1) := by decide +kernel
theorem d1_1_46 : decode prog_1_method_1_code 46 = .ok (.invokespecial 33, 3) := by decide +kernel
theorem d1_1_49 : decode prog_1_method_1_code 49 = .ok (.putfield 34, 3) := by decide +kernel
theorem d1_1_52 : decode prog_1_method_1_code 52 = .ok (.aload_n 0, 1) := by decide +kernel
theorem d1_1_53 : decode prog_1_method_1_code 53 = .ok (.sipush 410, 3) := by decide +kernel
theorem d1_1_56 : decode prog_1_method_1_code 56 = .ok (.newarray .int, 2) := by decide +kernel
theorem d1_1_58 : decode prog_1_method_1_code 58 = .ok (.putfield 38, 3) := by decide +kernel
theorem d1_1_61 : decode prog_1_method_1_code 61 = .ok (.return_, 1) := by decide +kernel
theorem d28_8_0 : decode prog_28_method_8_code 0 = .ok (.aload_n 0, 1) := by decide +kernel
theorem d28_8_1 : decode prog_28_method_8_code 1 = .ok (.getfield 48, 3) := by decide +kernel
theorem d28_8_4 : decode prog_28_method_8_code 4 = .ok (.ireturn, 1) := by decide +kernel
theorem d10_4_0 : decode prog_10_method_4_code 0 = .ok (.aload_n 0, 1) := by decide +kernel
theorem d10_4_1 : decode prog_10_method_4_code 1 = .ok (.getfield 10, 3) := by decide +kernel
theorem d10_4_4 : decode prog_10_method_4_code 4 = .ok (.invokevirtual 24, 3) := by decide +kernel
theorem d10_4_7 : decode prog_10_method_4_code 7 = .ok (.ireturn, 1) := by decide +kernel
theorem d10_2_0 : decode prog_10_method_2_code 0 = .ok (.aload_n 0, 1) := by decide +kernel
theorem d10_2_1 : decode prog_10_method_2_code 1 = .ok (.getfield 10, 3) := by decide +kernel
theorem d10_2_4 : decode prog_10_method_2_code 4 = .ok (.aload_n 1, 1) := by decide +kernel
theorem d10_2_5 : decode prog_10_method_2_code 5 = .ok (.invokevirtual 20, 3) := by decide +kernel
theorem d10_2_8 : decode prog_10_method_2_code 8 = .ok (.pop, 1) := by decide +kernel
theorem d10_2_9 : decode prog_10_method_2_code 9 = .ok (.return_, 1) := by decide +kernel
