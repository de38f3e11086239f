theorem d4_8_0 : decode prog_4_method_8_code 0 = .ok (.aload_n 0, 1) := by decide +kernel
theorem d4_8_1 : decode prog_4_method_8_code 1 = .ok (.lconst 0, 1) := by decide +kernel
theorem d4_8_2 : decode prog_4_method_8_code 2 = .ok (.putfield 51, 3) := by decide +kernel
theorem d4_8_5 : decode prog_4_method_8_code 5 = .ok (.iload_n 2, 1) := by decide +kernel
theorem d4_8_6 : decode prog_4_method_8_code 6 = .ok (.istore 4, 2) := by decide +kernel
theorem d4_8_8 : decode prog_4_method_8_code 8 = .ok (.iload 4, 2) := by decide +kernel
theorem d4_8_10 : decode prog_4_method_8_code 10 = .ok (.iload_n 3, 1) := by decide +kernel
theorem d4_8_11 : decode prog_4_method_8_code 11 = .ok (.if_icmp .ge 35, 3) := by decide +kernel
theorem d4_8_14 : decode prog_4_method_8_code 14 = .ok (.aload_n 0, 1) := by decide +kernel
theorem d4_8_15 : decode prog_4_method_8_code 15 = .ok (.aload_n 1, 1) := by decide +kernel
theorem d4_8_16 : decode prog_4_method_8_code 16 = .ok (.iload 4, 2) := by decide +kernel
theorem d4_8_18 : decode prog_4_method_8_code 18 = .ok (.caload, 1) := by decide +kernel
theorem d4_8_19 : decode prog_4_method_8_code 19 = .ok (.invokevirtual 37, 3) := by decide +kernel
theorem d4_8_22 : decode prog_4_method_8_code 22 = .ok (.ifCond .eq 18, 3) := by decide +kernel
theorem d4_8_25 : decode prog_4_method_8_code 25 = .ok (.aload_n 0, 1) := by decide +kernel
theorem d4_8_26 : decode prog_4_method_8_code 26 = .ok (.dup, 1) := by decide +kernel
theorem d4_8_27 : decode prog_4_method_8_code 27 = .ok (.getfield 51, 3) := by decide +kernel
theorem d4_8_30 : decode prog_4_method_8_code 30 = .ok (.lconst 1, 1) := by decide +kernel
theorem d4_8_31 : decode prog_4_method_8_code 31 = .ok (.iload 4, 2) := by decide +kernel
theorem d4_8_33 : decode prog_4_method_8_code 33 = .ok (.iload_n 2, 1) := by decide +kernel
theorem d4_8_34 : decode prog_4_method_8_code 34 = .ok (.isub, 1) := by decide +kernel
theorem d4_8_35 : decode prog_4_method_8_code 35 = .ok (.lshl, 1) := by decide +kernel
theorem d4_8_36 : decode prog_4_method_8_code 36 = .ok (.lor, 1) := by decide +kernel
theorem d4_8_37 : decode prog_4_method_8_code 37 = .ok (.putfield 51, 3) := by decide +kernel
theorem d4_8_40 : decode prog_4_method_8_code 40 = .ok (.iinc 4 1, 3) := by decide +kernel
theorem d4_8_43 : decode prog_4_method_8_code 43 = .ok (.goto (-35), 3) := by decide +kernel
theorem d4_8_46 : decode prog_4_method_8_code 46 = .ok (.return_, 1) := by decide +kernel
theorem d2_5_0 : decode prog_2_method_5_code 0 = .ok (.aload_n 0, 1) := by decide +kernel
theorem d2_5_1 : decode prog_2_method_5_code 1 = .ok (.aload_n 0, 1) := by decide +kernel
theorem d2_5_2 : decode prog_2_method_5_code 2 = .ok (.getfield 7, 3) := by decide +kernel
theorem d2_5_5 : decode prog_2_method_5_code 5 = .ok (.ifCond .eq 7, 3) := by decide +kernel
theorem d2_5_8 : decode prog_2_method_5_code 8 = .ok (.lconst 1, 1) := by decide +kernel
theorem d2_5_9 : decode prog_2_method_5_code 9 = .ok (.goto 8, 3) := by decide +kernel
theorem d2_5_12 : decode prog_2_method_5_code 12 = .ok (.lconst 1, 1) := by decide +kernel
theorem d2_5_13 : decode prog_2_method_5_code 13 = .ok (.iload_n 3, 1) := by decide +kernel
theorem d2_5_14 : decode prog_2_method_5_code 14 = .ok (.iload_n 2, 1) := by decide +kernel
theorem d2_5_15 : decode prog_2_method_5_code 15 = .ok (.isub, 1) := by decide +kernel
theorem d2_5_16 : decode prog_2_method_5_code 16 = .ok (.lshl, 1) := by decide +kernel
theorem d2_5_17 : decode prog_2_method_5_code 17 = .ok (.putfield 23, 3) := by decide +kernel
theorem d2_5_20 : decode prog_2_method_5_code 20 = .ok (.return_, 1) := by decide +kernel
theorem d9_5_0 : decode prog_9_method_5_code 0 = .ok (.aload_n 0, 1) := by decide +kernel
theorem d9_5_1 : decode prog_9_method_5_code 1 = .ok (.getfield 18, 3) := by decide +kernel
theorem d9_5_4 : decode prog_9_method_5_code 4 = .ok (.aload_n 1, 1) := by decide +kernel
theorem d9_5_5 : decode prog_9_method_5_code 5 = .ok (.iload_n 2, 1) := by decide +kernel
theorem d9_5_6 : decode prog_9_method_5_code 6 = .ok (.iload_n 3, 1) := by decide +kernel
theorem d9_5_7 : decode prog_9_method_5_code 7 = .ok (.invokevirtual 62, 3) := by decide +kernel
theorem d9_5_10 : decode prog_9_method_5_code 10 = .ok (.aload_n 0, 1) := by decide +kernel
theorem d9_5_11 : decode prog_9_method_5_code 11 = .ok (.iconst 0, 1) := by decide +kernel
theorem d9_5_12 : decode prog_9_method_5_code 12 = .ok (.putfield 66, 3) := by decide +kernel
theorem d9_5_15 : decode prog_9_method_5_code 15 = .ok (.aload_n 0, 1) := by decide +kernel
theorem d9_5_16 : decode prog_9_method_5_code 16 = .ok (.iload_n 3, 1) := by decide +kernel
theorem d9_5_17 : decode prog_9_method_5_code 17 = .ok (.iload_n 2, 1) := by decide +kernel
theorem d9_5_18 : decode prog_9_method_5_code 18 = .ok (.isub, 1) := by decide +kernel
theorem d9_5_19 : decode prog_9_method_5_code 19 = .ok (.putfield 70, 3) := by decide +kernel
theorem d9_5_22 : decode prog_9_method_5_code 22 = .ok (.return_, 1) := by decide +kernel
theorem d3_9_0 : decode prog_3_method_9_code 0 = .ok (.iconst 0, 1) := by decide +kernel
theorem d3_9_1 : decode prog_3_method_9_code 1 = .ok (.istore 4, 2) := by decide +kernel
theorem d3_9_3 : decode prog_3_method_9_code 3 = .ok (.iload 4, 2) := by decide +kernel
theorem d3_9_5 : decode prog_3_method_9_code 5 = .ok (.aload_n 0, 1) := by decide +kernel
theorem d3_9_6 : decode prog_3_method_9_code 6 = .ok (.getfield 10, 3) := by decide +kernel
theorem d3_9_9 : decode prog_3_method_9_code 9 = .ok (.invokevirtual 31, 3) := by decide +kernel
theorem d3_9_12 : decode prog_3_method_9_code 12 = .ok (.if_icmp .ge 27, 3) := by decide +kernel
theorem d3_9_15 : decode prog_3_method_9_code 15 = .ok (.aload_n 0, 1) := by decide +kernel
theorem d3_9_16 : decode prog_3_method_9_code 16 = .ok (.getfield 10, 3) := by decide +kernel
theorem d3_9_19 : decode prog_3_method_9_code 19 = .ok (.iload 4, 2) := by decide +kernel
theorem d3_9_21 : decode prog_3_method_9_code 21 = .ok (.invokevirtual 35, 3) := by decide +kernel
theorem d3_9_24 : decode prog_3_method_9_code 24 = .ok (.checkcast 2, 3) := by decide +kernel
theorem d3_9_27 : decode prog_3_method_9_code 27 = .ok (.aload_n 1, 1) := by decide +kernel
theorem d3_9_28 : decode prog_3_method_9_code 28 = .ok (.iload_n 2, 1) := by decide +kernel
theorem d3_9_29 : decode prog_3_method_9_code 29 = .ok (.iload_n 3, 1) := by decide +kernel
theorem d3_9_30 : decode prog_3_method_9_code 30 = .ok (.invokevirtual 72, 3) := by decide +kernel
theorem d3_9_33 : decode prog_3_method_9_code 33 = .ok (.iinc 4 1, 3) := by decide +kernel
theorem d3_9_36 : decode prog_3_method_9_code 36 = .ok (.goto (-33), 3) := by decide +kernel
theorem d3_9_39 : decode prog_3_method_9_code 39 = .ok (.return_, 1) := by decide +kernel
theorem d5_6_0 : decode prog_5_method_6_code 0 = .ok (.iconst 0, 1) := by decide +kernel
theorem d5_6_1 : decode prog_5_method_6_code 1 = .ok (.istore 4, 2) := by decide +kernel
theorem d5_6_3 : decode prog_5_method_6_code 3 = .ok (.iload 4, 2) := by decide +kernel
theorem d5_6_5 : decode prog_5_method_6_code 5 = .ok (.aload_n 0, 1) := by decide +kernel
theorem d5_6_6 : decode prog_5_method_6_code 6 = .ok (.getfield 10, 3) := by decide +kernel
theorem d5_6_9 : decode prog_5_method_6_code 9 = .ok (.invokevirtual 30, 3) := by decide +kernel
theorem d5_6_12 : decode prog_5_method_6_code 12 = .ok (.if_icmp .ge 27, 3) := by decide +kernel
theorem d5_6_15 : decode prog_5_method_6_code 15 = .ok (.aload_n 0, 1) := by decide +kernel
theorem d5_6_16 : decode prog_5_method_6_code 16 = .ok (.getfield 10, 3) := by decide +kernel
theorem d5_6_19 : decode prog_5_method_6_code 19 = .ok (.iload 4, 2) := by decide +kernel
theorem d5_6_21 : decode prog_5_method_6_code 21 = .ok (.invokevirtual 34, 3) := by decide +kernel
theorem d5_6_24 : decode prog_5_method_6_code 24 = .ok (.checkcast 19, 3) := by decide +kernel
theorem d5_6_27 : decode prog_5_method_6_code 27 = .ok (.aload_n 1, 1) := by decide +kernel
theorem d5_6_28 : decode prog_5_method_6_code 28 = .ok (.iload_n 2, 1) := by decide +kernel
theorem d5_6_29 : decode prog_5_method_6_code 29 = .ok (.iload_n 3, 1) := by decide +kernel
theorem d5_6_30 : decode prog_5_method_6_code 30 = .ok (.invokevirtual 64, 3) := by decide +kernel
theorem d5_6_33 : decode prog_5_method_6_code 33 = .ok (.iinc 4 1, 3) := by decide +kernel
theorem d5_6_36 : decode prog_5_method_6_code 36 = .ok (.goto (-33), 3) := by decide +kernel
theorem d5_6_39 : decode prog_5_method_6_code 39 = .ok (.return_, 1) := by decide +kernel
