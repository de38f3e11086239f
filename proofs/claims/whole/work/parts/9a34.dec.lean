theorem d22_152_0 : decode prog_22_method_152_code 0 = .ok (.getstatic 38, 3) := by decide +kernel
theorem d22_152_3 : decode prog_22_method_152_code 3 = .ok (.ifCond .eq 10, 3) := by decide +kernel
theorem d22_152_6 : decode prog_22_method_152_code 6 = .ok (.aload_n 0, 1) := by decide +kernel
theorem d22_152_7 : decode prog_22_method_152_code 7 = .ok (.getfield 15, 3) := by decide +kernel
theorem d22_152_10 : decode prog_22_method_152_code 10 = .ok (.goto 4, 3) := by decide +kernel
theorem d22_152_13 : decode prog_22_method_152_code 13 = .ok (.iconst 1, 1) := by decide +kernel
theorem d22_152_14 : decode prog_22_method_152_code 14 = .ok (.ireturn, 1) := by decide +kernel
theorem d22_154_0 : decode prog_22_method_154_code 0 = .ok (.getstatic 38, 3) := by decide +kernel
theorem d22_154_3 : decode prog_22_method_154_code 3 = .ok (.ifCond .eq 14, 3) := by decide +kernel
theorem d22_154_6 : decode prog_22_method_154_code 6 = .ok (.aload_n 0, 1) := by decide +kernel
theorem d22_154_7 : decode prog_22_method_154_code 7 = .ok (.getfield 15, 3) := by decide +kernel
theorem d22_154_10 : decode prog_22_method_154_code 10 = .ok (.ifCond .ne 7, 3) := by decide +kernel
theorem d22_154_13 : decode prog_22_method_154_code 13 = .ok (.iconst 1, 1) := by decide +kernel
theorem d22_154_14 : decode prog_22_method_154_code 14 = .ok (.goto 4, 3) := by decide +kernel
theorem d22_154_17 : decode prog_22_method_154_code 17 = .ok (.iconst 0, 1) := by decide +kernel
theorem d22_154_18 : decode prog_22_method_154_code 18 = .ok (.ireturn, 1) := by decide +kernel
theorem d22_54_0 : decode prog_22_method_54_code 0 = .ok (.aload_n 0, 1) := by decide +kernel
theorem d22_54_1 : decode prog_22_method_54_code 1 = .ok (.getfield 9, 3) := by decide +kernel
theorem d22_54_4 : decode prog_22_method_54_code 4 = .ok (.arraylength, 1) := by decide +kernel
theorem d22_54_5 : decode prog_22_method_54_code 5 = .ok (.aload_n 0, 1) := by decide +kernel
theorem d22_54_6 : decode prog_22_method_54_code 6 = .ok (.invokevirtual 335, 3) := by decide +kernel
theorem d22_54_9 : decode prog_22_method_54_code 9 = .ok (.ishr, 1) := by decide +kernel
theorem d22_54_10 : decode prog_22_method_54_code 10 = .ok (.ireturn, 1) := by decide +kernel
theorem d22_155_0 : decode prog_22_method_155_code 0 = .ok (.iload_n 0, 1) := by decide +kernel
theorem d22_155_1 : decode prog_22_method_155_code 1 = .ok (.iload_n 1, 1) := by decide +kernel
theorem d22_155_2 : decode prog_22_method_155_code 2 = .ok (.getstatic 1053, 3) := by decide +kernel
theorem d22_155_5 : decode prog_22_method_155_code 5 = .ok (.invokestatic 1059, 3) := by decide +kernel
theorem d22_155_8 : decode prog_22_method_155_code 8 = .ok (.pop, 1) := by decide +kernel
theorem d22_155_9 : decode prog_22_method_155_code 9 = .ok (.return_, 1) := by decide +kernel
theorem d23_2_0 : decode prog_23_method_2_code 0 = .ok (.iload_n 1, 1) := by decide +kernel
theorem d23_2_1 : decode prog_23_method_2_code 1 = .ok (.aload_n 0, 1) := by decide +kernel
theorem d23_2_2 : decode prog_23_method_2_code 2 = .ok (.arraylength, 1) := by decide +kernel
theorem d23_2_3 : decode prog_23_method_2_code 3 = .ok (.invokestatic 9, 3) := by decide +kernel
theorem d23_2_6 : decode prog_23_method_2_code 6 = .ok (.aload_n 0, 1) := by decide +kernel
theorem d23_2_7 : decode prog_23_method_2_code 7 = .ok (.iload_n 1, 1) := by decide +kernel
theorem d23_2_8 : decode prog_23_method_2_code 8 = .ok (.baload, 1) := by decide +kernel
theorem d23_2_9 : decode prog_23_method_2_code 9 = .ok (.sipush 255, 3) := by decide +kernel
theorem d23_2_12 : decode prog_23_method_2_code 12 = .ok (.iand, 1) := by decide +kernel
theorem d23_2_13 : decode prog_23_method_2_code 13 = .ok (.i2c, 1) := by decide +kernel
theorem d23_2_14 : decode prog_23_method_2_code 14 = .ok (.ireturn, 1) := by decide +kernel
theorem d22_56_0 : decode prog_22_method_56_code 0 = .ok (.aload_n 0, 1) := by decide +kernel
theorem d22_56_1 : decode prog_22_method_56_code 1 = .ok (.invokevirtual 492, 3) := by decide +kernel
theorem d22_56_4 : decode prog_22_method_56_code 4 = .ok (.ifCond .eq 12, 3) := by decide +kernel
theorem d22_56_7 : decode prog_22_method_56_code 7 = .ok (.aload_n 0, 1) := by decide +kernel
theorem d22_56_8 : decode prog_22_method_56_code 8 = .ok (.getfield 9, 3) := by decide +kernel
theorem d22_56_11 : decode prog_22_method_56_code 11 = .ok (.iload_n 1, 1) := by decide +kernel
theorem d22_56_12 : decode prog_22_method_56_code 12 = .ok (.invokestatic 495, 3) := by decide +kernel
theorem d22_56_15 : decode prog_22_method_56_code 15 = .ok (.ireturn, 1) := by decide +kernel
theorem d22_56_16 : decode prog_22_method_56_code 16 = .ok (.aload_n 0, 1) := by decide +kernel
theorem d22_56_17 : decode prog_22_method_56_code 17 = .ok (.getfield 9, 3) := by decide +kernel
theorem d22_56_20 : decode prog_22_method_56_code 20 = .ok (.iload_n 1, 1) := by decide +kernel
theorem d22_56_21 : decode prog_22_method_56_code 21 = .ok (.invokestatic 498, 3) := by decide +kernel
theorem d22_56_24 : decode prog_22_method_56_code 24 = .ok (.ireturn, 1) := by decide +kernel
theorem d23_4_0 : decode prog_23_method_4_code 0 = .ok (.iload_n 0, 1) := by decide +kernel
theorem d23_4_1 : decode prog_23_method_4_code 1 = .ok (.ifCond .lt 14, 3) := by decide +kernel
theorem d23_4_4 : decode prog_23_method_4_code 4 = .ok (.iload_n 0, 1) := by decide +kernel
theorem d23_4_5 : decode prog_23_method_4_code 5 = .ok (.sipush 255, 3) := by decide +kernel
theorem d23_4_8 : decode prog_23_method_4_code 8 = .ok (.if_icmp .gt 7, 3) := by decide +kernel
theorem d23_4_11 : decode prog_23_method_4_code 11 = .ok (.iconst 1, 1) := by decide +kernel
theorem d23_4_12 : decode prog_23_method_4_code 12 = .ok (.goto 4, 3) := by decide +kernel
theorem d23_4_15 : decode prog_23_method_4_code 15 = .ok (.iconst 0, 1) := by decide +kernel
theorem d23_4_16 : decode prog_23_method_4_code 16 = .ok (.ireturn, 1) := by decide +kernel
theorem d23_23_0 : decode prog_23_method_23_code 0 = .ok (.iload_n 1, 1) := by decide +kernel
theorem d23_23_1 : decode prog_23_method_23_code 1 = .ok (.i2b, 1) := by decide +kernel
theorem d23_23_2 : decode prog_23_method_23_code 2 = .ok (.istore 4, 2) := by decide +kernel
theorem d23_23_4 : decode prog_23_method_23_code 4 = .ok (.iload_n 2, 1) := by decide +kernel
theorem d23_23_5 : decode prog_23_method_23_code 5 = .ok (.istore 5, 2) := by decide +kernel
theorem d23_23_7 : decode prog_23_method_23_code 7 = .ok (.iload 5, 2) := by decide +kernel
theorem d23_23_9 : decode prog_23_method_23_code 9 = .ok (.iload_n 3, 1) := by decide +kernel
theorem d23_23_10 : decode prog_23_method_23_code 10 = .ok (.if_icmp .ge 21, 3) := by decide +kernel
theorem d23_23_13 : decode prog_23_method_23_code 13 = .ok (.aload_n 0, 1) := by decide +kernel
theorem d23_23_14 : decode prog_23_method_23_code 14 = .ok (.iload 5, 2) := by decide +kernel
theorem d23_23_16 : decode prog_23_method_23_code 16 = .ok (.baload, 1) := by decide +kernel
theorem d23_23_17 : decode prog_23_method_23_code 17 = .ok (.iload 4, 2) := by decide +kernel
theorem d23_23_19 : decode prog_23_method_23_code 19 = .ok (.if_icmp .ne 6, 3) := by decide +kernel
theorem d23_23_22 : decode prog_23_method_23_code 22 = .ok (.iload 5, 2) := by decide +kernel
theorem d23_23_24 : decode prog_23_method_23_code 24 = .ok (.ireturn, 1) := by decide +kernel
theorem d23_23_25 : decode prog_23_method_23_code 25 = .ok (.iinc 5 1, 3) := by decide +kernel
theorem d23_23_28 : decode prog_23_method_23_code 28 = .ok (.goto (-21), 3) := by decide +kernel
theorem d23_23_31 : decode prog_23_method_23_code 31 = .ok (.iconst (-1), 1) := by decide +kernel
theorem d23_23_32 : decode prog_23_method_23_code 32 = .ok (.ireturn, 1) := by decide +kernel
theorem d23_22_0 : decode prog_23_method_22_code 0 = .ok (.iload_n 1, 1) := by decide +kernel
theorem d23_22_1 : decode prog_23_method_22_code 1 = .ok (.invokestatic 88, 3) := by decide +kernel
theorem d23_22_4 : decode prog_23_method_22_code 4 = .ok (.ifCond .ne 5, 3) := by decide +kernel
theorem d23_22_7 : decode prog_23_method_22_code 7 = .ok (.iconst (-1), 1) := by decide +kernel
theorem d23_22_8 : decode prog_23_method_22_code 8 = .ok (.ireturn, 1) := by decide +kernel
theorem d23_22_9 : decode prog_23_method_22_code 9 = .ok (.iload_n 2, 1) := by decide +kernel
theorem d23_22_10 : decode prog_23_method_22_code 10 = .ok (.iconst 0, 1) := by decide +kernel
theorem d23_22_11 : decode prog_23_method_22_code 11 = .ok (.invokestatic 92, 3) := by decide +kernel
theorem d23_22_14 : decode prog_23_method_22_code 14 = .ok (.istore_n 2, 1) := by decide +kernel
theorem d23_22_15 : decode prog_23_method_22_code 15 = .ok (.iload_n 3, 1) := by decide +kernel
theorem d23_22_16 : decode prog_23_method_22_code 16 = .ok (.aload_n 0, 1) := by decide +kernel
theorem d23_22_17 : decode prog_23_method_22_code 17 = .ok (.arraylength, 1) := by decide +kernel
theorem d23_22_18 : decode prog_23_method_22_code 18 = .ok (.invokestatic 38, 3) := by decide +kernel
theorem d23_22_21 : decode prog_23_method_22_code 21 = .ok (.istore_n 3, 1) := by decide +kernel
theorem d23_22_22 : decode prog_23_method_22_code 22 = .ok (.iload_n 2, 1) := by decide +kernel
theorem d23_22_23 : decode prog_23_method_22_code 23 = .ok (.iload_n 3, 1) := by decide +kernel
theorem d23_22_24 : decode prog_23_method_22_code 24 = .ok (.if_icmp .lt 5, 3) := by decide +kernel
theorem d23_22_27 : decode prog_23_method_22_code 27 = .ok (.iconst (-1), 1) := by decide +kernel
theorem d23_22_28 : decode prog_23_method_22_code 28 = .ok (.ireturn, 1) := by decide +kernel
theorem d23_22_29 : decode prog_23_method_22_code 29 = .ok (.aload_n 0, 1) := by decide +kernel
theorem d23_22_30 : decode prog_23_method_22_code 30 = .ok (.iload_n 1, 1) := by decide +kernel
theorem d23_22_31 : decode prog_23_method_22_code 31 = .ok (.iload_n 2, 1) := by decide +kernel
theorem d23_22_32 : decode prog_23_method_22_code 32 = .ok (.iload_n 3, 1) := by decide +kernel
theorem d23_22_33 : decode prog_23_method_22_code 33 = .ok (.invokestatic 95, 3) := by decide +kernel
theorem d23_22_36 : decode prog_23_method_22_code 36 = .ok (.ireturn, 1) := by decide +kernel
theorem d22_80_0 : decode prog_22_method_80_code 0 = .ok (.aload_n 0, 1) := by decide +kernel
theorem d22_80_1 : decode prog_22_method_80_code 1 = .ok (.invokevirtual 492, 3) := by decide +kernel
theorem d22_80_4 : decode prog_22_method_80_code 4 = .ok (.ifCond .eq 19, 3) := by decide +kernel
theorem d22_80_7 : decode prog_22_method_80_code 7 = .ok (.aload_n 0, 1) := by decide +kernel
theorem d22_80_8 : decode prog_22_method_80_code 8 = .ok (.getfield 9, 3) := by decide +kernel
theorem d22_80_11 : decode prog_22_method_80_code 11 = .ok (.iload_n 1, 1) := by decide +kernel
theorem d22_80_12 : decode prog_22_method_80_code 12 = .ok (.iload_n 2, 1) := by decide +kernel
theorem d22_80_13 : decode prog_22_method_80_code 13 = .ok (.aload_n 0, 1) := by decide +kernel
theorem d22_80_14 : decode prog_22_method_80_code 14 = .ok (.invokevirtual 505, 3) := by decide +kernel
theorem d22_80_17 : decode prog_22_method_80_code 17 = .ok (.invokestatic 637, 3) := by decide +kernel
theorem d22_80_20 : decode prog_22_method_80_code 20 = .ok (.goto 16, 3) := by decide +kernel
theorem d22_80_23 : decode prog_22_method_80_code 23 = .ok (.aload_n 0, 1) := by decide +kernel
theorem d22_80_24 : decode prog_22_method_80_code 24 = .ok (.getfield 9, 3) := by decide +kernel
theorem d22_80_27 : decode prog_22_method_80_code 27 = .ok (.iload_n 1, 1) := by decide +kernel
theorem d22_80_28 : decode prog_22_method_80_code 28 = .ok (.iload_n 2, 1) := by decide +kernel
theorem d22_80_29 : decode prog_22_method_80_code 29 = .ok (.aload_n 0, 1) := by decide +kernel
theorem d22_80_30 : decode prog_22_method_80_code 30 = .ok (.invokevirtual 505, 3) := by decide +kernel
theorem d22_80_33 : decode prog_22_method_80_code 33 = .ok (.invokestatic 640, 3) := by decide +kernel
theorem d22_80_36 : decode prog_22_method_80_code 36 = .ok (.ireturn, 1) := by decide +kernel
theorem d22_79_0 : decode prog_22_method_79_code 0 = .ok (.aload_n 0, 1) := by decide +kernel
theorem d22_79_1 : decode prog_22_method_79_code 1 = .ok (.iload_n 1, 1) := by decide +kernel
theorem d22_79_2 : decode prog_22_method_79_code 2 = .ok (.iconst 0, 1) := by decide +kernel
theorem d22_79_3 : decode prog_22_method_79_code 3 = .ok (.invokevirtual 633, 3) := by decide +kernel
theorem d22_79_6 : decode prog_22_method_79_code 6 = .ok (.ireturn, 1) := by decide +kernel
