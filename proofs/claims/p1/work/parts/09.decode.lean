theorem d1_20_0 : decode prog_1_method_20_code 0 = .ok (.iload_n 0, 1) := by decide +kernel
theorem d1_20_1 : decode prog_1_method_20_code 1 = .ok (.bipush 32, 2) := by decide +kernel
theorem d1_20_3 : decode prog_1_method_20_code 3 = .ok (.if_icmp .lt 13, 3) := by decide +kernel
theorem d1_20_6 : decode prog_1_method_20_code 6 = .ok (.iload_n 0, 1) := by decide +kernel
theorem d1_20_7 : decode prog_1_method_20_code 7 = .ok (.bipush 126, 2) := by decide +kernel
theorem d1_20_9 : decode prog_1_method_20_code 9 = .ok (.if_icmp .gt 7, 3) := by decide +kernel
theorem d1_20_12 : decode prog_1_method_20_code 12 = .ok (.iconst 1, 1) := by decide +kernel
theorem d1_20_13 : decode prog_1_method_20_code 13 = .ok (.goto 4, 3) := by decide +kernel
theorem d1_20_16 : decode prog_1_method_20_code 16 = .ok (.iconst 0, 1) := by decide +kernel
theorem d1_20_17 : decode prog_1_method_20_code 17 = .ok (.ireturn, 1) := by decide +kernel
theorem d1_21_0 : decode prog_1_method_21_code 0 = .ok (.iload_n 0, 1) := by decide +kernel
theorem d1_21_1 : decode prog_1_method_21_code 1 = .ok (.bipush 10, 2) := by decide +kernel
theorem d1_21_3 : decode prog_1_method_21_code 3 = .ok (.if_icmp .eq 10, 3) := by decide +kernel
theorem d1_21_6 : decode prog_1_method_21_code 6 = .ok (.iload_n 0, 1) := by decide +kernel
theorem d1_21_7 : decode prog_1_method_21_code 7 = .ok (.invokestatic 79, 3) := by decide +kernel
theorem d1_21_10 : decode prog_1_method_21_code 10 = .ok (.ifCond .eq 7, 3) := by decide +kernel
theorem d1_21_13 : decode prog_1_method_21_code 13 = .ok (.iconst 1, 1) := by decide +kernel
theorem d1_21_14 : decode prog_1_method_21_code 14 = .ok (.goto 4, 3) := by decide +kernel
theorem d1_21_17 : decode prog_1_method_21_code 17 = .ok (.iconst 0, 1) := by decide +kernel
theorem d1_21_18 : decode prog_1_method_21_code 18 = .ok (.ireturn, 1) := by decide +kernel
theorem d1_19_0 : decode prog_1_method_19_code 0 = .ok (.iload_n 0, 1) := by decide +kernel
theorem d1_19_1 : decode prog_1_method_19_code 1 = .ok (.ifCond .lt 13, 3) := by decide +kernel
theorem d1_19_4 : decode prog_1_method_19_code 4 = .ok (.iload_n 0, 1) := by decide +kernel
theorem d1_19_5 : decode prog_1_method_19_code 5 = .ok (.bipush 10, 2) := by decide +kernel
theorem d1_19_7 : decode prog_1_method_19_code 7 = .ok (.if_icmp .ge 7, 3) := by decide +kernel
theorem d1_19_10 : decode prog_1_method_19_code 10 = .ok (.iconst 1, 1) := by decide +kernel
theorem d1_19_11 : decode prog_1_method_19_code 11 = .ok (.goto 4, 3) := by decide +kernel
theorem d1_19_14 : decode prog_1_method_19_code 14 = .ok (.iconst 0, 1) := by decide +kernel
theorem d1_19_15 : decode prog_1_method_19_code 15 = .ok (.ireturn, 1) := by decide +kernel
theorem d14_2_0 : decode prog_14_method_2_code 0 = .ok (.iload_n 0, 1) := by decide +kernel
theorem d14_2_1 : decode prog_14_method_2_code 1 = .ok (.bipush 10, 2) := by decide +kernel
theorem d14_2_3 : decode prog_14_method_2_code 3 = .ok (.if_icmp .eq 15, 3) := by decide +kernel
theorem d14_2_6 : decode prog_14_method_2_code 6 = .ok (.iload_n 0, 1) := by decide +kernel
theorem d14_2_7 : decode prog_14_method_2_code 7 = .ok (.bipush 32, 2) := by decide +kernel
theorem d14_2_9 : decode prog_14_method_2_code 9 = .ok (.if_icmp .lt 13, 3) := by decide +kernel
theorem d14_2_12 : decode prog_14_method_2_code 12 = .ok (.iload_n 0, 1) := by decide +kernel
theorem d14_2_13 : decode prog_14_method_2_code 13 = .ok (.bipush 126, 2) := by decide +kernel
theorem d14_2_15 : decode prog_14_method_2_code 15 = .ok (.if_icmp .gt 7, 3) := by decide +kernel
theorem d14_2_18 : decode prog_14_method_2_code 18 = .ok (.iconst 1, 1) := by decide +kernel
theorem d14_2_19 : decode prog_14_method_2_code 19 = .ok (.goto 4, 3) := by decide +kernel
theorem d14_2_22 : decode prog_14_method_2_code 22 = .ok (.iconst 0, 1) := by decide +kernel
theorem d14_2_23 : decode prog_14_method_2_code 23 = .ok (.ireturn, 1) := by decide +kernel
theorem d1_23_0 : decode prog_1_method_23_code 0 = .ok (.aload_n 0, 1) := by decide +kernel
theorem d1_23_1 : decode prog_1_method_23_code 1 = .ok (.getfield 18, 3) := by decide +kernel
theorem d1_23_4 : decode prog_1_method_23_code 4 = .ok (.iload_n 1, 1) := by decide +kernel
theorem d1_23_5 : decode prog_1_method_23_code 5 = .ok (.aaload, 1) := by decide +kernel
theorem d1_23_6 : decode prog_1_method_23_code 6 = .ok (.astore_n 2, 1) := by decide +kernel
theorem d1_23_7 : decode prog_1_method_23_code 7 = .ok (.aload_n 2, 1) := by decide +kernel
theorem d1_23_8 : decode prog_1_method_23_code 8 = .ok (.ifnonnull 5, 3) := by decide +kernel
theorem d1_23_11 : decode prog_1_method_23_code 11 = .ok (.iconst 0, 1) := by decide +kernel
theorem d1_23_12 : decode prog_1_method_23_code 12 = .ok (.ireturn, 1) := by decide +kernel
theorem d1_23_13 : decode prog_1_method_23_code 13 = .ok (.aload_n 2, 1) := by decide +kernel
theorem d1_23_14 : decode prog_1_method_23_code 14 = .ok (.iconst 0, 1) := by decide +kernel
theorem d1_23_15 : decode prog_1_method_23_code 15 = .ok (.putfield 152, 3) := by decide +kernel
theorem d1_23_18 : decode prog_1_method_23_code 18 = .ok (.aload_n 0, 1) := by decide +kernel
theorem d1_23_19 : decode prog_1_method_23_code 19 = .ok (.getfield 18, 3) := by decide +kernel
theorem d1_23_22 : decode prog_1_method_23_code 22 = .ok (.iload_n 1, 1) := by decide +kernel
theorem d1_23_23 : decode prog_1_method_23_code 23 = .ok (.aconst_null, 1) := by decide +kernel
theorem d1_23_24 : decode prog_1_method_23_code 24 = .ok (.aastore, 1) := by decide +kernel
theorem d1_23_25 : decode prog_1_method_23_code 25 = .ok (.iconst 1, 1) := by decide +kernel
theorem d1_23_26 : decode prog_1_method_23_code 26 = .ok (.ireturn, 1) := by decide +kernel
theorem d1_2_0 : decode prog_1_method_2_code 0 = .ok (.iload_n 1, 1) := by decide +kernel
theorem d1_2_1 : decode prog_1_method_2_code 1 = .ok (.invokestatic 42, 3) := by decide +kernel
theorem d1_2_4 : decode prog_1_method_2_code 4 = .ok (.ifCond .eq 12, 3) := by decide +kernel
theorem d1_2_7 : decode prog_1_method_2_code 7 = .ok (.aload_n 0, 1) := by decide +kernel
theorem d1_2_8 : decode prog_1_method_2_code 8 = .ok (.getfield 46, 3) := by decide +kernel
theorem d1_2_11 : decode prog_1_method_2_code 11 = .ok (.bipush 40, 2) := by decide +kernel
theorem d1_2_13 : decode prog_1_method_2_code 13 = .ok (.if_icmp .lt 5, 3) := by decide +kernel
theorem d1_2_16 : decode prog_1_method_2_code 16 = .ok (.iconst 0, 1) := by decide +kernel
theorem d1_2_17 : decode prog_1_method_2_code 17 = .ok (.ireturn, 1) := by decide +kernel
theorem d1_2_18 : decode prog_1_method_2_code 18 = .ok (.aload_n 0, 1) := by decide +kernel
theorem d1_2_19 : decode prog_1_method_2_code 19 = .ok (.getfield 9, 3) := by decide +kernel
theorem d1_2_22 : decode prog_1_method_2_code 22 = .ok (.aload_n 0, 1) := by decide +kernel
theorem d1_2_23 : decode prog_1_method_2_code 23 = .ok (.getfield 46, 3) := by decide +kernel
theorem d1_2_26 : decode prog_1_method_2_code 26 = .ok (.iload_n 1, 1) := by decide +kernel
theorem d1_2_27 : decode prog_1_method_2_code 27 = .ok (.castore, 1) := by decide +kernel
theorem d1_2_28 : decode prog_1_method_2_code 28 = .ok (.aload_n 0, 1) := by decide +kernel
theorem d1_2_29 : decode prog_1_method_2_code 29 = .ok (.dup, 1) := by decide +kernel
theorem d1_2_30 : decode prog_1_method_2_code 30 = .ok (.getfield 46, 3) := by decide +kernel
theorem d1_2_33 : decode prog_1_method_2_code 33 = .ok (.iconst 1, 1) := by decide +kernel
theorem d1_2_34 : decode prog_1_method_2_code 34 = .ok (.iadd, 1) := by decide +kernel
theorem d1_2_35 : decode prog_1_method_2_code 35 = .ok (.putfield 46, 3) := by decide +kernel
theorem d1_2_38 : decode prog_1_method_2_code 38 = .ok (.iconst 1, 1) := by decide +kernel
theorem d1_2_39 : decode prog_1_method_2_code 39 = .ok (.ireturn, 1) := by decide +kernel
theorem d1_6_0 : decode prog_1_method_6_code 0 = .ok (.iload_n 1, 1) := by decide +kernel
theorem d1_6_1 : decode prog_1_method_6_code 1 = .ok (.invokestatic 79, 3) := by decide +kernel
theorem d1_6_4 : decode prog_1_method_6_code 4 = .ok (.ifCond .eq 12, 3) := by decide +kernel
theorem d1_6_7 : decode prog_1_method_6_code 7 = .ok (.aload_n 0, 1) := by decide +kernel
theorem d1_6_8 : decode prog_1_method_6_code 8 = .ok (.getfield 82, 3) := by decide +kernel
theorem d1_6_11 : decode prog_1_method_6_code 11 = .ok (.bipush 24, 2) := by decide +kernel
theorem d1_6_13 : decode prog_1_method_6_code 13 = .ok (.if_icmp .lt 5, 3) := by decide +kernel
theorem d1_6_16 : decode prog_1_method_6_code 16 = .ok (.iconst 0, 1) := by decide +kernel
theorem d1_6_17 : decode prog_1_method_6_code 17 = .ok (.ireturn, 1) := by decide +kernel
theorem d1_6_18 : decode prog_1_method_6_code 18 = .ok (.aload_n 0, 1) := by decide +kernel
theorem d1_6_19 : decode prog_1_method_6_code 19 = .ok (.getfield 13, 3) := by decide +kernel
theorem d1_6_22 : decode prog_1_method_6_code 22 = .ok (.aload_n 0, 1) := by decide +kernel
theorem d1_6_23 : decode prog_1_method_6_code 23 = .ok (.getfield 82, 3) := by decide +kernel
theorem d1_6_26 : decode prog_1_method_6_code 26 = .ok (.iload_n 1, 1) := by decide +kernel
theorem d1_6_27 : decode prog_1_method_6_code 27 = .ok (.castore, 1) := by decide +kernel
theorem d1_6_28 : decode prog_1_method_6_code 28 = .ok (.aload_n 0, 1) := by decide +kernel
theorem d1_6_29 : decode prog_1_method_6_code 29 = .ok (.dup, 1) := by decide +kernel
theorem d1_6_30 : decode prog_1_method_6_code 30 = .ok (.getfield 82, 3) := by decide +kernel
theorem d1_6_33 : decode prog_1_method_6_code 33 = .ok (.iconst 1, 1) := by decide +kernel
theorem d1_6_34 : decode prog_1_method_6_code 34 = .ok (.iadd, 1) := by decide +kernel
theorem d1_6_35 : decode prog_1_method_6_code 35 = .ok (.putfield 82, 3) := by decide +kernel
theorem d1_6_38 : decode prog_1_method_6_code 38 = .ok (.aload_n 0, 1) := by decide +kernel
theorem d1_6_39 : decode prog_1_method_6_code 39 = .ok (.aconst_null, 1) := by decide +kernel
theorem d1_6_40 : decode prog_1_method_6_code 40 = .ok (.putfield 85, 3) := by decide +kernel
theorem d1_6_43 : decode prog_1_method_6_code 43 = .ok (.iconst 1, 1) := by decide +kernel
theorem d1_6_44 : decode prog_1_method_6_code 44 = .ok (.ireturn, 1) := by decide +kernel
theorem d1_4_0 : decode prog_1_method_4_code 0 = .ok (.iload_n 1, 1) := by decide +kernel
theorem d1_4_1 : decode prog_1_method_4_code 1 = .ok (.invokestatic 50, 3) := by decide +kernel
theorem d1_4_4 : decode prog_1_method_4_code 4 = .ok (.ifCond .eq 15, 3) := by decide +kernel
theorem d1_4_7 : decode prog_1_method_4_code 7 = .ok (.aload_n 0, 1) := by decide +kernel
theorem d1_4_8 : decode prog_1_method_4_code 8 = .ok (.iload_n 1, 1) := by decide +kernel
theorem d1_4_9 : decode prog_1_method_4_code 9 = .ok (.invokevirtual 53, 3) := by decide +kernel
theorem d1_4_12 : decode prog_1_method_4_code 12 = .ok (.ifCond .eq 7, 3) := by decide +kernel
theorem d1_4_15 : decode prog_1_method_4_code 15 = .ok (.iconst 1, 1) := by decide +kernel
theorem d1_4_16 : decode prog_1_method_4_code 16 = .ok (.goto 4, 3) := by decide +kernel
theorem d1_4_19 : decode prog_1_method_4_code 19 = .ok (.iconst 0, 1) := by decide +kernel
theorem d1_4_20 : decode prog_1_method_4_code 20 = .ok (.ireturn, 1) := by decide +kernel
theorem d1_5_0 : decode prog_1_method_5_code 0 = .ok (.iload_n 1, 1) := by decide +kernel
theorem d1_5_1 : decode prog_1_method_5_code 1 = .ok (.invokestatic 50, 3) := by decide +kernel
theorem d1_5_4 : decode prog_1_method_5_code 4 = .ok (.ifCond .eq 12, 3) := by decide +kernel
theorem d1_5_7 : decode prog_1_method_5_code 7 = .ok (.aload_n 0, 1) := by decide +kernel
theorem d1_5_8 : decode prog_1_method_5_code 8 = .ok (.getfield 18, 3) := by decide +kernel
theorem d1_5_11 : decode prog_1_method_5_code 11 = .ok (.iload_n 1, 1) := by decide +kernel
theorem d1_5_12 : decode prog_1_method_5_code 12 = .ok (.aaload, 1) := by decide +kernel
theorem d1_5_13 : decode prog_1_method_5_code 13 = .ok (.ifnonnull 5, 3) := by decide +kernel
theorem d1_5_16 : decode prog_1_method_5_code 16 = .ok (.iconst (-1), 1) := by decide +kernel
theorem d1_5_17 : decode prog_1_method_5_code 17 = .ok (.ireturn, 1) := by decide +kernel
theorem d1_5_18 : decode prog_1_method_5_code 18 = .ok (.aload_n 0, 1) := by decide +kernel
theorem d1_5_19 : decode prog_1_method_5_code 19 = .ok (.getfield 18, 3) := by decide +kernel
theorem d1_5_22 : decode prog_1_method_5_code 22 = .ok (.iload_n 1, 1) := by decide +kernel
theorem d1_5_23 : decode prog_1_method_5_code 23 = .ok (.aaload, 1) := by decide +kernel
theorem d1_5_24 : decode prog_1_method_5_code 24 = .ok (.getfield 76, 3) := by decide +kernel
theorem d1_5_27 : decode prog_1_method_5_code 27 = .ok (.arraylength, 1) := by decide +kernel
theorem d1_5_28 : decode prog_1_method_5_code 28 = .ok (.ireturn, 1) := by decide +kernel
theorem d1_7_0 : decode prog_1_method_7_code 0 = .ok (.aload_n 0, 1) := by decide +kernel
theorem d1_7_1 : decode prog_1_method_7_code 1 = .ok (.getfield 82, 3) := by decide +kernel
theorem d1_7_4 : decode prog_1_method_7_code 4 = .ok (.ifCond .le 18, 3) := by decide +kernel
theorem d1_7_7 : decode prog_1_method_7_code 7 = .ok (.aload_n 0, 1) := by decide +kernel
theorem d1_7_8 : decode prog_1_method_7_code 8 = .ok (.dup, 1) := by decide +kernel
theorem d1_7_9 : decode prog_1_method_7_code 9 = .ok (.getfield 82, 3) := by decide +kernel
theorem d1_7_12 : decode prog_1_method_7_code 12 = .ok (.iconst 1, 1) := by decide +kernel
theorem d1_7_13 : decode prog_1_method_7_code 13 = .ok (.isub, 1) := by decide +kernel
theorem d1_7_14 : decode prog_1_method_7_code 14 = .ok (.putfield 82, 3) := by decide +kernel
theorem d1_7_17 : decode prog_1_method_7_code 17 = .ok (.aload_n 0, 1) := by decide +kernel
theorem d1_7_18 : decode prog_1_method_7_code 18 = .ok (.aconst_null, 1) := by decide +kernel
theorem d1_7_19 : decode prog_1_method_7_code 19 = .ok (.putfield 85, 3) := by decide +kernel
theorem d1_7_22 : decode prog_1_method_7_code 22 = .ok (.aload_n 0, 1) := by decide +kernel
theorem d1_7_23 : decode prog_1_method_7_code 23 = .ok (.getfield 82, 3) := by decide +kernel
theorem d1_7_26 : decode prog_1_method_7_code 26 = .ok (.ireturn, 1) := by decide +kernel
theorem d28_9_0 : decode prog_28_method_9_code 0 = .ok (.aload_n 0, 1) := by decide +kernel
theorem d28_9_1 : decode prog_28_method_9_code 1 = .ok (.getfield 48, 3) := by decide +kernel
theorem d28_9_4 : decode prog_28_method_9_code 4 = .ok (.ifCond .ne 7, 3) := by decide +kernel
theorem d28_9_7 : decode prog_28_method_9_code 7 = .ok (.iconst 1, 1) := by decide +kernel
theorem d28_9_8 : decode prog_28_method_9_code 8 = .ok (.goto 4, 3) := by decide +kernel
theorem d28_9_11 : decode prog_28_method_9_code 11 = .ok (.iconst 0, 1) := by decide +kernel
theorem d28_9_12 : decode prog_28_method_9_code 12 = .ok (.ireturn, 1) := by decide +kernel
theorem d3_2_0 : decode prog_3_method_2_code 0 = .ok (.aload_n 0, 1) := by decide +kernel
theorem d3_2_1 : decode prog_3_method_2_code 1 = .ok (.getfield 10, 3) := by decide +kernel
theorem d3_2_4 : decode prog_3_method_2_code 4 = .ok (.invokevirtual 23, 3) := by decide +kernel
theorem d3_2_7 : decode prog_3_method_2_code 7 = .ok (.ireturn, 1) := by decide +kernel
theorem d8_3_0 : decode prog_8_method_3_code 0 = .ok (.aload_n 0, 1) := by decide +kernel
theorem d8_3_1 : decode prog_8_method_3_code 1 = .ok (.getfield 47, 3) := by decide +kernel
theorem d8_3_4 : decode prog_8_method_3_code 4 = .ok (.ifCond .le 5, 3) := by decide +kernel
theorem d8_3_7 : decode prog_8_method_3_code 7 = .ok (.iconst 2, 1) := by decide +kernel
theorem d8_3_8 : decode prog_8_method_3_code 8 = .ok (.ireturn, 1) := by decide +kernel
theorem d8_3_9 : decode prog_8_method_3_code 9 = .ok (.aload_n 0, 1) := by decide +kernel
theorem d8_3_10 : decode prog_8_method_3_code 10 = .ok (.getfield 12, 3) := by decide +kernel
theorem d8_3_13 : decode prog_8_method_3_code 13 = .ok (.getfield 50, 3) := by decide +kernel
theorem d8_3_16 : decode prog_8_method_3_code 16 = .ok (.invokevirtual 54, 3) := by decide +kernel
theorem d8_3_19 : decode prog_8_method_3_code 19 = .ok (.ifCond .eq 5, 3) := by decide +kernel
theorem d8_3_22 : decode prog_8_method_3_code 22 = .ok (.iconst 1, 1) := by decide +kernel
theorem d8_3_23 : decode prog_8_method_3_code 23 = .ok (.ireturn, 1) := by decide +kernel
theorem d8_3_24 : decode prog_8_method_3_code 24 = .ok (.aload_n 0, 1) := by decide +kernel
theorem d8_3_25 : decode prog_8_method_3_code 25 = .ok (.getfield 12, 3) := by decide +kernel
theorem d8_3_28 : decode prog_8_method_3_code 28 = .ok (.invokevirtual 60, 3) := by decide +kernel
theorem d8_3_31 : decode prog_8_method_3_code 31 = .ok (.bipush 60, 2) := by decide +kernel
theorem d8_3_33 : decode prog_8_method_3_code 33 = .ok (.if_icmp .le 8, 3) := by decide +kernel
theorem d8_3_36 : decode prog_8_method_3_code 36 = .ok (.bipush 9, 2) := by decide +kernel
theorem d8_3_38 : decode prog_8_method_3_code 38 = .ok (.goto 4, 3) := by decide +kernel
theorem d8_3_41 : decode prog_8_method_3_code 41 = .ok (.iconst 0, 1) := by decide +kernel
theorem d8_3_42 : decode prog_8_method_3_code 42 = .ok (.ireturn, 1) := by decide +kernel
theorem d8_2_0 : decode prog_8_method_2_code 0 = .ok (.iconst 0, 1) := by decide +kernel
theorem d8_2_1 : decode prog_8_method_2_code 1 = .ok (.istore_n 1, 1) := by decide +kernel
theorem d8_2_2 : decode prog_8_method_2_code 2 = .ok (.iload_n 1, 1) := by decide +kernel
theorem d8_2_3 : decode prog_8_method_2_code 3 = .ok (.aload_n 0, 1) := by decide +kernel
theorem d8_2_4 : decode prog_8_method_2_code 4 = .ok (.getfield 26, 3) := by decide +kernel
theorem d8_2_7 : decode prog_8_method_2_code 7 = .ok (.if_icmp .ge 52, 3) := by decide +kernel
theorem d8_2_10 : decode prog_8_method_2_code 10 = .ok (.aload_n 0, 1) := by decide +kernel
theorem d8_2_11 : decode prog_8_method_2_code 11 = .ok (.getfield 30, 3) := by decide +kernel
theorem d8_2_14 : decode prog_8_method_2_code 14 = .ok (.aload_n 0, 1) := by decide +kernel
theorem d8_2_15 : decode prog_8_method_2_code 15 = .ok (.getfield 26, 3) := by decide +kernel
theorem d8_2_18 : decode prog_8_method_2_code 18 = .ok (.if_icmp .ge 41, 3) := by decide +kernel
theorem d8_2_21 : decode prog_8_method_2_code 21 = .ok (.aload_n 0, 1) := by decide +kernel
theorem d8_2_22 : decode prog_8_method_2_code 22 = .ok (.getfield 33, 3) := by decide +kernel
theorem d8_2_25 : decode prog_8_method_2_code 25 = .ok (.ifCond .ne 34, 3) := by decide +kernel
theorem d8_2_28 : decode prog_8_method_2_code 28 = .ok (.aload_n 0, 1) := by decide +kernel
theorem d8_2_29 : decode prog_8_method_2_code 29 = .ok (.getfield 22, 3) := by decide +kernel
theorem d8_2_32 : decode prog_8_method_2_code 32 = .ok (.aload_n 0, 1) := by decide +kernel
theorem d8_2_33 : decode prog_8_method_2_code 33 = .ok (.getfield 30, 3) := by decide +kernel
theorem d8_2_36 : decode prog_8_method_2_code 36 = .ok (.caload, 1) := by decide +kernel
theorem d8_2_37 : decode prog_8_method_2_code 37 = .ok (.istore_n 2, 1) := by decide +kernel
theorem d8_2_38 : decode prog_8_method_2_code 38 = .ok (.aload_n 0, 1) := by decide +kernel
theorem d8_2_39 : decode prog_8_method_2_code 39 = .ok (.dup, 1) := by decide +kernel
theorem d8_2_40 : decode prog_8_method_2_code 40 = .ok (.getfield 30, 3) := by decide +kernel
theorem d8_2_43 : decode prog_8_method_2_code 43 = .ok (.iconst 1, 1) := by decide +kernel
theorem d8_2_44 : decode prog_8_method_2_code 44 = .ok (.iadd, 1) := by decide +kernel
theorem d8_2_45 : decode prog_8_method_2_code 45 = .ok (.putfield 30, 3) := by decide +kernel
theorem d8_2_48 : decode prog_8_method_2_code 48 = .ok (.aload_n 0, 1) := by decide +kernel
theorem d8_2_49 : decode prog_8_method_2_code 49 = .ok (.iload_n 2, 1) := by decide +kernel
theorem d8_2_50 : decode prog_8_method_2_code 50 = .ok (.invokevirtual 36, 3) := by decide +kernel
theorem d8_2_53 : decode prog_8_method_2_code 53 = .ok (.iinc 1 1, 3) := by decide +kernel
theorem d8_2_56 : decode prog_8_method_2_code 56 = .ok (.goto (-54), 3) := by decide +kernel
theorem d8_2_59 : decode prog_8_method_2_code 59 = .ok (.aload_n 0, 1) := by decide +kernel
theorem d8_2_60 : decode prog_8_method_2_code 60 = .ok (.getfield 33, 3) := by decide +kernel
theorem d8_2_63 : decode prog_8_method_2_code 63 = .ok (.ifCond .ne 11, 3) := by decide +kernel
theorem d8_2_66 : decode prog_8_method_2_code 66 = .ok (.aload_n 0, 1) := by decide +kernel
theorem d8_2_67 : decode prog_8_method_2_code 67 = .ok (.aload_n 0, 1) := by decide +kernel
theorem d8_2_68 : decode prog_8_method_2_code 68 = .ok (.invokevirtual 40, 3) := by decide +kernel
theorem d8_2_71 : decode prog_8_method_2_code 71 = .ok (.putfield 33, 3) := by decide +kernel
theorem d8_2_74 : decode prog_8_method_2_code 74 = .ok (.aload_n 0, 1) := by decide +kernel
theorem d8_2_75 : decode prog_8_method_2_code 75 = .ok (.getfield 33, 3) := by decide +kernel
theorem d8_2_78 : decode prog_8_method_2_code 78 = .ok (.ifCond .ne 10, 3) := by decide +kernel
theorem d8_2_81 : decode prog_8_method_2_code 81 = .ok (.aload_n 0, 1) := by decide +kernel
theorem d8_2_82 : decode prog_8_method_2_code 82 = .ok (.getfield 12, 3) := by decide +kernel
theorem d8_2_85 : decode prog_8_method_2_code 85 = .ok (.invokevirtual 44, 3) := by decide +kernel
theorem d8_2_88 : decode prog_8_method_2_code 88 = .ok (.return_, 1) := by decide +kernel
theorem d1_28_0 : decode prog_1_method_28_code 0 = .ok (.aload_n 0, 1) := by decide +kernel
theorem d1_28_1 : decode prog_1_method_28_code 1 = .ok (.getfield 85, 3) := by decide +kernel
theorem d1_28_4 : decode prog_1_method_28_code 4 = .ok (.ifnonnull 29, 3) := by decide +kernel
theorem d1_28_7 : decode prog_1_method_28_code 7 = .ok (.aload_n 0, 1) := by decide +kernel
theorem d1_28_8 : decode prog_1_method_28_code 8 = .ok (.new 94, 3) := by decide +kernel
theorem d1_28_11 : decode prog_1_method_28_code 11 = .ok (.dup, 1) := by decide +kernel
theorem d1_28_12 : decode prog_1_method_28_code 12 = .ok (.aload_n 0, 1) := by decide +kernel
theorem d1_28_13 : decode prog_1_method_28_code 13 = .ok (.getfield 13, 3) := by decide +kernel
theorem d1_28_16 : decode prog_1_method_28_code 16 = .ok (.aload_n 0, 1) := by decide +kernel
theorem d1_28_17 : decode prog_1_method_28_code 17 = .ok (.getfield 82, 3) := by decide +kernel
theorem d1_28_20 : decode prog_1_method_28_code 20 = .ok (.invokespecial 176, 3) := by decide +kernel
theorem d1_28_23 : decode prog_1_method_28_code 23 = .ok (.putfield 85, 3) := by decide +kernel
theorem d1_28_26 : decode prog_1_method_28_code 26 = .ok (.aload_n 0, 1) := by decide +kernel
theorem d1_28_27 : decode prog_1_method_28_code 27 = .ok (.getfield 85, 3) := by decide +kernel
theorem d1_28_30 : decode prog_1_method_28_code 30 = .ok (.invokevirtual 177, 3) := by decide +kernel
theorem d1_28_33 : decode prog_1_method_28_code 33 = .ok (.aload_n 0, 1) := by decide +kernel
theorem d1_28_34 : decode prog_1_method_28_code 34 = .ok (.getfield 85, 3) := by decide +kernel
theorem d1_28_37 : decode prog_1_method_28_code 37 = .ok (.areturn, 1) := by decide +kernel
theorem d1_8_0 : decode prog_1_method_8_code 0 = .ok (.aload_n 0, 1) := by decide +kernel
theorem d1_8_1 : decode prog_1_method_8_code 1 = .ok (.invokevirtual 89, 3) := by decide +kernel
theorem d1_8_4 : decode prog_1_method_8_code 4 = .ok (.getfield 93, 3) := by decide +kernel
theorem d1_8_7 : decode prog_1_method_8_code 7 = .ok (.ireturn, 1) := by decide +kernel
theorem d1_9_0 : decode prog_1_method_9_code 0 = .ok (.aload_n 0, 1) := by decide +kernel
theorem d1_9_1 : decode prog_1_method_9_code 1 = .ok (.invokevirtual 89, 3) := by decide +kernel
theorem d1_9_4 : decode prog_1_method_9_code 4 = .ok (.astore_n 1, 1) := by decide +kernel
theorem d1_9_5 : decode prog_1_method_9_code 5 = .ok (.aload_n 1, 1) := by decide +kernel
theorem d1_9_6 : decode prog_1_method_9_code 6 = .ok (.getfield 93, 3) := by decide +kernel
theorem d1_9_9 : decode prog_1_method_9_code 9 = .ok (.ifCond .ne 13, 3) := by decide +kernel
theorem d1_9_12 : decode prog_1_method_9_code 12 = .ok (.aload_n 1, 1) := by decide +kernel
theorem d1_9_13 : decode prog_1_method_9_code 13 = .ok (.getfield 98, 3) := by decide +kernel
theorem d1_9_16 : decode prog_1_method_9_code 16 = .ok (.invokevirtual 102, 3) := by decide +kernel
theorem d1_9_19 : decode prog_1_method_9_code 19 = .ok (.goto 4, 3) := by decide +kernel
theorem d1_9_22 : decode prog_1_method_9_code 22 = .ok (.iconst (-1), 1) := by decide +kernel
theorem d1_9_23 : decode prog_1_method_9_code 23 = .ok (.ireturn, 1) := by decide +kernel
theorem d1_10_0 : decode prog_1_method_10_code 0 = .ok (.aload_n 0, 1) := by decide +kernel
theorem d1_10_1 : decode prog_1_method_10_code 1 = .ok (.invokevirtual 89, 3) := by decide +kernel
theorem d1_10_4 : decode prog_1_method_10_code 4 = .ok (.astore_n 1, 1) := by decide +kernel
theorem d1_10_5 : decode prog_1_method_10_code 5 = .ok (.aload_n 1, 1) := by decide +kernel
theorem d1_10_6 : decode prog_1_method_10_code 6 = .ok (.getfield 93, 3) := by decide +kernel
theorem d1_10_9 : decode prog_1_method_10_code 9 = .ok (.ifCond .eq 6, 3) := by decide +kernel
theorem d1_10_12 : decode prog_1_method_10_code 12 = .ok (.bipush (-2), 2) := by decide +kernel
theorem d1_10_14 : decode prog_1_method_10_code 14 = .ok (.ireturn, 1) := by decide +kernel
theorem d1_10_15 : decode prog_1_method_10_code 15 = .ok (.aload_n 1, 1) := by decide +kernel
theorem d1_10_16 : decode prog_1_method_10_code 16 = .ok (.getfield 98, 3) := by decide +kernel
theorem d1_10_19 : decode prog_1_method_10_code 19 = .ok (.getfield 107, 3) := by decide +kernel
theorem d1_10_22 : decode prog_1_method_10_code 22 = .ok (.astore_n 2, 1) := by decide +kernel
theorem d1_10_23 : decode prog_1_method_10_code 23 = .ok (.aload_n 2, 1) := by decide +kernel
theorem d1_10_24 : decode prog_1_method_10_code 24 = .ok (.ifnonnull 7, 3) := by decide +kernel
theorem d1_10_27 : decode prog_1_method_10_code 27 = .ok (.iconst (-1), 1) := by decide +kernel
theorem d1_10_28 : decode prog_1_method_10_code 28 = .ok (.goto 7, 3) := by decide +kernel
theorem d1_10_31 : decode prog_1_method_10_code 31 = .ok (.aload_n 2, 1) := by decide +kernel
theorem d1_10_32 : decode prog_1_method_10_code 32 = .ok (.getfield 111, 3) := by decide +kernel
theorem d1_10_35 : decode prog_1_method_10_code 35 = .ok (.ireturn, 1) := by decide +kernel
theorem d1_11_0 : decode prog_1_method_11_code 0 = .ok (.aload_n 0, 1) := by decide +kernel
theorem d1_11_1 : decode prog_1_method_11_code 1 = .ok (.invokevirtual 89, 3) := by decide +kernel
theorem d1_11_4 : decode prog_1_method_11_code 4 = .ok (.astore_n 1, 1) := by decide +kernel
theorem d1_11_5 : decode prog_1_method_11_code 5 = .ok (.aload_n 1, 1) := by decide +kernel
theorem d1_11_6 : decode prog_1_method_11_code 6 = .ok (.getfield 93, 3) := by decide +kernel
theorem d1_11_9 : decode prog_1_method_11_code 9 = .ok (.ifCond .eq 9, 3) := by decide +kernel
theorem d1_11_12 : decode prog_1_method_11_code 12 = .ok (.aload_n 1, 1) := by decide +kernel
theorem d1_11_13 : decode prog_1_method_11_code 13 = .ok (.getfield 93, 3) := by decide +kernel
theorem d1_11_16 : decode prog_1_method_11_code 16 = .ok (.ineg, 1) := by decide +kernel
theorem d1_11_17 : decode prog_1_method_11_code 17 = .ok (.ireturn, 1) := by decide +kernel
theorem d1_11_18 : decode prog_1_method_11_code 18 = .ok (.aload_n 0, 1) := by decide +kernel
theorem d1_11_19 : decode prog_1_method_11_code 19 = .ok (.iconst 0, 1) := by decide +kernel
theorem d1_11_20 : decode prog_1_method_11_code 20 = .ok (.putfield 115, 3) := by decide +kernel
theorem d1_11_23 : decode prog_1_method_11_code 23 = .ok (.aload_n 0, 1) := by decide +kernel
theorem d1_11_24 : decode prog_1_method_11_code 24 = .ok (.iconst 0, 1) := by decide +kernel
theorem d1_11_25 : decode prog_1_method_11_code 25 = .ok (.putfield 118, 3) := by decide +kernel
theorem d1_11_28 : decode prog_1_method_11_code 28 = .ok (.iconst 0, 1) := by decide +kernel
theorem d1_11_29 : decode prog_1_method_11_code 29 = .ok (.istore_n 2, 1) := by decide +kernel
theorem d1_11_30 : decode prog_1_method_11_code 30 = .ok (.iload_n 2, 1) := by decide +kernel
theorem d1_11_31 : decode prog_1_method_11_code 31 = .ok (.bipush 10, 2) := by decide +kernel
theorem d1_11_33 : decode prog_1_method_11_code 33 = .ok (.if_icmp .ge 56, 3) := by decide +kernel
theorem d1_11_36 : decode prog_1_method_11_code 36 = .ok (.aload_n 0, 1) := by decide +kernel
theorem d1_11_37 : decode prog_1_method_11_code 37 = .ok (.getfield 18, 3) := by decide +kernel
theorem d1_11_40 : decode prog_1_method_11_code 40 = .ok (.iload_n 2, 1) := by decide +kernel
theorem d1_11_41 : decode prog_1_method_11_code 41 = .ok (.aaload, 1) := by decide +kernel
theorem d1_11_42 : decode prog_1_method_11_code 42 = .ok (.astore_n 3, 1) := by decide +kernel
theorem d1_11_43 : decode prog_1_method_11_code 43 = .ok (.aload_n 3, 1) := by decide +kernel
theorem d1_11_44 : decode prog_1_method_11_code 44 = .ok (.ifnull 39, 3) := by decide +kernel
theorem d1_11_47 : decode prog_1_method_11_code 47 = .ok (.aload_n 1, 1) := by decide +kernel
theorem d1_11_48 : decode prog_1_method_11_code 48 = .ok (.getfield 98, 3) := by decide +kernel
theorem d1_11_51 : decode prog_1_method_11_code 51 = .ok (.aload_n 3, 1) := by decide +kernel
theorem d1_11_52 : decode prog_1_method_11_code 52 = .ok (.invokevirtual 121, 3) := by decide +kernel
theorem d1_11_55 : decode prog_1_method_11_code 55 = .ok (.ifCond .eq 28, 3) := by decide +kernel
theorem d1_11_58 : decode prog_1_method_11_code 58 = .ok (.aload_n 0, 1) := by decide +kernel
theorem d1_11_59 : decode prog_1_method_11_code 59 = .ok (.dup, 1) := by decide +kernel
theorem d1_11_60 : decode prog_1_method_11_code 60 = .ok (.getfield 118, 3) := by decide +kernel
theorem d1_11_63 : decode prog_1_method_11_code 63 = .ok (.iconst 1, 1) := by decide +kernel
theorem d1_11_64 : decode prog_1_method_11_code 64 = .ok (.iload_n 2, 1) := by decide +kernel
theorem d1_11_65 : decode prog_1_method_11_code 65 = .ok (.ishl, 1) := by decide +kernel
theorem d1_11_66 : decode prog_1_method_11_code 66 = .ok (.ior, 1) := by decide +kernel
theorem d1_11_67 : decode prog_1_method_11_code 67 = .ok (.putfield 118, 3) := by decide +kernel
theorem d1_11_70 : decode prog_1_method_11_code 70 = .ok (.aload_n 0, 1) := by decide +kernel
theorem d1_11_71 : decode prog_1_method_11_code 71 = .ok (.aload_n 1, 1) := by decide +kernel
theorem d1_11_72 : decode prog_1_method_11_code 72 = .ok (.getfield 98, 3) := by decide +kernel
theorem d1_11_75 : decode prog_1_method_11_code 75 = .ok (.aload_n 3, 1) := by decide +kernel
theorem d1_11_76 : decode prog_1_method_11_code 76 = .ok (.getfield 76, 3) := by decide +kernel
theorem d1_11_79 : decode prog_1_method_11_code 79 = .ok (.iload_n 2, 1) := by decide +kernel
theorem d1_11_80 : decode prog_1_method_11_code 80 = .ok (.invokevirtual 125, 3) := by decide +kernel
theorem d1_11_83 : decode prog_1_method_11_code 83 = .ok (.iinc 2 1, 3) := by decide +kernel
theorem d1_11_86 : decode prog_1_method_11_code 86 = .ok (.goto (-56), 3) := by decide +kernel
theorem d1_11_89 : decode prog_1_method_11_code 89 = .ok (.aload_n 0, 1) := by decide +kernel
theorem d1_11_90 : decode prog_1_method_11_code 90 = .ok (.getfield 115, 3) := by decide +kernel
theorem d1_11_93 : decode prog_1_method_11_code 93 = .ok (.ireturn, 1) := by decide +kernel
theorem d1_12_0 : decode prog_1_method_12_code 0 = .ok (.aload_n 0, 1) := by decide +kernel
theorem d1_12_1 : decode prog_1_method_12_code 1 = .ok (.getfield 118, 3) := by decide +kernel
theorem d1_12_4 : decode prog_1_method_12_code 4 = .ok (.ireturn, 1) := by decide +kernel
theorem d1_18_0 : decode prog_1_method_18_code 0 = .ok (.aload_n 0, 1) := by decide +kernel
theorem d1_18_1 : decode prog_1_method_18_code 1 = .ok (.getfield 149, 3) := by decide +kernel
theorem d1_18_4 : decode prog_1_method_18_code 4 = .ok (.ireturn, 1) := by decide +kernel
theorem d1_14_0 : decode prog_1_method_14_code 0 = .ok (.aload_n 0, 1) := by decide +kernel
theorem d1_14_1 : decode prog_1_method_14_code 1 = .ok (.getfield 34, 3) := by decide +kernel
theorem d1_14_4 : decode prog_1_method_14_code 4 = .ok (.invokevirtual 129, 3) := by decide +kernel
theorem d1_14_7 : decode prog_1_method_14_code 7 = .ok (.ireturn, 1) := by decide +kernel
theorem d1_13_0 : decode prog_1_method_13_code 0 = .ok (.iload_n 1, 1) := by decide +kernel
theorem d1_13_1 : decode prog_1_method_13_code 1 = .ok (.ifCond .lt 20, 3) := by decide +kernel
theorem d1_13_4 : decode prog_1_method_13_code 4 = .ok (.iload_n 1, 1) := by decide +kernel
theorem d1_13_5 : decode prog_1_method_13_code 5 = .ok (.aload_n 0, 1) := by decide +kernel
theorem d1_13_6 : decode prog_1_method_13_code 6 = .ok (.getfield 115, 3) := by decide +kernel
theorem d1_13_9 : decode prog_1_method_13_code 9 = .ok (.if_icmp .ge 12, 3) := by decide +kernel
theorem d1_13_12 : decode prog_1_method_13_code 12 = .ok (.aload_n 0, 1) := by decide +kernel
theorem d1_13_13 : decode prog_1_method_13_code 13 = .ok (.getfield 38, 3) := by decide +kernel
theorem d1_13_16 : decode prog_1_method_13_code 16 = .ok (.iload_n 1, 1) := by decide +kernel
theorem d1_13_17 : decode prog_1_method_13_code 17 = .ok (.iaload, 1) := by decide +kernel
theorem d1_13_18 : decode prog_1_method_13_code 18 = .ok (.goto 4, 3) := by decide +kernel
theorem d1_13_21 : decode prog_1_method_13_code 21 = .ok (.iconst (-1), 1) := by decide +kernel
theorem d1_13_22 : decode prog_1_method_13_code 22 = .ok (.ireturn, 1) := by decide +kernel
theorem d10_5_0 : decode prog_10_method_5_code 0 = .ok (.iconst 0, 1) := by decide +kernel
theorem d10_5_1 : decode prog_10_method_5_code 1 = .ok (.istore_n 1, 1) := by decide +kernel
theorem d10_5_2 : decode prog_10_method_5_code 2 = .ok (.iconst 0, 1) := by decide +kernel
theorem d10_5_3 : decode prog_10_method_5_code 3 = .ok (.istore_n 2, 1) := by decide +kernel
theorem d10_5_4 : decode prog_10_method_5_code 4 = .ok (.iload_n 2, 1) := by decide +kernel
theorem d10_5_5 : decode prog_10_method_5_code 5 = .ok (.aload_n 0, 1) := by decide +kernel
theorem d10_5_6 : decode prog_10_method_5_code 6 = .ok (.getfield 10, 3) := by decide +kernel
theorem d10_5_9 : decode prog_10_method_5_code 9 = .ok (.invokevirtual 24, 3) := by decide +kernel
theorem d10_5_12 : decode prog_10_method_5_code 12 = .ok (.if_icmp .ge 34, 3) := by decide +kernel
theorem d10_5_15 : decode prog_10_method_5_code 15 = .ok (.iload_n 1, 1) := by decide +kernel
theorem d10_5_16 : decode prog_10_method_5_code 16 = .ok (.aload_n 0, 1) := by decide +kernel
theorem d10_5_17 : decode prog_10_method_5_code 17 = .ok (.getfield 10, 3) := by decide +kernel
theorem d10_5_20 : decode prog_10_method_5_code 20 = .ok (.iload_n 2, 1) := by decide +kernel
theorem d10_5_21 : decode prog_10_method_5_code 21 = .ok (.invokevirtual 28, 3) := by decide +kernel
theorem d10_5_24 : decode prog_10_method_5_code 24 = .ok (.checkcast 32, 3) := by decide +kernel
theorem d10_5_27 : decode prog_10_method_5_code 27 = .ok (.getfield 34, 3) := by decide +kernel
theorem d10_5_30 : decode prog_10_method_5_code 30 = .ok (.ifCond .eq 7, 3) := by decide +kernel
theorem d10_5_33 : decode prog_10_method_5_code 33 = .ok (.iconst 1, 1) := by decide +kernel
theorem d10_5_34 : decode prog_10_method_5_code 34 = .ok (.goto 4, 3) := by decide +kernel
theorem d10_5_37 : decode prog_10_method_5_code 37 = .ok (.iconst 0, 1) := by decide +kernel
theorem d10_5_38 : decode prog_10_method_5_code 38 = .ok (.iadd, 1) := by decide +kernel
theorem d10_5_39 : decode prog_10_method_5_code 39 = .ok (.istore_n 1, 1) := by decide +kernel
theorem d10_5_40 : decode prog_10_method_5_code 40 = .ok (.iinc 2 1, 3) := by decide +kernel
theorem d10_5_43 : decode prog_10_method_5_code 43 = .ok (.goto (-39), 3) := by decide +kernel
theorem d10_5_46 : decode prog_10_method_5_code 46 = .ok (.iload_n 1, 1) := by decide +kernel
theorem d10_5_47 : decode prog_10_method_5_code 47 = .ok (.ireturn, 1) := by decide +kernel
theorem d10_6_0 : decode prog_10_method_6_code 0 = .ok (.iconst 0, 1) := by decide +kernel
theorem d10_6_1 : decode prog_10_method_6_code 1 = .ok (.istore 4, 2) := by decide +kernel
theorem d10_6_3 : decode prog_10_method_6_code 3 = .ok (.iconst 0, 1) := by decide +kernel
theorem d10_6_4 : decode prog_10_method_6_code 4 = .ok (.istore 5, 2) := by decide +kernel
theorem d10_6_6 : decode prog_10_method_6_code 6 = .ok (.iload 5, 2) := by decide +kernel
theorem d10_6_8 : decode prog_10_method_6_code 8 = .ok (.aload_n 0, 1) := by decide +kernel
theorem d10_6_9 : decode prog_10_method_6_code 9 = .ok (.getfield 10, 3) := by decide +kernel
theorem d10_6_12 : decode prog_10_method_6_code 12 = .ok (.invokevirtual 24, 3) := by decide +kernel
theorem d10_6_15 : decode prog_10_method_6_code 15 = .ok (.if_icmp .ge 40, 3) := by decide +kernel
theorem d10_6_18 : decode prog_10_method_6_code 18 = .ok (.iload 4, 2) := by decide +kernel
theorem d10_6_20 : decode prog_10_method_6_code 20 = .ok (.aload_n 0, 1) := by decide +kernel
theorem d10_6_21 : decode prog_10_method_6_code 21 = .ok (.getfield 10, 3) := by decide +kernel
theorem d10_6_24 : decode prog_10_method_6_code 24 = .ok (.iload 5, 2) := by decide +kernel
theorem d10_6_26 : decode prog_10_method_6_code 26 = .ok (.invokevirtual 28, 3) := by decide +kernel
theorem d10_6_29 : decode prog_10_method_6_code 29 = .ok (.checkcast 32, 3) := by decide +kernel
theorem d10_6_32 : decode prog_10_method_6_code 32 = .ok (.iload_n 1, 1) := by decide +kernel
theorem d10_6_33 : decode prog_10_method_6_code 33 = .ok (.iload_n 2, 1) := by decide +kernel
theorem d10_6_34 : decode prog_10_method_6_code 34 = .ok (.iload_n 3, 1) := by decide +kernel
theorem d10_6_35 : decode prog_10_method_6_code 35 = .ok (.invokevirtual 38, 3) := by decide +kernel
theorem d10_6_38 : decode prog_10_method_6_code 38 = .ok (.ifCond .eq 7, 3) := by decide +kernel
theorem d10_6_41 : decode prog_10_method_6_code 41 = .ok (.iconst 1, 1) := by decide +kernel
theorem d10_6_42 : decode prog_10_method_6_code 42 = .ok (.goto 4, 3) := by decide +kernel
theorem d10_6_45 : decode prog_10_method_6_code 45 = .ok (.iconst 0, 1) := by decide +kernel
theorem d10_6_46 : decode prog_10_method_6_code 46 = .ok (.iadd, 1) := by decide +kernel
theorem d10_6_47 : decode prog_10_method_6_code 47 = .ok (.istore 4, 2) := by decide +kernel
theorem d10_6_49 : decode prog_10_method_6_code 49 = .ok (.iinc 5 1, 3) := by decide +kernel
theorem d10_6_52 : decode prog_10_method_6_code 52 = .ok (.goto (-46), 3) := by decide +kernel
theorem d10_6_55 : decode prog_10_method_6_code 55 = .ok (.iload 4, 2) := by decide +kernel
theorem d10_6_57 : decode prog_10_method_6_code 57 = .ok (.ireturn, 1) := by decide +kernel
theorem d1_16_0 : decode prog_1_method_16_code 0 = .ok (.iload_n 1, 1) := by decide +kernel
theorem d1_16_1 : decode prog_1_method_16_code 1 = .ok (.invokestatic 42, 3) := by decide +kernel
theorem d1_16_4 : decode prog_1_method_16_code 4 = .ok (.ifCond .eq 17, 3) := by decide +kernel
theorem d1_16_7 : decode prog_1_method_16_code 7 = .ok (.iload_n 2, 1) := by decide +kernel
theorem d1_16_8 : decode prog_1_method_16_code 8 = .ok (.invokestatic 42, 3) := by decide +kernel
theorem d1_16_11 : decode prog_1_method_16_code 11 = .ok (.ifCond .eq 10, 3) := by decide +kernel
theorem d1_16_14 : decode prog_1_method_16_code 14 = .ok (.iload_n 3, 1) := by decide +kernel
theorem d1_16_15 : decode prog_1_method_16_code 15 = .ok (.invokestatic 42, 3) := by decide +kernel
theorem d1_16_18 : decode prog_1_method_16_code 18 = .ok (.ifCond .ne 5, 3) := by decide +kernel
theorem d1_16_21 : decode prog_1_method_16_code 21 = .ok (.iconst 0, 1) := by decide +kernel
theorem d1_16_22 : decode prog_1_method_16_code 22 = .ok (.ireturn, 1) := by decide +kernel
theorem d1_16_23 : decode prog_1_method_16_code 23 = .ok (.aload_n 0, 1) := by decide +kernel
theorem d1_16_24 : decode prog_1_method_16_code 24 = .ok (.getfield 27, 3) := by decide +kernel
theorem d1_16_27 : decode prog_1_method_16_code 27 = .ok (.iload_n 1, 1) := by decide +kernel
theorem d1_16_28 : decode prog_1_method_16_code 28 = .ok (.iload_n 2, 1) := by decide +kernel
theorem d1_16_29 : decode prog_1_method_16_code 29 = .ok (.iload_n 3, 1) := by decide +kernel
theorem d1_16_30 : decode prog_1_method_16_code 30 = .ok (.invokevirtual 142, 3) := by decide +kernel
theorem d1_16_33 : decode prog_1_method_16_code 33 = .ok (.istore 4, 2) := by decide +kernel
theorem d1_16_35 : decode prog_1_method_16_code 35 = .ok (.iconst 0, 1) := by decide +kernel
theorem d1_16_36 : decode prog_1_method_16_code 36 = .ok (.istore 5, 2) := by decide +kernel
theorem d1_16_38 : decode prog_1_method_16_code 38 = .ok (.iload 5, 2) := by decide +kernel
theorem d1_16_40 : decode prog_1_method_16_code 40 = .ok (.aload_n 0, 1) := by decide +kernel
theorem d1_16_41 : decode prog_1_method_16_code 41 = .ok (.getfield 34, 3) := by decide +kernel
theorem d1_16_44 : decode prog_1_method_16_code 44 = .ok (.invokevirtual 129, 3) := by decide +kernel
theorem d1_16_47 : decode prog_1_method_16_code 47 = .ok (.if_icmp .ge 32, 3) := by decide +kernel
theorem d1_16_50 : decode prog_1_method_16_code 50 = .ok (.iload 4, 2) := by decide +kernel
theorem d1_16_52 : decode prog_1_method_16_code 52 = .ok (.aload_n 0, 1) := by decide +kernel
theorem d1_16_53 : decode prog_1_method_16_code 53 = .ok (.getfield 34, 3) := by decide +kernel
theorem d1_16_56 : decode prog_1_method_16_code 56 = .ok (.iload 5, 2) := by decide +kernel
theorem d1_16_58 : decode prog_1_method_16_code 58 = .ok (.invokevirtual 132, 3) := by decide +kernel
theorem d1_16_61 : decode prog_1_method_16_code 61 = .ok (.checkcast 22, 3) := by decide +kernel
theorem d1_16_64 : decode prog_1_method_16_code 64 = .ok (.iload_n 1, 1) := by decide +kernel
theorem d1_16_65 : decode prog_1_method_16_code 65 = .ok (.iload_n 2, 1) := by decide +kernel
theorem d1_16_66 : decode prog_1_method_16_code 66 = .ok (.iload_n 3, 1) := by decide +kernel
theorem d1_16_67 : decode prog_1_method_16_code 67 = .ok (.invokevirtual 142, 3) := by decide +kernel
theorem d1_16_70 : decode prog_1_method_16_code 70 = .ok (.iadd, 1) := by decide +kernel
theorem d1_16_71 : decode prog_1_method_16_code 71 = .ok (.istore 4, 2) := by decide +kernel
theorem d1_16_73 : decode prog_1_method_16_code 73 = .ok (.iinc 5 1, 3) := by decide +kernel
theorem d1_16_76 : decode prog_1_method_16_code 76 = .ok (.goto (-38), 3) := by decide +kernel
theorem d1_16_79 : decode prog_1_method_16_code 79 = .ok (.iload 4, 2) := by decide +kernel
theorem d1_16_81 : decode prog_1_method_16_code 81 = .ok (.ireturn, 1) := by decide +kernel
theorem d1_17_0 : decode prog_1_method_17_code 0 = .ok (.aload_n 0, 1) := by decide +kernel
theorem d1_17_1 : decode prog_1_method_17_code 1 = .ok (.getfield 27, 3) := by decide +kernel
theorem d1_17_4 : decode prog_1_method_17_code 4 = .ok (.invokevirtual 66, 3) := by decide +kernel
theorem d1_17_7 : decode prog_1_method_17_code 7 = .ok (.ifCond .le 7, 3) := by decide +kernel
theorem d1_17_10 : decode prog_1_method_17_code 10 = .ok (.aload_n 0, 1) := by decide +kernel
theorem d1_17_11 : decode prog_1_method_17_code 11 = .ok (.invokevirtual 70, 3) := by decide +kernel
theorem d1_17_14 : decode prog_1_method_17_code 14 = .ok (.iconst 0, 1) := by decide +kernel
theorem d1_17_15 : decode prog_1_method_17_code 15 = .ok (.istore_n 1, 1) := by decide +kernel
theorem d1_17_16 : decode prog_1_method_17_code 16 = .ok (.aload_n 0, 1) := by decide +kernel
theorem d1_17_17 : decode prog_1_method_17_code 17 = .ok (.getfield 34, 3) := by decide +kernel
theorem d1_17_20 : decode prog_1_method_17_code 20 = .ok (.invokevirtual 129, 3) := by decide +kernel
theorem d1_17_23 : decode prog_1_method_17_code 23 = .ok (.istore_n 2, 1) := by decide +kernel
theorem d1_17_24 : decode prog_1_method_17_code 24 = .ok (.iconst 1, 1) := by decide +kernel
theorem d1_17_25 : decode prog_1_method_17_code 25 = .ok (.istore_n 3, 1) := by decide +kernel
theorem d1_17_26 : decode prog_1_method_17_code 26 = .ok (.iload_n 3, 1) := by decide +kernel
theorem d1_17_27 : decode prog_1_method_17_code 27 = .ok (.iload_n 2, 1) := by decide +kernel
theorem d1_17_28 : decode prog_1_method_17_code 28 = .ok (.if_icmp .ge 27, 3) := by decide +kernel
theorem d1_17_31 : decode prog_1_method_17_code 31 = .ok (.aload_n 0, 1) := by decide +kernel
theorem d1_17_32 : decode prog_1_method_17_code 32 = .ok (.getfield 34, 3) := by decide +kernel
theorem d1_17_35 : decode prog_1_method_17_code 35 = .ok (.invokevirtual 129, 3) := by decide +kernel
theorem d1_17_38 : decode prog_1_method_17_code 38 = .ok (.iconst 2, 1) := by decide +kernel
theorem d1_17_39 : decode prog_1_method_17_code 39 = .ok (.if_icmp .lt 16, 3) := by decide +kernel
theorem d1_17_42 : decode prog_1_method_17_code 42 = .ok (.aload_n 0, 1) := by decide +kernel
theorem d1_17_43 : decode prog_1_method_17_code 43 = .ok (.invokevirtual 146, 3) := by decide +kernel
theorem d1_17_46 : decode prog_1_method_17_code 46 = .ok (.iinc 1 1, 3) := by decide +kernel
theorem d1_17_49 : decode prog_1_method_17_code 49 = .ok (.iinc 3 1, 3) := by decide +kernel
theorem d1_17_52 : decode prog_1_method_17_code 52 = .ok (.goto (-26), 3) := by decide +kernel
theorem d1_17_55 : decode prog_1_method_17_code 55 = .ok (.iload_n 1, 1) := by decide +kernel
theorem d1_17_56 : decode prog_1_method_17_code 56 = .ok (.ireturn, 1) := by decide +kernel
theorem d1_15_0 : decode prog_1_method_15_code 0 = .ok (.aconst_null, 1) := by decide +kernel
theorem d1_15_1 : decode prog_1_method_15_code 1 = .ok (.astore_n 3, 1) := by decide +kernel
theorem d1_15_2 : decode prog_1_method_15_code 2 = .ok (.iload_n 1, 1) := by decide +kernel
theorem d1_15_3 : decode prog_1_method_15_code 3 = .ok (.iconst (-1), 1) := by decide +kernel
theorem d1_15_4 : decode prog_1_method_15_code 4 = .ok (.if_icmp .ne 11, 3) := by decide +kernel
theorem d1_15_7 : decode prog_1_method_15_code 7 = .ok (.aload_n 0, 1) := by decide +kernel
theorem d1_15_8 : decode prog_1_method_15_code 8 = .ok (.getfield 27, 3) := by decide +kernel
theorem d1_15_11 : decode prog_1_method_15_code 11 = .ok (.astore_n 3, 1) := by decide +kernel
theorem d1_15_12 : decode prog_1_method_15_code 12 = .ok (.goto 30, 3) := by decide +kernel
theorem d1_15_15 : decode prog_1_method_15_code 15 = .ok (.iload_n 1, 1) := by decide +kernel
theorem d1_15_16 : decode prog_1_method_15_code 16 = .ok (.ifCond .lt 26, 3) := by decide +kernel
theorem d1_15_19 : decode prog_1_method_15_code 19 = .ok (.iload_n 1, 1) := by decide +kernel
theorem d1_15_20 : decode prog_1_method_15_code 20 = .ok (.aload_n 0, 1) := by decide +kernel
theorem d1_15_21 : decode prog_1_method_15_code 21 = .ok (.getfield 34, 3) := by decide +kernel
theorem d1_15_24 : decode prog_1_method_15_code 24 = .ok (.invokevirtual 129, 3) := by decide +kernel
theorem d1_15_27 : decode prog_1_method_15_code 27 = .ok (.if_icmp .ge 15, 3) := by decide +kernel
theorem d1_15_30 : decode prog_1_method_15_code 30 = .ok (.aload_n 0, 1) := by decide +kernel
theorem d1_15_31 : decode prog_1_method_15_code 31 = .ok (.getfield 34, 3) := by decide +kernel
theorem d1_15_34 : decode prog_1_method_15_code 34 = .ok (.iload_n 1, 1) := by decide +kernel
theorem d1_15_35 : decode prog_1_method_15_code 35 = .ok (.invokevirtual 132, 3) := by decide +kernel
theorem d1_15_38 : decode prog_1_method_15_code 38 = .ok (.checkcast 22, 3) := by decide +kernel
theorem d1_15_41 : decode prog_1_method_15_code 41 = .ok (.astore_n 3, 1) := by decide +kernel
theorem d1_15_42 : decode prog_1_method_15_code 42 = .ok (.aload_n 3, 1) := by decide +kernel
theorem d1_15_43 : decode prog_1_method_15_code 43 = .ok (.ifnonnull 5, 3) := by decide +kernel
theorem d1_15_46 : decode prog_1_method_15_code 46 = .ok (.iconst (-1), 1) := by decide +kernel
theorem d1_15_47 : decode prog_1_method_15_code 47 = .ok (.ireturn, 1) := by decide +kernel
theorem d1_15_48 : decode prog_1_method_15_code 48 = .ok (.iload_n 2, 1) := by decide +kernel
theorem d1_15_49 : decode prog_1_method_15_code 49 = .ok (.tableswitch 42 0 2 #[27, 32, 37], 27) := by decide +kernel
theorem d1_15_76 : decode prog_1_method_15_code 76 = .ok (.aload_n 3, 1) := by decide +kernel
theorem d1_15_77 : decode prog_1_method_15_code 77 = .ok (.getfield 136, 3) := by decide +kernel
theorem d1_15_80 : decode prog_1_method_15_code 80 = .ok (.ireturn, 1) := by decide +kernel
theorem d1_15_81 : decode prog_1_method_15_code 81 = .ok (.aload_n 3, 1) := by decide +kernel
theorem d1_15_82 : decode prog_1_method_15_code 82 = .ok (.invokevirtual 66, 3) := by decide +kernel
theorem d1_15_85 : decode prog_1_method_15_code 85 = .ok (.ireturn, 1) := by decide +kernel
theorem d1_15_86 : decode prog_1_method_15_code 86 = .ok (.aload_n 3, 1) := by decide +kernel
theorem d1_15_87 : decode prog_1_method_15_code 87 = .ok (.invokevirtual 139, 3) := by decide +kernel
theorem d1_15_90 : decode prog_1_method_15_code 90 = .ok (.ireturn, 1) := by decide +kernel
theorem d1_15_91 : decode prog_1_method_15_code 91 = .ok (.iconst (-1), 1) := by decide +kernel
theorem d1_15_92 : decode prog_1_method_15_code 92 = .ok (.ireturn, 1) := by decide +kernel
theorem d11_1_0 : decode prog_11_method_1_code 0 = .ok (.aload_n 0, 1) := by decide +kernel
theorem d11_1_1 : decode prog_11_method_1_code 1 = .ok (.invokespecial 1, 3) := by decide +kernel
theorem d11_1_4 : decode prog_11_method_1_code 4 = .ok (.aload_n 0, 1) := by decide +kernel
theorem d11_1_5 : decode prog_11_method_1_code 5 = .ok (.iconst 1, 1) := by decide +kernel
theorem d11_1_6 : decode prog_11_method_1_code 6 = .ok (.putfield 7, 3) := by decide +kernel
theorem d11_1_9 : decode prog_11_method_1_code 9 = .ok (.aload_n 0, 1) := by decide +kernel
theorem d11_1_10 : decode prog_11_method_1_code 10 = .ok (.iload_n 2, 1) := by decide +kernel
theorem d11_1_11 : decode prog_11_method_1_code 11 = .ok (.newarray .char, 2) := by decide +kernel
theorem d11_1_13 : decode prog_11_method_1_code 13 = .ok (.putfield 13, 3) := by decide +kernel
theorem d11_1_16 : decode prog_11_method_1_code 16 = .ok (.aload_n 1, 1) := by decide +kernel
theorem d11_1_17 : decode prog_11_method_1_code 17 = .ok (.iconst 0, 1) := by decide +kernel
theorem d11_1_18 : decode prog_11_method_1_code 18 = .ok (.aload_n 0, 1) := by decide +kernel
theorem d11_1_19 : decode prog_11_method_1_code 19 = .ok (.getfield 13, 3) := by decide +kernel
theorem d11_1_22 : decode prog_11_method_1_code 22 = .ok (.iconst 0, 1) := by decide +kernel
theorem d11_1_23 : decode prog_11_method_1_code 23 = .ok (.iload_n 2, 1) := by decide +kernel
theorem d11_1_24 : decode prog_11_method_1_code 24 = .ok (.invokestatic 17, 3) := by decide +kernel
theorem d11_1_27 : decode prog_11_method_1_code 27 = .ok (.return_, 1) := by decide +kernel
theorem d1_3_0 : decode prog_1_method_3_code 0 = .ok (.iload_n 1, 1) := by decide +kernel
theorem d1_3_1 : decode prog_1_method_3_code 1 = .ok (.invokestatic 50, 3) := by decide +kernel
theorem d1_3_4 : decode prog_1_method_3_code 4 = .ok (.ifCond .ne 5, 3) := by decide +kernel
theorem d1_3_7 : decode prog_1_method_3_code 7 = .ok (.iconst (-1), 1) := by decide +kernel
theorem d1_3_8 : decode prog_1_method_3_code 8 = .ok (.ireturn, 1) := by decide +kernel
theorem d1_3_9 : decode prog_1_method_3_code 9 = .ok (.aload_n 0, 1) := by decide +kernel
theorem d1_3_10 : decode prog_1_method_3_code 10 = .ok (.iload_n 1, 1) := by decide +kernel
theorem d1_3_11 : decode prog_1_method_3_code 11 = .ok (.invokevirtual 53, 3) := by decide +kernel
theorem d1_3_14 : decode prog_1_method_3_code 14 = .ok (.pop, 1) := by decide +kernel
theorem d1_3_15 : decode prog_1_method_3_code 15 = .ok (.new 16, 3) := by decide +kernel
theorem d1_3_18 : decode prog_1_method_3_code 18 = .ok (.dup, 1) := by decide +kernel
theorem d1_3_19 : decode prog_1_method_3_code 19 = .ok (.aload_n 0, 1) := by decide +kernel
theorem d1_3_20 : decode prog_1_method_3_code 20 = .ok (.getfield 9, 3) := by decide +kernel
theorem d1_3_23 : decode prog_1_method_3_code 23 = .ok (.aload_n 0, 1) := by decide +kernel
theorem d1_3_24 : decode prog_1_method_3_code 24 = .ok (.getfield 46, 3) := by decide +kernel
theorem d1_3_27 : decode prog_1_method_3_code 27 = .ok (.invokespecial 56, 3) := by decide +kernel
theorem d1_3_30 : decode prog_1_method_3_code 30 = .ok (.astore_n 2, 1) := by decide +kernel
theorem d1_3_31 : decode prog_1_method_3_code 31 = .ok (.aload_n 0, 1) := by decide +kernel
theorem d1_3_32 : decode prog_1_method_3_code 32 = .ok (.iconst 0, 1) := by decide +kernel
theorem d1_3_33 : decode prog_1_method_3_code 33 = .ok (.putfield 46, 3) := by decide +kernel
theorem d1_3_36 : decode prog_1_method_3_code 36 = .ok (.aload_n 0, 1) := by decide +kernel
theorem d1_3_37 : decode prog_1_method_3_code 37 = .ok (.getfield 18, 3) := by decide +kernel
theorem d1_3_40 : decode prog_1_method_3_code 40 = .ok (.iload_n 1, 1) := by decide +kernel
theorem d1_3_41 : decode prog_1_method_3_code 41 = .ok (.aload_n 2, 1) := by decide +kernel
theorem d1_3_42 : decode prog_1_method_3_code 42 = .ok (.aastore, 1) := by decide +kernel
theorem d1_3_43 : decode prog_1_method_3_code 43 = .ok (.aload_n 0, 1) := by decide +kernel
theorem d1_3_44 : decode prog_1_method_3_code 44 = .ok (.dup, 1) := by decide +kernel
theorem d1_3_45 : decode prog_1_method_3_code 45 = .ok (.getfield 59, 3) := by decide +kernel
theorem d1_3_48 : decode prog_1_method_3_code 48 = .ok (.iconst 1, 1) := by decide +kernel
theorem d1_3_49 : decode prog_1_method_3_code 49 = .ok (.iadd, 1) := by decide +kernel
theorem d1_3_50 : decode prog_1_method_3_code 50 = .ok (.putfield 59, 3) := by decide +kernel
theorem d1_3_53 : decode prog_1_method_3_code 53 = .ok (.aload_n 0, 1) := by decide +kernel
theorem d1_3_54 : decode prog_1_method_3_code 54 = .ok (.getfield 27, 3) := by decide +kernel
theorem d1_3_57 : decode prog_1_method_3_code 57 = .ok (.aload_n 2, 1) := by decide +kernel
theorem d1_3_58 : decode prog_1_method_3_code 58 = .ok (.invokevirtual 62, 3) := by decide +kernel
theorem d1_3_61 : decode prog_1_method_3_code 61 = .ok (.aload_n 0, 1) := by decide +kernel
theorem d1_3_62 : decode prog_1_method_3_code 62 = .ok (.getfield 27, 3) := by decide +kernel
theorem d1_3_65 : decode prog_1_method_3_code 65 = .ok (.invokevirtual 66, 3) := by decide +kernel
theorem d1_3_68 : decode prog_1_method_3_code 68 = .ok (.iconst 3, 1) := by decide +kernel
theorem d1_3_69 : decode prog_1_method_3_code 69 = .ok (.if_icmp .lt 11, 3) := by decide +kernel
theorem d1_3_72 : decode prog_1_method_3_code 72 = .ok (.aload_n 0, 1) := by decide +kernel
theorem d1_3_73 : decode prog_1_method_3_code 73 = .ok (.invokevirtual 70, 3) := by decide +kernel
theorem d1_3_76 : decode prog_1_method_3_code 76 = .ok (.aload_n 0, 1) := by decide +kernel
theorem d1_3_77 : decode prog_1_method_3_code 77 = .ok (.invokevirtual 73, 3) := by decide +kernel
theorem d1_3_80 : decode prog_1_method_3_code 80 = .ok (.aload_n 0, 1) := by decide +kernel
theorem d1_3_81 : decode prog_1_method_3_code 81 = .ok (.getfield 59, 3) := by decide +kernel
theorem d1_3_84 : decode prog_1_method_3_code 84 = .ok (.ireturn, 1) := by decide +kernel
