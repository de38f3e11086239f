theorem d4_9_0 : decode prog_4_method_9_code 0 = .ok (.lload_n 1, 1) := by decide +kernel
theorem d4_9_1 : decode prog_4_method_9_code 1 = .ok (.aload_n 0, 1) := by decide +kernel
theorem d4_9_2 : decode prog_4_method_9_code 2 = .ok (.getfield 51, 3) := by decide +kernel
theorem d4_9_5 : decode prog_4_method_9_code 5 = .ok (.land, 1) := by decide +kernel
theorem d4_9_6 : decode prog_4_method_9_code 6 = .ok (.iconst 1, 1) := by decide +kernel
theorem d4_9_7 : decode prog_4_method_9_code 7 = .ok (.lshl, 1) := by decide +kernel
theorem d4_9_8 : decode prog_4_method_9_code 8 = .ok (.lreturn, 1) := by decide +kernel
theorem d2_6_0 : decode prog_2_method_6_code 0 = .ok (.lload_n 1, 1) := by decide +kernel
theorem d2_6_1 : decode prog_2_method_6_code 1 = .ok (.aload_n 0, 1) := by decide +kernel
theorem d2_6_2 : decode prog_2_method_6_code 2 = .ok (.getfield 23, 3) := by decide +kernel
theorem d2_6_5 : decode prog_2_method_6_code 5 = .ok (.land, 1) := by decide +kernel
theorem d2_6_6 : decode prog_2_method_6_code 6 = .ok (.lreturn, 1) := by decide +kernel
theorem d9_6_0 : decode prog_9_method_6_code 0 = .ok (.lload_n 1, 1) := by decide +kernel
theorem d9_6_1 : decode prog_9_method_6_code 1 = .ok (.lstore_n 3, 1) := by decide +kernel
theorem d9_6_2 : decode prog_9_method_6_code 2 = .ok (.iconst 0, 1) := by decide +kernel
theorem d9_6_3 : decode prog_9_method_6_code 3 = .ok (.istore 5, 2) := by decide +kernel
theorem d9_6_5 : decode prog_9_method_6_code 5 = .ok (.iload 5, 2) := by decide +kernel
theorem d9_6_7 : decode prog_9_method_6_code 7 = .ok (.aload_n 0, 1) := by decide +kernel
theorem d9_6_8 : decode prog_9_method_6_code 8 = .ok (.getfield 22, 3) := by decide +kernel
theorem d9_6_11 : decode prog_9_method_6_code 11 = .ok (.if_icmp .ge 24, 3) := by decide +kernel
theorem d9_6_14 : decode prog_9_method_6_code 14 = .ok (.lload_n 3, 1) := by decide +kernel
theorem d9_6_15 : decode prog_9_method_6_code 15 = .ok (.lconst 0, 1) := by decide +kernel
theorem d9_6_16 : decode prog_9_method_6_code 16 = .ok (.lcmp, 1) := by decide +kernel
theorem d9_6_17 : decode prog_9_method_6_code 17 = .ok (.ifCond .eq 18, 3) := by decide +kernel
theorem d9_6_20 : decode prog_9_method_6_code 20 = .ok (.aload_n 0, 1) := by decide +kernel
theorem d9_6_21 : decode prog_9_method_6_code 21 = .ok (.getfield 18, 3) := by decide +kernel
theorem d9_6_24 : decode prog_9_method_6_code 24 = .ok (.lload_n 3, 1) := by decide +kernel
theorem d9_6_25 : decode prog_9_method_6_code 25 = .ok (.invokevirtual 73, 3) := by decide +kernel
theorem d9_6_28 : decode prog_9_method_6_code 28 = .ok (.lstore_n 3, 1) := by decide +kernel
theorem d9_6_29 : decode prog_9_method_6_code 29 = .ok (.iinc 5 1, 3) := by decide +kernel
theorem d9_6_32 : decode prog_9_method_6_code 32 = .ok (.goto (-27), 3) := by decide +kernel
theorem d9_6_35 : decode prog_9_method_6_code 35 = .ok (.aload_n 0, 1) := by decide +kernel
theorem d9_6_36 : decode prog_9_method_6_code 36 = .ok (.getfield 29, 3) := by decide +kernel
theorem d9_6_39 : decode prog_9_method_6_code 39 = .ok (.ifnonnull 18, 3) := by decide +kernel
theorem d9_6_42 : decode prog_9_method_6_code 42 = .ok (.aload_n 0, 1) := by decide +kernel
theorem d9_6_43 : decode prog_9_method_6_code 43 = .ok (.aload_n 0, 1) := by decide +kernel
theorem d9_6_44 : decode prog_9_method_6_code 44 = .ok (.getfield 26, 3) := by decide +kernel
theorem d9_6_47 : decode prog_9_method_6_code 47 = .ok (.aload_n 0, 1) := by decide +kernel
theorem d9_6_48 : decode prog_9_method_6_code 48 = .ok (.getfield 22, 3) := by decide +kernel
theorem d9_6_51 : decode prog_9_method_6_code 51 = .ok (.isub, 1) := by decide +kernel
theorem d9_6_52 : decode prog_9_method_6_code 52 = .ok (.lload_n 3, 1) := by decide +kernel
theorem d9_6_53 : decode prog_9_method_6_code 53 = .ok (.invokevirtual 77, 3) := by decide +kernel
theorem d9_6_56 : decode prog_9_method_6_code 56 = .ok (.lreturn, 1) := by decide +kernel
theorem d9_6_57 : decode prog_9_method_6_code 57 = .ok (.aload_n 0, 1) := by decide +kernel
theorem d9_6_58 : decode prog_9_method_6_code 58 = .ok (.getfield 66, 3) := by decide +kernel
theorem d9_6_61 : decode prog_9_method_6_code 61 = .ok (.ifCond .ne 7, 3) := by decide +kernel
theorem d9_6_64 : decode prog_9_method_6_code 64 = .ok (.aload_n 0, 1) := by decide +kernel
theorem d9_6_65 : decode prog_9_method_6_code 65 = .ok (.invokevirtual 81, 3) := by decide +kernel
theorem d9_6_68 : decode prog_9_method_6_code 68 = .ok (.aload_n 0, 1) := by decide +kernel
theorem d9_6_69 : decode prog_9_method_6_code 69 = .ok (.lload_n 3, 1) := by decide +kernel
theorem d9_6_70 : decode prog_9_method_6_code 70 = .ok (.invokevirtual 84, 3) := by decide +kernel
theorem d9_6_73 : decode prog_9_method_6_code 73 = .ok (.lreturn, 1) := by decide +kernel
theorem d3_10_0 : decode prog_3_method_10_code 0 = .ok (.lload_n 1, 1) := by decide +kernel
theorem d3_10_1 : decode prog_3_method_10_code 1 = .ok (.lstore_n 3, 1) := by decide +kernel
theorem d3_10_2 : decode prog_3_method_10_code 2 = .ok (.iconst 0, 1) := by decide +kernel
theorem d3_10_3 : decode prog_3_method_10_code 3 = .ok (.istore 5, 2) := by decide +kernel
theorem d3_10_5 : decode prog_3_method_10_code 5 = .ok (.iload 5, 2) := by decide +kernel
theorem d3_10_7 : decode prog_3_method_10_code 7 = .ok (.aload_n 0, 1) := by decide +kernel
theorem d3_10_8 : decode prog_3_method_10_code 8 = .ok (.getfield 10, 3) := by decide +kernel
theorem d3_10_11 : decode prog_3_method_10_code 11 = .ok (.invokevirtual 31, 3) := by decide +kernel
theorem d3_10_14 : decode prog_3_method_10_code 14 = .ok (.if_icmp .ge 32, 3) := by decide +kernel
theorem d3_10_17 : decode prog_3_method_10_code 17 = .ok (.lload_n 3, 1) := by decide +kernel
theorem d3_10_18 : decode prog_3_method_10_code 18 = .ok (.lconst 0, 1) := by decide +kernel
theorem d3_10_19 : decode prog_3_method_10_code 19 = .ok (.lcmp, 1) := by decide +kernel
theorem d3_10_20 : decode prog_3_method_10_code 20 = .ok (.ifCond .eq 26, 3) := by decide +kernel
theorem d3_10_23 : decode prog_3_method_10_code 23 = .ok (.aload_n 0, 1) := by decide +kernel
theorem d3_10_24 : decode prog_3_method_10_code 24 = .ok (.getfield 10, 3) := by decide +kernel
theorem d3_10_27 : decode prog_3_method_10_code 27 = .ok (.iload 5, 2) := by decide +kernel
theorem d3_10_29 : decode prog_3_method_10_code 29 = .ok (.invokevirtual 35, 3) := by decide +kernel
theorem d3_10_32 : decode prog_3_method_10_code 32 = .ok (.checkcast 2, 3) := by decide +kernel
theorem d3_10_35 : decode prog_3_method_10_code 35 = .ok (.lload_n 3, 1) := by decide +kernel
theorem d3_10_36 : decode prog_3_method_10_code 36 = .ok (.invokevirtual 76, 3) := by decide +kernel
theorem d3_10_39 : decode prog_3_method_10_code 39 = .ok (.lstore_n 3, 1) := by decide +kernel
theorem d3_10_40 : decode prog_3_method_10_code 40 = .ok (.iinc 5 1, 3) := by decide +kernel
theorem d3_10_43 : decode prog_3_method_10_code 43 = .ok (.goto (-38), 3) := by decide +kernel
theorem d3_10_46 : decode prog_3_method_10_code 46 = .ok (.lload_n 3, 1) := by decide +kernel
theorem d3_10_47 : decode prog_3_method_10_code 47 = .ok (.lreturn, 1) := by decide +kernel
theorem d5_7_0 : decode prog_5_method_7_code 0 = .ok (.lconst 0, 1) := by decide +kernel
theorem d5_7_1 : decode prog_5_method_7_code 1 = .ok (.lstore_n 3, 1) := by decide +kernel
theorem d5_7_2 : decode prog_5_method_7_code 2 = .ok (.iconst 0, 1) := by decide +kernel
theorem d5_7_3 : decode prog_5_method_7_code 3 = .ok (.istore 5, 2) := by decide +kernel
theorem d5_7_5 : decode prog_5_method_7_code 5 = .ok (.iload 5, 2) := by decide +kernel
theorem d5_7_7 : decode prog_5_method_7_code 7 = .ok (.aload_n 0, 1) := by decide +kernel
theorem d5_7_8 : decode prog_5_method_7_code 8 = .ok (.getfield 10, 3) := by decide +kernel
theorem d5_7_11 : decode prog_5_method_7_code 11 = .ok (.invokevirtual 30, 3) := by decide +kernel
theorem d5_7_14 : decode prog_5_method_7_code 14 = .ok (.if_icmp .ge 28, 3) := by decide +kernel
theorem d5_7_17 : decode prog_5_method_7_code 17 = .ok (.lload_n 3, 1) := by decide +kernel
theorem d5_7_18 : decode prog_5_method_7_code 18 = .ok (.aload_n 0, 1) := by decide +kernel
theorem d5_7_19 : decode prog_5_method_7_code 19 = .ok (.getfield 10, 3) := by decide +kernel
theorem d5_7_22 : decode prog_5_method_7_code 22 = .ok (.iload 5, 2) := by decide +kernel
theorem d5_7_24 : decode prog_5_method_7_code 24 = .ok (.invokevirtual 34, 3) := by decide +kernel
theorem d5_7_27 : decode prog_5_method_7_code 27 = .ok (.checkcast 19, 3) := by decide +kernel
theorem d5_7_30 : decode prog_5_method_7_code 30 = .ok (.lload_n 1, 1) := by decide +kernel
theorem d5_7_31 : decode prog_5_method_7_code 31 = .ok (.invokevirtual 68, 3) := by decide +kernel
theorem d5_7_34 : decode prog_5_method_7_code 34 = .ok (.lor, 1) := by decide +kernel
theorem d5_7_35 : decode prog_5_method_7_code 35 = .ok (.lstore_n 3, 1) := by decide +kernel
theorem d5_7_36 : decode prog_5_method_7_code 36 = .ok (.iinc 5 1, 3) := by decide +kernel
theorem d5_7_39 : decode prog_5_method_7_code 39 = .ok (.goto (-34), 3) := by decide +kernel
theorem d5_7_42 : decode prog_5_method_7_code 42 = .ok (.lload_n 3, 1) := by decide +kernel
theorem d5_7_43 : decode prog_5_method_7_code 43 = .ok (.lreturn, 1) := by decide +kernel
