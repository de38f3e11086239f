theorem d6_3_0 : decode prog_6_method_3_code 0 = .ok (.aload_n 0, 1) := by decide +kernel
theorem d6_3_1 : decode prog_6_method_3_code 1 = .ok (.getfield 29, 3) := by decide +kernel
theorem d6_3_4 : decode prog_6_method_3_code 4 = .ok (.ifCond .eq 10, 3) := by decide +kernel
theorem d6_3_7 : decode prog_6_method_3_code 7 = .ok (.aload_n 0, 1) := by decide +kernel
theorem d6_3_8 : decode prog_6_method_3_code 8 = .ok (.getfield 25, 3) := by decide +kernel
theorem d6_3_11 : decode prog_6_method_3_code 11 = .ok (.goto 4, 3) := by decide +kernel
theorem d6_3_14 : decode prog_6_method_3_code 14 = .ok (.aconst_null, 1) := by decide +kernel
theorem d6_3_15 : decode prog_6_method_3_code 15 = .ok (.areturn, 1) := by decide +kernel
theorem d3_7_0 : decode prog_3_method_7_code 0 = .ok (.iconst 0, 1) := by decide +kernel
theorem d3_7_1 : decode prog_3_method_7_code 1 = .ok (.istore_n 1, 1) := by decide +kernel
theorem d3_7_2 : decode prog_3_method_7_code 2 = .ok (.iload_n 1, 1) := by decide +kernel
theorem d3_7_3 : decode prog_3_method_7_code 3 = .ok (.aload_n 0, 1) := by decide +kernel
theorem d3_7_4 : decode prog_3_method_7_code 4 = .ok (.getfield 10, 3) := by decide +kernel
theorem d3_7_7 : decode prog_3_method_7_code 7 = .ok (.invokevirtual 31, 3) := by decide +kernel
theorem d3_7_10 : decode prog_3_method_7_code 10 = .ok (.if_icmp .ge 41, 3) := by decide +kernel
theorem d3_7_13 : decode prog_3_method_7_code 13 = .ok (.aload_n 0, 1) := by decide +kernel
theorem d3_7_14 : decode prog_3_method_7_code 14 = .ok (.getfield 10, 3) := by decide +kernel
theorem d3_7_17 : decode prog_3_method_7_code 17 = .ok (.iload_n 1, 1) := by decide +kernel
theorem d3_7_18 : decode prog_3_method_7_code 18 = .ok (.invokevirtual 35, 3) := by decide +kernel
theorem d3_7_21 : decode prog_3_method_7_code 21 = .ok (.checkcast 2, 3) := by decide +kernel
theorem d3_7_24 : decode prog_3_method_7_code 24 = .ok (.invokevirtual 53, 3) := by decide +kernel
theorem d3_7_27 : decode prog_3_method_7_code 27 = .ok (.aload_n 0, 1) := by decide +kernel
theorem d3_7_28 : decode prog_3_method_7_code 28 = .ok (.getfield 19, 3) := by decide +kernel
theorem d3_7_31 : decode prog_3_method_7_code 31 = .ok (.aload_n 0, 1) := by decide +kernel
theorem d3_7_32 : decode prog_3_method_7_code 32 = .ok (.getfield 10, 3) := by decide +kernel
theorem d3_7_35 : decode prog_3_method_7_code 35 = .ok (.iload_n 1, 1) := by decide +kernel
theorem d3_7_36 : decode prog_3_method_7_code 36 = .ok (.invokevirtual 35, 3) := by decide +kernel
theorem d3_7_39 : decode prog_3_method_7_code 39 = .ok (.checkcast 2, 3) := by decide +kernel
theorem d3_7_42 : decode prog_3_method_7_code 42 = .ok (.invokevirtual 56, 3) := by decide +kernel
theorem d3_7_45 : decode prog_3_method_7_code 45 = .ok (.iinc 1 1, 3) := by decide +kernel
theorem d3_7_48 : decode prog_3_method_7_code 48 = .ok (.goto (-46), 3) := by decide +kernel
theorem d3_7_51 : decode prog_3_method_7_code 51 = .ok (.aload_n 0, 1) := by decide +kernel
theorem d3_7_52 : decode prog_3_method_7_code 52 = .ok (.aload_n 0, 1) := by decide +kernel
theorem d3_7_53 : decode prog_3_method_7_code 53 = .ok (.getfield 19, 3) := by decide +kernel
theorem d3_7_56 : decode prog_3_method_7_code 56 = .ok (.invokevirtual 60, 3) := by decide +kernel
theorem d3_7_59 : decode prog_3_method_7_code 59 = .ok (.putfield 64, 3) := by decide +kernel
theorem d3_7_62 : decode prog_3_method_7_code 62 = .ok (.return_, 1) := by decide +kernel
theorem d9_3_0 : decode prog_9_method_3_code 0 = .ok (.aload_n 0, 1) := by decide +kernel
theorem d9_3_1 : decode prog_9_method_3_code 1 = .ok (.getfield 18, 3) := by decide +kernel
theorem d9_3_4 : decode prog_9_method_3_code 4 = .ok (.invokevirtual 43, 3) := by decide +kernel
theorem d9_3_7 : decode prog_9_method_3_code 7 = .ok (.iconst 0, 1) := by decide +kernel
theorem d9_3_8 : decode prog_9_method_3_code 8 = .ok (.istore_n 1, 1) := by decide +kernel
theorem d9_3_9 : decode prog_9_method_3_code 9 = .ok (.iload_n 1, 1) := by decide +kernel
theorem d9_3_10 : decode prog_9_method_3_code 10 = .ok (.aload_n 0, 1) := by decide +kernel
theorem d9_3_11 : decode prog_9_method_3_code 11 = .ok (.getfield 22, 3) := by decide +kernel
theorem d9_3_14 : decode prog_9_method_3_code 14 = .ok (.if_icmp .ge 20, 3) := by decide +kernel
theorem d9_3_17 : decode prog_9_method_3_code 17 = .ok (.aload_n 0, 1) := by decide +kernel
theorem d9_3_18 : decode prog_9_method_3_code 18 = .ok (.getfield 12, 3) := by decide +kernel
theorem d9_3_21 : decode prog_9_method_3_code 21 = .ok (.aload_n 0, 1) := by decide +kernel
theorem d9_3_22 : decode prog_9_method_3_code 22 = .ok (.getfield 18, 3) := by decide +kernel
theorem d9_3_25 : decode prog_9_method_3_code 25 = .ok (.invokevirtual 46, 3) := by decide +kernel
theorem d9_3_28 : decode prog_9_method_3_code 28 = .ok (.iinc 1 1, 3) := by decide +kernel
theorem d9_3_31 : decode prog_9_method_3_code 31 = .ok (.goto (-22), 3) := by decide +kernel
theorem d9_3_34 : decode prog_9_method_3_code 34 = .ok (.aload_n 0, 1) := by decide +kernel
theorem d9_3_35 : decode prog_9_method_3_code 35 = .ok (.aload_n 0, 1) := by decide +kernel
theorem d9_3_36 : decode prog_9_method_3_code 36 = .ok (.getfield 22, 3) := by decide +kernel
theorem d9_3_39 : decode prog_9_method_3_code 39 = .ok (.aload_n 0, 1) := by decide +kernel
theorem d9_3_40 : decode prog_9_method_3_code 40 = .ok (.getfield 26, 3) := by decide +kernel
theorem d9_3_43 : decode prog_9_method_3_code 43 = .ok (.if_icmp .ne 13, 3) := by decide +kernel
theorem d9_3_46 : decode prog_9_method_3_code 46 = .ok (.aload_n 0, 1) := by decide +kernel
theorem d9_3_47 : decode prog_9_method_3_code 47 = .ok (.getfield 12, 3) := by decide +kernel
theorem d9_3_50 : decode prog_9_method_3_code 50 = .ok (.invokevirtual 50, 3) := by decide +kernel
theorem d9_3_53 : decode prog_9_method_3_code 53 = .ok (.goto 4, 3) := by decide +kernel
theorem d9_3_56 : decode prog_9_method_3_code 56 = .ok (.aconst_null, 1) := by decide +kernel
theorem d9_3_57 : decode prog_9_method_3_code 57 = .ok (.putfield 54, 3) := by decide +kernel
theorem d9_3_60 : decode prog_9_method_3_code 60 = .ok (.return_, 1) := by decide +kernel
theorem d5_4_0 : decode prog_5_method_4_code 0 = .ok (.new 41, 3) := by decide +kernel
theorem d5_4_3 : decode prog_5_method_4_code 3 = .ok (.dup, 1) := by decide +kernel
theorem d5_4_4 : decode prog_5_method_4_code 4 = .ok (.invokespecial 43, 3) := by decide +kernel
theorem d5_4_7 : decode prog_5_method_4_code 7 = .ok (.astore_n 1, 1) := by decide +kernel
theorem d5_4_8 : decode prog_5_method_4_code 8 = .ok (.invokestatic 44, 3) := by decide +kernel
theorem d5_4_11 : decode prog_5_method_4_code 11 = .ok (.astore_n 2, 1) := by decide +kernel
theorem d5_4_12 : decode prog_5_method_4_code 12 = .ok (.iconst 1, 1) := by decide +kernel
theorem d5_4_13 : decode prog_5_method_4_code 13 = .ok (.istore_n 3, 1) := by decide +kernel
theorem d5_4_14 : decode prog_5_method_4_code 14 = .ok (.iconst 0, 1) := by decide +kernel
theorem d5_4_15 : decode prog_5_method_4_code 15 = .ok (.istore 4, 2) := by decide +kernel
theorem d5_4_17 : decode prog_5_method_4_code 17 = .ok (.iload 4, 2) := by decide +kernel
theorem d5_4_19 : decode prog_5_method_4_code 19 = .ok (.aload_n 0, 1) := by decide +kernel
theorem d5_4_20 : decode prog_5_method_4_code 20 = .ok (.getfield 10, 3) := by decide +kernel
theorem d5_4_23 : decode prog_5_method_4_code 23 = .ok (.invokevirtual 30, 3) := by decide +kernel
theorem d5_4_26 : decode prog_5_method_4_code 26 = .ok (.if_icmp .ge 59, 3) := by decide +kernel
theorem d5_4_29 : decode prog_5_method_4_code 29 = .ok (.aload_n 0, 1) := by decide +kernel
theorem d5_4_30 : decode prog_5_method_4_code 30 = .ok (.getfield 10, 3) := by decide +kernel
theorem d5_4_33 : decode prog_5_method_4_code 33 = .ok (.iload 4, 2) := by decide +kernel
theorem d5_4_35 : decode prog_5_method_4_code 35 = .ok (.invokevirtual 34, 3) := by decide +kernel
theorem d5_4_38 : decode prog_5_method_4_code 38 = .ok (.checkcast 19, 3) := by decide +kernel
theorem d5_4_41 : decode prog_5_method_4_code 41 = .ok (.astore 5, 2) := by decide +kernel
theorem d5_4_43 : decode prog_5_method_4_code 43 = .ok (.aload 5, 2) := by decide +kernel
theorem d5_4_45 : decode prog_5_method_4_code 45 = .ok (.invokevirtual 48, 3) := by decide +kernel
theorem d5_4_48 : decode prog_5_method_4_code 48 = .ok (.iload_n 3, 1) := by decide +kernel
theorem d5_4_49 : decode prog_5_method_4_code 49 = .ok (.ifCond .eq 28, 3) := by decide +kernel
theorem d5_4_52 : decode prog_5_method_4_code 52 = .ok (.aload 5, 2) := by decide +kernel
theorem d5_4_54 : decode prog_5_method_4_code 54 = .ok (.getfield 51, 3) := by decide +kernel
theorem d5_4_57 : decode prog_5_method_4_code 57 = .ok (.ifnull 20, 3) := by decide +kernel
theorem d5_4_60 : decode prog_5_method_4_code 60 = .ok (.aload_n 1, 1) := by decide +kernel
theorem d5_4_61 : decode prog_5_method_4_code 61 = .ok (.aload_n 2, 1) := by decide +kernel
theorem d5_4_62 : decode prog_5_method_4_code 62 = .ok (.aload 5, 2) := by decide +kernel
theorem d5_4_64 : decode prog_5_method_4_code 64 = .ok (.getfield 51, 3) := by decide +kernel
theorem d5_4_67 : decode prog_5_method_4_code 67 = .ok (.invokevirtual 55, 3) := by decide +kernel
theorem d5_4_70 : decode prog_5_method_4_code 70 = .ok (.ifCond .eq 7, 3) := by decide +kernel
theorem d5_4_73 : decode prog_5_method_4_code 73 = .ok (.iconst 1, 1) := by decide +kernel
theorem d5_4_74 : decode prog_5_method_4_code 74 = .ok (.goto 4, 3) := by decide +kernel
theorem d5_4_77 : decode prog_5_method_4_code 77 = .ok (.iconst 0, 1) := by decide +kernel
theorem d5_4_78 : decode prog_5_method_4_code 78 = .ok (.istore_n 3, 1) := by decide +kernel
theorem d5_4_79 : decode prog_5_method_4_code 79 = .ok (.iinc 4 1, 3) := by decide +kernel
theorem d5_4_82 : decode prog_5_method_4_code 82 = .ok (.goto (-65), 3) := by decide +kernel
theorem d5_4_85 : decode prog_5_method_4_code 85 = .ok (.aload_n 0, 1) := by decide +kernel
theorem d5_4_86 : decode prog_5_method_4_code 86 = .ok (.iload_n 3, 1) := by decide +kernel
theorem d5_4_87 : decode prog_5_method_4_code 87 = .ok (.ifCond .eq 7, 3) := by decide +kernel
theorem d5_4_90 : decode prog_5_method_4_code 90 = .ok (.aload_n 1, 1) := by decide +kernel
theorem d5_4_91 : decode prog_5_method_4_code 91 = .ok (.goto 4, 3) := by decide +kernel
theorem d5_4_94 : decode prog_5_method_4_code 94 = .ok (.aconst_null, 1) := by decide +kernel
theorem d5_4_95 : decode prog_5_method_4_code 95 = .ok (.putfield 59, 3) := by decide +kernel
theorem d5_4_98 : decode prog_5_method_4_code 98 = .ok (.return_, 1) := by decide +kernel
