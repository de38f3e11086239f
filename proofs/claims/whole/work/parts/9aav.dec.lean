theorem d1_31_0 : decode prog_1_method_31_code 0 = .ok (.aload_n 0, 1) := by decide +kernel
theorem d1_31_1 : decode prog_1_method_31_code 1 = .ok (.iload_n 1, 1) := by decide +kernel
theorem d1_31_2 : decode prog_1_method_31_code 2 = .ok (.iconst 1, 1) := by decide +kernel
theorem d1_31_3 : decode prog_1_method_31_code 3 = .ok (.iadd, 1) := by decide +kernel
theorem d1_31_4 : decode prog_1_method_31_code 4 = .ok (.invokestatic 204, 3) := by decide +kernel
theorem d1_31_7 : decode prog_1_method_31_code 7 = .ok (.invokevirtual 194, 3) := by decide +kernel
theorem d1_31_10 : decode prog_1_method_31_code 10 = .ok (.lconst 0, 1) := by decide +kernel
theorem d1_31_11 : decode prog_1_method_31_code 11 = .ok (.lcmp, 1) := by decide +kernel
theorem d1_31_12 : decode prog_1_method_31_code 12 = .ok (.ifCond .ne 5, 3) := by decide +kernel
theorem d1_31_15 : decode prog_1_method_31_code 15 = .ok (.iconst (-1), 1) := by decide +kernel
theorem d1_31_16 : decode prog_1_method_31_code 16 = .ok (.ireturn, 1) := by decide +kernel
theorem d1_31_17 : decode prog_1_method_31_code 17 = .ok (.iconst 0, 1) := by decide +kernel
theorem d1_31_18 : decode prog_1_method_31_code 18 = .ok (.istore_n 2, 1) := by decide +kernel
theorem d1_31_19 : decode prog_1_method_31_code 19 = .ok (.bipush 32, 2) := by decide +kernel
theorem d1_31_21 : decode prog_1_method_31_code 21 = .ok (.istore_n 3, 1) := by decide +kernel
theorem d1_31_22 : decode prog_1_method_31_code 22 = .ok (.iload_n 3, 1) := by decide +kernel
theorem d1_31_23 : decode prog_1_method_31_code 23 = .ok (.ifCond .le 36, 3) := by decide +kernel
theorem d1_31_26 : decode prog_1_method_31_code 26 = .ok (.iload_n 2, 1) := by decide +kernel
theorem d1_31_27 : decode prog_1_method_31_code 27 = .ok (.iload_n 3, 1) := by decide +kernel
theorem d1_31_28 : decode prog_1_method_31_code 28 = .ok (.iadd, 1) := by decide +kernel
theorem d1_31_29 : decode prog_1_method_31_code 29 = .ok (.iload_n 1, 1) := by decide +kernel
theorem d1_31_30 : decode prog_1_method_31_code 30 = .ok (.if_icmp .gt 22, 3) := by decide +kernel
theorem d1_31_33 : decode prog_1_method_31_code 33 = .ok (.aload_n 0, 1) := by decide +kernel
theorem d1_31_34 : decode prog_1_method_31_code 34 = .ok (.iload_n 2, 1) := by decide +kernel
theorem d1_31_35 : decode prog_1_method_31_code 35 = .ok (.iload_n 3, 1) := by decide +kernel
theorem d1_31_36 : decode prog_1_method_31_code 36 = .ok (.iadd, 1) := by decide +kernel
theorem d1_31_37 : decode prog_1_method_31_code 37 = .ok (.invokestatic 204, 3) := by decide +kernel
theorem d1_31_40 : decode prog_1_method_31_code 40 = .ok (.invokevirtual 194, 3) := by decide +kernel
theorem d1_31_43 : decode prog_1_method_31_code 43 = .ok (.lconst 0, 1) := by decide +kernel
theorem d1_31_44 : decode prog_1_method_31_code 44 = .ok (.lcmp, 1) := by decide +kernel
theorem d1_31_45 : decode prog_1_method_31_code 45 = .ok (.ifCond .ne 7, 3) := by decide +kernel
theorem d1_31_48 : decode prog_1_method_31_code 48 = .ok (.iload_n 2, 1) := by decide +kernel
theorem d1_31_49 : decode prog_1_method_31_code 49 = .ok (.iload_n 3, 1) := by decide +kernel
theorem d1_31_50 : decode prog_1_method_31_code 50 = .ok (.iadd, 1) := by decide +kernel
theorem d1_31_51 : decode prog_1_method_31_code 51 = .ok (.istore_n 2, 1) := by decide +kernel
theorem d1_31_52 : decode prog_1_method_31_code 52 = .ok (.iload_n 3, 1) := by decide +kernel
theorem d1_31_53 : decode prog_1_method_31_code 53 = .ok (.iconst 2, 1) := by decide +kernel
theorem d1_31_54 : decode prog_1_method_31_code 54 = .ok (.idiv, 1) := by decide +kernel
theorem d1_31_55 : decode prog_1_method_31_code 55 = .ok (.istore_n 3, 1) := by decide +kernel
theorem d1_31_56 : decode prog_1_method_31_code 56 = .ok (.goto (-34), 3) := by decide +kernel
theorem d1_31_59 : decode prog_1_method_31_code 59 = .ok (.iload_n 2, 1) := by decide +kernel
theorem d1_31_60 : decode prog_1_method_31_code 60 = .ok (.ireturn, 1) := by decide +kernel
theorem d1_22_0 : decode prog_1_method_22_code 0 = .ok (.lconst 1, 1) := by decide +kernel
theorem d1_22_1 : decode prog_1_method_22_code 1 = .ok (.iload_n 0, 1) := by decide +kernel
theorem d1_22_2 : decode prog_1_method_22_code 2 = .ok (.lshl, 1) := by decide +kernel
theorem d1_22_3 : decode prog_1_method_22_code 3 = .ok (.lconst 1, 1) := by decide +kernel
theorem d1_22_4 : decode prog_1_method_22_code 4 = .ok (.lsub, 1) := by decide +kernel
theorem d1_22_5 : decode prog_1_method_22_code 5 = .ok (.lreturn, 1) := by decide +kernel
theorem d1_30_0 : decode prog_1_method_30_code 0 = .ok (.aload_n 1, 1) := by decide +kernel
theorem d1_30_1 : decode prog_1_method_30_code 1 = .ok (.aload_n 2, 1) := by decide +kernel
theorem d1_30_2 : decode prog_1_method_30_code 2 = .ok (.iload_n 3, 1) := by decide +kernel
theorem d1_30_3 : decode prog_1_method_30_code 3 = .ok (.iload 4, 2) := by decide +kernel
theorem d1_30_5 : decode prog_1_method_30_code 5 = .ok (.invokevirtual 186, 3) := by decide +kernel
theorem d1_30_8 : decode prog_1_method_30_code 8 = .ok (.aload_n 1, 1) := by decide +kernel
theorem d1_30_9 : decode prog_1_method_30_code 9 = .ok (.iload 4, 2) := by decide +kernel
theorem d1_30_11 : decode prog_1_method_30_code 11 = .ok (.iload_n 3, 1) := by decide +kernel
theorem d1_30_12 : decode prog_1_method_30_code 12 = .ok (.isub, 1) := by decide +kernel
theorem d1_30_13 : decode prog_1_method_30_code 13 = .ok (.invokestatic 190, 3) := by decide +kernel
theorem d1_30_16 : decode prog_1_method_30_code 16 = .ok (.istore 6, 2) := by decide +kernel
theorem d1_30_18 : decode prog_1_method_30_code 18 = .ok (.iload 6, 2) := by decide +kernel
theorem d1_30_20 : decode prog_1_method_30_code 20 = .ok (.iconst (-1), 1) := by decide +kernel
theorem d1_30_21 : decode prog_1_method_30_code 21 = .ok (.if_icmp .eq 15, 3) := by decide +kernel
theorem d1_30_24 : decode prog_1_method_30_code 24 = .ok (.aload_n 0, 1) := by decide +kernel
theorem d1_30_25 : decode prog_1_method_30_code 25 = .ok (.getfield 115, 3) := by decide +kernel
theorem d1_30_28 : decode prog_1_method_30_code 28 = .ok (.aload_n 0, 1) := by decide +kernel
theorem d1_30_29 : decode prog_1_method_30_code 29 = .ok (.getfield 38, 3) := by decide +kernel
theorem d1_30_32 : decode prog_1_method_30_code 32 = .ok (.arraylength, 1) := by decide +kernel
theorem d1_30_33 : decode prog_1_method_30_code 33 = .ok (.if_icmp .lt 4, 3) := by decide +kernel
theorem d1_30_36 : decode prog_1_method_30_code 36 = .ok (.return_, 1) := by decide +kernel
theorem d1_30_37 : decode prog_1_method_30_code 37 = .ok (.bipush 63, 2) := by decide +kernel
theorem d1_30_39 : decode prog_1_method_30_code 39 = .ok (.aload_n 1, 1) := by decide +kernel
theorem d1_30_40 : decode prog_1_method_30_code 40 = .ok (.lconst 1, 1) := by decide +kernel
theorem d1_30_41 : decode prog_1_method_30_code 41 = .ok (.iload 6, 2) := by decide +kernel
theorem d1_30_43 : decode prog_1_method_30_code 43 = .ok (.lshl, 1) := by decide +kernel
theorem d1_30_44 : decode prog_1_method_30_code 44 = .ok (.invokevirtual 194, 3) := by decide +kernel
theorem d1_30_47 : decode prog_1_method_30_code 47 = .ok (.invokestatic 198, 3) := by decide +kernel
theorem d1_30_50 : decode prog_1_method_30_code 50 = .ok (.isub, 1) := by decide +kernel
theorem d1_30_51 : decode prog_1_method_30_code 51 = .ok (.istore 7, 2) := by decide +kernel
theorem d1_30_53 : decode prog_1_method_30_code 53 = .ok (.aload_n 0, 1) := by decide +kernel
theorem d1_30_54 : decode prog_1_method_30_code 54 = .ok (.getfield 38, 3) := by decide +kernel
theorem d1_30_57 : decode prog_1_method_30_code 57 = .ok (.aload_n 0, 1) := by decide +kernel
theorem d1_30_58 : decode prog_1_method_30_code 58 = .ok (.getfield 115, 3) := by decide +kernel
theorem d1_30_61 : decode prog_1_method_30_code 61 = .ok (.iload 5, 2) := by decide +kernel
theorem d1_30_63 : decode prog_1_method_30_code 63 = .ok (.iload 6, 2) := by decide +kernel
theorem d1_30_65 : decode prog_1_method_30_code 65 = .ok (.sipush 256, 3) := by decide +kernel
theorem d1_30_68 : decode prog_1_method_30_code 68 = .ok (.imul, 1) := by decide +kernel
theorem d1_30_69 : decode prog_1_method_30_code 69 = .ok (.iadd, 1) := by decide +kernel
theorem d1_30_70 : decode prog_1_method_30_code 70 = .ok (.iload 7, 2) := by decide +kernel
theorem d1_30_72 : decode prog_1_method_30_code 72 = .ok (.iadd, 1) := by decide +kernel
theorem d1_30_73 : decode prog_1_method_30_code 73 = .ok (.iastore, 1) := by decide +kernel
theorem d1_30_74 : decode prog_1_method_30_code 74 = .ok (.aload_n 0, 1) := by decide +kernel
theorem d1_30_75 : decode prog_1_method_30_code 75 = .ok (.dup, 1) := by decide +kernel
theorem d1_30_76 : decode prog_1_method_30_code 76 = .ok (.getfield 115, 3) := by decide +kernel
theorem d1_30_79 : decode prog_1_method_30_code 79 = .ok (.iconst 1, 1) := by decide +kernel
theorem d1_30_80 : decode prog_1_method_30_code 80 = .ok (.iadd, 1) := by decide +kernel
theorem d1_30_81 : decode prog_1_method_30_code 81 = .ok (.putfield 115, 3) := by decide +kernel
theorem d1_30_84 : decode prog_1_method_30_code 84 = .ok (.return_, 1) := by decide +kernel
theorem d1_29_0 : decode prog_1_method_29_code 0 = .ok (.iconst 0, 1) := by decide +kernel
theorem d1_29_1 : decode prog_1_method_29_code 1 = .ok (.istore 4, 2) := by decide +kernel
theorem d1_29_3 : decode prog_1_method_29_code 3 = .ok (.iconst 0, 1) := by decide +kernel
theorem d1_29_4 : decode prog_1_method_29_code 4 = .ok (.istore 5, 2) := by decide +kernel
theorem d1_29_6 : decode prog_1_method_29_code 6 = .ok (.iconst 0, 1) := by decide +kernel
theorem d1_29_7 : decode prog_1_method_29_code 7 = .ok (.istore 6, 2) := by decide +kernel
theorem d1_29_9 : decode prog_1_method_29_code 9 = .ok (.iload 6, 2) := by decide +kernel
theorem d1_29_11 : decode prog_1_method_29_code 11 = .ok (.aload_n 2, 1) := by decide +kernel
theorem d1_29_12 : decode prog_1_method_29_code 12 = .ok (.arraylength, 1) := by decide +kernel
theorem d1_29_13 : decode prog_1_method_29_code 13 = .ok (.if_icmp .gt 54, 3) := by decide +kernel
theorem d1_29_16 : decode prog_1_method_29_code 16 = .ok (.iload 6, 2) := by decide +kernel
theorem d1_29_18 : decode prog_1_method_29_code 18 = .ok (.aload_n 2, 1) := by decide +kernel
theorem d1_29_19 : decode prog_1_method_29_code 19 = .ok (.arraylength, 1) := by decide +kernel
theorem d1_29_20 : decode prog_1_method_29_code 20 = .ok (.if_icmp .eq 12, 3) := by decide +kernel
theorem d1_29_23 : decode prog_1_method_29_code 23 = .ok (.aload_n 2, 1) := by decide +kernel
theorem d1_29_24 : decode prog_1_method_29_code 24 = .ok (.iload 6, 2) := by decide +kernel
theorem d1_29_26 : decode prog_1_method_29_code 26 = .ok (.caload, 1) := by decide +kernel
theorem d1_29_27 : decode prog_1_method_29_code 27 = .ok (.bipush 10, 2) := by decide +kernel
theorem d1_29_29 : decode prog_1_method_29_code 29 = .ok (.if_icmp .ne 32, 3) := by decide +kernel
theorem d1_29_32 : decode prog_1_method_29_code 32 = .ok (.aload_n 0, 1) := by decide +kernel
theorem d1_29_33 : decode prog_1_method_29_code 33 = .ok (.aload_n 1, 1) := by decide +kernel
theorem d1_29_34 : decode prog_1_method_29_code 34 = .ok (.aload_n 2, 1) := by decide +kernel
theorem d1_29_35 : decode prog_1_method_29_code 35 = .ok (.iload 5, 2) := by decide +kernel
theorem d1_29_37 : decode prog_1_method_29_code 37 = .ok (.iload 6, 2) := by decide +kernel
theorem d1_29_39 : decode prog_1_method_29_code 39 = .ok (.iload_n 3, 1) := by decide +kernel
theorem d1_29_40 : decode prog_1_method_29_code 40 = .ok (.ldc 180, 2) := by decide +kernel
theorem d1_29_42 : decode prog_1_method_29_code 42 = .ok (.imul, 1) := by decide +kernel
theorem d1_29_43 : decode prog_1_method_29_code 43 = .ok (.iload 4, 2) := by decide +kernel
theorem d1_29_45 : decode prog_1_method_29_code 45 = .ok (.ldc 181, 2) := by decide +kernel
theorem d1_29_47 : decode prog_1_method_29_code 47 = .ok (.imul, 1) := by decide +kernel
theorem d1_29_48 : decode prog_1_method_29_code 48 = .ok (.iadd, 1) := by decide +kernel
theorem d1_29_49 : decode prog_1_method_29_code 49 = .ok (.invokevirtual 182, 3) := by decide +kernel
theorem d1_29_52 : decode prog_1_method_29_code 52 = .ok (.iinc 4 1, 3) := by decide +kernel
theorem d1_29_55 : decode prog_1_method_29_code 55 = .ok (.iload 6, 2) := by decide +kernel
theorem d1_29_57 : decode prog_1_method_29_code 57 = .ok (.iconst 1, 1) := by decide +kernel
theorem d1_29_58 : decode prog_1_method_29_code 58 = .ok (.iadd, 1) := by decide +kernel
theorem d1_29_59 : decode prog_1_method_29_code 59 = .ok (.istore 5, 2) := by decide +kernel
theorem d1_29_61 : decode prog_1_method_29_code 61 = .ok (.iinc 6 1, 3) := by decide +kernel
theorem d1_29_64 : decode prog_1_method_29_code 64 = .ok (.goto (-55), 3) := by decide +kernel
theorem d1_29_67 : decode prog_1_method_29_code 67 = .ok (.return_, 1) := by decide +kernel
