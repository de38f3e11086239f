theorem d9_7_0 : decode prog_9_method_7_code 0 = .ok (.lload_n 2, 1) := by decide +kernel
theorem d9_7_1 : decode prog_9_method_7_code 1 = .ok (.lstore 4, 2) := by decide +kernel
theorem d9_7_3 : decode prog_9_method_7_code 3 = .ok (.lload_n 2, 1) := by decide +kernel
theorem d9_7_4 : decode prog_9_method_7_code 4 = .ok (.lstore 6, 2) := by decide +kernel
theorem d9_7_6 : decode prog_9_method_7_code 6 = .ok (.iconst 0, 1) := by decide +kernel
theorem d9_7_7 : decode prog_9_method_7_code 7 = .ok (.istore 8, 2) := by decide +kernel
theorem d9_7_9 : decode prog_9_method_7_code 9 = .ok (.iload 8, 2) := by decide +kernel
theorem d9_7_11 : decode prog_9_method_7_code 11 = .ok (.iload_n 1, 1) := by decide +kernel
theorem d9_7_12 : decode prog_9_method_7_code 12 = .ok (.if_icmp .ge 41, 3) := by decide +kernel
theorem d9_7_15 : decode prog_9_method_7_code 15 = .ok (.lload 6, 2) := by decide +kernel
theorem d9_7_17 : decode prog_9_method_7_code 17 = .ok (.lconst 0, 1) := by decide +kernel
theorem d9_7_18 : decode prog_9_method_7_code 18 = .ok (.lcmp, 1) := by decide +kernel
theorem d9_7_19 : decode prog_9_method_7_code 19 = .ok (.ifCond .eq 34, 3) := by decide +kernel
theorem d9_7_22 : decode prog_9_method_7_code 22 = .ok (.aload_n 0, 1) := by decide +kernel
theorem d9_7_23 : decode prog_9_method_7_code 23 = .ok (.getfield 18, 3) := by decide +kernel
theorem d9_7_26 : decode prog_9_method_7_code 26 = .ok (.lload 6, 2) := by decide +kernel
theorem d9_7_28 : decode prog_9_method_7_code 28 = .ok (.invokevirtual 73, 3) := by decide +kernel
theorem d9_7_31 : decode prog_9_method_7_code 31 = .ok (.lload 4, 2) := by decide +kernel
theorem d9_7_33 : decode prog_9_method_7_code 33 = .ok (.ldc2_w 87, 3) := by decide +kernel
theorem d9_7_36 : decode prog_9_method_7_code 36 = .ok (.lxor, 1) := by decide +kernel
theorem d9_7_37 : decode prog_9_method_7_code 37 = .ok (.land, 1) := by decide +kernel
theorem d9_7_38 : decode prog_9_method_7_code 38 = .ok (.lstore 6, 2) := by decide +kernel
theorem d9_7_40 : decode prog_9_method_7_code 40 = .ok (.lload 4, 2) := by decide +kernel
theorem d9_7_42 : decode prog_9_method_7_code 42 = .ok (.lload 6, 2) := by decide +kernel
theorem d9_7_44 : decode prog_9_method_7_code 44 = .ok (.lor, 1) := by decide +kernel
theorem d9_7_45 : decode prog_9_method_7_code 45 = .ok (.lstore 4, 2) := by decide +kernel
theorem d9_7_47 : decode prog_9_method_7_code 47 = .ok (.iinc 8 1, 3) := by decide +kernel
theorem d9_7_50 : decode prog_9_method_7_code 50 = .ok (.goto (-41), 3) := by decide +kernel
theorem d9_7_53 : decode prog_9_method_7_code 53 = .ok (.lload 4, 2) := by decide +kernel
theorem d9_7_55 : decode prog_9_method_7_code 55 = .ok (.lreturn, 1) := by decide +kernel
theorem d9_8_0 : decode prog_9_method_8_code 0 = .ok (.aload_n 0, 1) := by decide +kernel
theorem d9_8_1 : decode prog_9_method_8_code 1 = .ok (.getfield 70, 3) := by decide +kernel
theorem d9_8_4 : decode prog_9_method_8_code 4 = .ok (.istore_n 1, 1) := by decide +kernel
theorem d9_8_5 : decode prog_9_method_8_code 5 = .ok (.iload_n 1, 1) := by decide +kernel
theorem d9_8_6 : decode prog_9_method_8_code 6 = .ok (.ifCond .lt 39, 3) := by decide +kernel
theorem d9_8_9 : decode prog_9_method_8_code 9 = .ok (.lconst 1, 1) := by decide +kernel
theorem d9_8_10 : decode prog_9_method_8_code 10 = .ok (.iload_n 1, 1) := by decide +kernel
theorem d9_8_11 : decode prog_9_method_8_code 11 = .ok (.lshl, 1) := by decide +kernel
theorem d9_8_12 : decode prog_9_method_8_code 12 = .ok (.lstore_n 2, 1) := by decide +kernel
theorem d9_8_13 : decode prog_9_method_8_code 13 = .ok (.aload_n 0, 1) := by decide +kernel
theorem d9_8_14 : decode prog_9_method_8_code 14 = .ok (.getfield 29, 3) := by decide +kernel
theorem d9_8_17 : decode prog_9_method_8_code 17 = .ok (.iload_n 1, 1) := by decide +kernel
theorem d9_8_18 : decode prog_9_method_8_code 18 = .ok (.lload_n 2, 1) := by decide +kernel
theorem d9_8_19 : decode prog_9_method_8_code 19 = .ok (.aload_n 0, 1) := by decide +kernel
theorem d9_8_20 : decode prog_9_method_8_code 20 = .ok (.aload_n 0, 1) := by decide +kernel
theorem d9_8_21 : decode prog_9_method_8_code 21 = .ok (.getfield 18, 3) := by decide +kernel
theorem d9_8_24 : decode prog_9_method_8_code 24 = .ok (.lload_n 2, 1) := by decide +kernel
theorem d9_8_25 : decode prog_9_method_8_code 25 = .ok (.invokevirtual 73, 3) := by decide +kernel
theorem d9_8_28 : decode prog_9_method_8_code 28 = .ok (.lload_n 2, 1) := by decide +kernel
theorem d9_8_29 : decode prog_9_method_8_code 29 = .ok (.ldc2_w 87, 3) := by decide +kernel
theorem d9_8_32 : decode prog_9_method_8_code 32 = .ok (.lxor, 1) := by decide +kernel
theorem d9_8_33 : decode prog_9_method_8_code 33 = .ok (.land, 1) := by decide +kernel
theorem d9_8_34 : decode prog_9_method_8_code 34 = .ok (.invokevirtual 84, 3) := by decide +kernel
theorem d9_8_37 : decode prog_9_method_8_code 37 = .ok (.lor, 1) := by decide +kernel
theorem d9_8_38 : decode prog_9_method_8_code 38 = .ok (.lastore, 1) := by decide +kernel
theorem d9_8_39 : decode prog_9_method_8_code 39 = .ok (.iinc 1 (-1), 3) := by decide +kernel
theorem d9_8_42 : decode prog_9_method_8_code 42 = .ok (.goto (-37), 3) := by decide +kernel
theorem d9_8_45 : decode prog_9_method_8_code 45 = .ok (.aload_n 0, 1) := by decide +kernel
theorem d9_8_46 : decode prog_9_method_8_code 46 = .ok (.iconst 1, 1) := by decide +kernel
theorem d9_8_47 : decode prog_9_method_8_code 47 = .ok (.putfield 66, 3) := by decide +kernel
theorem d9_8_50 : decode prog_9_method_8_code 50 = .ok (.return_, 1) := by decide +kernel
theorem d9_9_0 : decode prog_9_method_9_code 0 = .ok (.lconst 0, 1) := by decide +kernel
theorem d9_9_1 : decode prog_9_method_9_code 1 = .ok (.lstore_n 3, 1) := by decide +kernel
theorem d9_9_2 : decode prog_9_method_9_code 2 = .ok (.lload_n 1, 1) := by decide +kernel
theorem d9_9_3 : decode prog_9_method_9_code 3 = .ok (.lstore 5, 2) := by decide +kernel
theorem d9_9_5 : decode prog_9_method_9_code 5 = .ok (.iconst 0, 1) := by decide +kernel
theorem d9_9_6 : decode prog_9_method_9_code 6 = .ok (.istore 7, 2) := by decide +kernel
theorem d9_9_8 : decode prog_9_method_9_code 8 = .ok (.iload 7, 2) := by decide +kernel
theorem d9_9_10 : decode prog_9_method_9_code 10 = .ok (.bipush 41, 2) := by decide +kernel
theorem d9_9_12 : decode prog_9_method_9_code 12 = .ok (.if_icmp .ge 39, 3) := by decide +kernel
theorem d9_9_15 : decode prog_9_method_9_code 15 = .ok (.lload 5, 2) := by decide +kernel
theorem d9_9_17 : decode prog_9_method_9_code 17 = .ok (.lconst 0, 1) := by decide +kernel
theorem d9_9_18 : decode prog_9_method_9_code 18 = .ok (.lcmp, 1) := by decide +kernel
theorem d9_9_19 : decode prog_9_method_9_code 19 = .ok (.ifCond .eq 32, 3) := by decide +kernel
theorem d9_9_22 : decode prog_9_method_9_code 22 = .ok (.lload_n 3, 1) := by decide +kernel
theorem d9_9_23 : decode prog_9_method_9_code 23 = .ok (.aload_n 0, 1) := by decide +kernel
theorem d9_9_24 : decode prog_9_method_9_code 24 = .ok (.getfield 29, 3) := by decide +kernel
theorem d9_9_27 : decode prog_9_method_9_code 27 = .ok (.lload 5, 2) := by decide +kernel
theorem d9_9_29 : decode prog_9_method_9_code 29 = .ok (.invokestatic 89, 3) := by decide +kernel
theorem d9_9_32 : decode prog_9_method_9_code 32 = .ok (.laload, 1) := by decide +kernel
theorem d9_9_33 : decode prog_9_method_9_code 33 = .ok (.lor, 1) := by decide +kernel
theorem d9_9_34 : decode prog_9_method_9_code 34 = .ok (.lstore_n 3, 1) := by decide +kernel
theorem d9_9_35 : decode prog_9_method_9_code 35 = .ok (.lload 5, 2) := by decide +kernel
theorem d9_9_37 : decode prog_9_method_9_code 37 = .ok (.lload_n 3, 1) := by decide +kernel
theorem d9_9_38 : decode prog_9_method_9_code 38 = .ok (.ldc2_w 87, 3) := by decide +kernel
theorem d9_9_41 : decode prog_9_method_9_code 41 = .ok (.lxor, 1) := by decide +kernel
theorem d9_9_42 : decode prog_9_method_9_code 42 = .ok (.land, 1) := by decide +kernel
theorem d9_9_43 : decode prog_9_method_9_code 43 = .ok (.lstore 5, 2) := by decide +kernel
theorem d9_9_45 : decode prog_9_method_9_code 45 = .ok (.iinc 7 1, 3) := by decide +kernel
theorem d9_9_48 : decode prog_9_method_9_code 48 = .ok (.goto (-40), 3) := by decide +kernel
theorem d9_9_51 : decode prog_9_method_9_code 51 = .ok (.lload_n 3, 1) := by decide +kernel
theorem d9_9_52 : decode prog_9_method_9_code 52 = .ok (.lreturn, 1) := by decide +kernel
