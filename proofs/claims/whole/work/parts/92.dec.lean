theorem d14_26_0 : decode prog_14_method_26_code 0 = .ok (.aload_n 0, 1) := by decide +kernel
theorem d14_26_1 : decode prog_14_method_26_code 1 = .ok (.getfield 62, 3) := by decide +kernel
theorem d14_26_4 : decode prog_14_method_26_code 4 = .ok (.aload_n 0, 1) := by decide +kernel
theorem d14_26_5 : decode prog_14_method_26_code 5 = .ok (.getfield 139, 3) := by decide +kernel
theorem d14_26_8 : decode prog_14_method_26_code 8 = .ok (.iaload, 1) := by decide +kernel
theorem d14_26_9 : decode prog_14_method_26_code 9 = .ok (.istore_n 3, 1) := by decide +kernel
theorem d14_26_10 : decode prog_14_method_26_code 10 = .ok (.iload_n 2, 1) := by decide +kernel
theorem d14_26_11 : decode prog_14_method_26_code 11 = .ok (.ifCond .lt 7, 3) := by decide +kernel
theorem d14_26_14 : decode prog_14_method_26_code 14 = .ok (.iload_n 2, 1) := by decide +kernel
theorem d14_26_15 : decode prog_14_method_26_code 15 = .ok (.goto 12, 3) := by decide +kernel
theorem d14_26_18 : decode prog_14_method_26_code 18 = .ok (.iload_n 1, 1) := by decide +kernel
theorem d14_26_19 : decode prog_14_method_26_code 19 = .ok (.ifCond .ne 7, 3) := by decide +kernel
theorem d14_26_22 : decode prog_14_method_26_code 22 = .ok (.iconst 1, 1) := by decide +kernel
theorem d14_26_23 : decode prog_14_method_26_code 23 = .ok (.goto 4, 3) := by decide +kernel
theorem d14_26_26 : decode prog_14_method_26_code 26 = .ok (.iload_n 1, 1) := by decide +kernel
theorem d14_26_27 : decode prog_14_method_26_code 27 = .ok (.istore 4, 2) := by decide +kernel
theorem d14_26_29 : decode prog_14_method_26_code 29 = .ok (.aload_n 0, 1) := by decide +kernel
theorem d14_26_30 : decode prog_14_method_26_code 30 = .ok (.iconst 4, 1) := by decide +kernel
theorem d14_26_31 : decode prog_14_method_26_code 31 = .ok (.iload 4, 2) := by decide +kernel
theorem d14_26_33 : decode prog_14_method_26_code 33 = .ok (.aload_n 0, 1) := by decide +kernel
theorem d14_26_34 : decode prog_14_method_26_code 34 = .ok (.getfield 53, 3) := by decide +kernel
theorem d14_26_37 : decode prog_14_method_26_code 37 = .ok (.iload_n 3, 1) := by decide +kernel
theorem d14_26_38 : decode prog_14_method_26_code 38 = .ok (.iaload, 1) := by decide +kernel
theorem d14_26_39 : decode prog_14_method_26_code 39 = .ok (.iconst 1, 1) := by decide +kernel
theorem d14_26_40 : decode prog_14_method_26_code 40 = .ok (.iadd, 1) := by decide +kernel
theorem d14_26_41 : decode prog_14_method_26_code 41 = .ok (.imul, 1) := by decide +kernel
theorem d14_26_42 : decode prog_14_method_26_code 42 = .ok (.invokevirtual 146, 3) := by decide +kernel
theorem d14_26_45 : decode prog_14_method_26_code 45 = .ok (.istore 5, 2) := by decide +kernel
theorem d14_26_47 : decode prog_14_method_26_code 47 = .ok (.aload_n 0, 1) := by decide +kernel
theorem d14_26_48 : decode prog_14_method_26_code 48 = .ok (.getfield 38, 3) := by decide +kernel
theorem d14_26_51 : decode prog_14_method_26_code 51 = .ok (.iload 5, 2) := by decide +kernel
theorem d14_26_53 : decode prog_14_method_26_code 53 = .ok (.iload_n 3, 1) := by decide +kernel
theorem d14_26_54 : decode prog_14_method_26_code 54 = .ok (.iastore, 1) := by decide +kernel
theorem d14_26_55 : decode prog_14_method_26_code 55 = .ok (.aload_n 0, 1) := by decide +kernel
theorem d14_26_56 : decode prog_14_method_26_code 56 = .ok (.getfield 47, 3) := by decide +kernel
theorem d14_26_59 : decode prog_14_method_26_code 59 = .ok (.iload 5, 2) := by decide +kernel
theorem d14_26_61 : decode prog_14_method_26_code 61 = .ok (.iload_n 1, 1) := by decide +kernel
theorem d14_26_62 : decode prog_14_method_26_code 62 = .ok (.iastore, 1) := by decide +kernel
theorem d14_26_63 : decode prog_14_method_26_code 63 = .ok (.aload_n 0, 1) := by decide +kernel
theorem d14_26_64 : decode prog_14_method_26_code 64 = .ok (.getfield 50, 3) := by decide +kernel
theorem d14_26_67 : decode prog_14_method_26_code 67 = .ok (.iload 5, 2) := by decide +kernel
theorem d14_26_69 : decode prog_14_method_26_code 69 = .ok (.iload_n 2, 1) := by decide +kernel
theorem d14_26_70 : decode prog_14_method_26_code 70 = .ok (.iastore, 1) := by decide +kernel
theorem d14_26_71 : decode prog_14_method_26_code 71 = .ok (.aload_n 0, 1) := by decide +kernel
theorem d14_26_72 : decode prog_14_method_26_code 72 = .ok (.getfield 44, 3) := by decide +kernel
theorem d14_26_75 : decode prog_14_method_26_code 75 = .ok (.iload_n 3, 1) := by decide +kernel
theorem d14_26_76 : decode prog_14_method_26_code 76 = .ok (.iaload, 1) := by decide +kernel
theorem d14_26_77 : decode prog_14_method_26_code 77 = .ok (.istore 6, 2) := by decide +kernel
theorem d14_26_79 : decode prog_14_method_26_code 79 = .ok (.aload_n 0, 1) := by decide +kernel
theorem d14_26_80 : decode prog_14_method_26_code 80 = .ok (.getfield 44, 3) := by decide +kernel
theorem d14_26_83 : decode prog_14_method_26_code 83 = .ok (.iload 5, 2) := by decide +kernel
theorem d14_26_85 : decode prog_14_method_26_code 85 = .ok (.iload 6, 2) := by decide +kernel
theorem d14_26_87 : decode prog_14_method_26_code 87 = .ok (.iastore, 1) := by decide +kernel
theorem d14_26_88 : decode prog_14_method_26_code 88 = .ok (.aload_n 0, 1) := by decide +kernel
theorem d14_26_89 : decode prog_14_method_26_code 89 = .ok (.getfield 41, 3) := by decide +kernel
theorem d14_26_92 : decode prog_14_method_26_code 92 = .ok (.iload_n 3, 1) := by decide +kernel
theorem d14_26_93 : decode prog_14_method_26_code 93 = .ok (.iconst (-1), 1) := by decide +kernel
theorem d14_26_94 : decode prog_14_method_26_code 94 = .ok (.iastore, 1) := by decide +kernel
theorem d14_26_95 : decode prog_14_method_26_code 95 = .ok (.iload 6, 2) := by decide +kernel
theorem d14_26_97 : decode prog_14_method_26_code 97 = .ok (.ifCond .ge 17, 3) := by decide +kernel
theorem d14_26_100 : decode prog_14_method_26_code 100 = .ok (.aload_n 0, 1) := by decide +kernel
theorem d14_26_101 : decode prog_14_method_26_code 101 = .ok (.getfield 59, 3) := by decide +kernel
theorem d14_26_104 : decode prog_14_method_26_code 104 = .ok (.aload_n 0, 1) := by decide +kernel
theorem d14_26_105 : decode prog_14_method_26_code 105 = .ok (.getfield 139, 3) := by decide +kernel
theorem d14_26_108 : decode prog_14_method_26_code 108 = .ok (.iload 5, 2) := by decide +kernel
theorem d14_26_110 : decode prog_14_method_26_code 110 = .ok (.iastore, 1) := by decide +kernel
theorem d14_26_111 : decode prog_14_method_26_code 111 = .ok (.goto 12, 3) := by decide +kernel
theorem d14_26_114 : decode prog_14_method_26_code 114 = .ok (.aload_n 0, 1) := by decide +kernel
theorem d14_26_115 : decode prog_14_method_26_code 115 = .ok (.getfield 41, 3) := by decide +kernel
theorem d14_26_118 : decode prog_14_method_26_code 118 = .ok (.iload 6, 2) := by decide +kernel
theorem d14_26_120 : decode prog_14_method_26_code 120 = .ok (.iload 5, 2) := by decide +kernel
theorem d14_26_122 : decode prog_14_method_26_code 122 = .ok (.iastore, 1) := by decide +kernel
theorem d14_26_123 : decode prog_14_method_26_code 123 = .ok (.aload_n 0, 1) := by decide +kernel
theorem d14_26_124 : decode prog_14_method_26_code 124 = .ok (.getfield 62, 3) := by decide +kernel
theorem d14_26_127 : decode prog_14_method_26_code 127 = .ok (.aload_n 0, 1) := by decide +kernel
theorem d14_26_128 : decode prog_14_method_26_code 128 = .ok (.getfield 139, 3) := by decide +kernel
theorem d14_26_131 : decode prog_14_method_26_code 131 = .ok (.iload 5, 2) := by decide +kernel
theorem d14_26_133 : decode prog_14_method_26_code 133 = .ok (.iastore, 1) := by decide +kernel
theorem d14_26_134 : decode prog_14_method_26_code 134 = .ok (.return_, 1) := by decide +kernel
