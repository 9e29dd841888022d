theorem dX3_init_0 : decode cX3_init 0 = .ok (.aload_n 0, 1) := by decide +kernel
theorem dX3_init_1 : decode cX3_init 1 = .ok (.invokespecial 3, 3) := by decide +kernel
theorem dX3_init_4 : decode cX3_init 4 = .ok (.aload_n 0, 1) := by decide +kernel
theorem dX3_init_5 : decode cX3_init 5 = .ok (.sipush 128, 3) := by decide +kernel
theorem dX3_init_8 : decode cX3_init 8 = .ok (.newarray .int, 2) := by decide +kernel
theorem dX3_init_10 : decode cX3_init 10 = .ok (.putfield 9, 3) := by decide +kernel
theorem dX3_init_13 : decode cX3_init 13 = .ok (.aload_n 0, 1) := by decide +kernel
theorem dX3_init_14 : decode cX3_init 14 = .ok (.sipush 128, 3) := by decide +kernel
theorem dX3_init_17 : decode cX3_init 17 = .ok (.newarray .int, 2) := by decide +kernel
theorem dX3_init_19 : decode cX3_init 19 = .ok (.putfield 15, 3) := by decide +kernel
theorem dX3_init_22 : decode cX3_init 22 = .ok (.aload_n 0, 1) := by decide +kernel
theorem dX3_init_23 : decode cX3_init 23 = .ok (.sipush 128, 3) := by decide +kernel
theorem dX3_init_26 : decode cX3_init 26 = .ok (.newarray .int, 2) := by decide +kernel
theorem dX3_init_28 : decode cX3_init 28 = .ok (.putfield 18, 3) := by decide +kernel
theorem dX3_init_31 : decode cX3_init 31 = .ok (.return_, 1) := by decide +kernel
theorem dX3_sort_0 : decode cX3_sort 0 = .ok (.aload_n 0, 1) := by decide +kernel
theorem dX3_sort_1 : decode cX3_sort 1 = .ok (.iconst 0, 1) := by decide +kernel
theorem dX3_sort_2 : decode cX3_sort 2 = .ok (.putfield 21, 3) := by decide +kernel
theorem dX3_sort_5 : decode cX3_sort 5 = .ok (.iconst 0, 1) := by decide +kernel
theorem dX3_sort_6 : decode cX3_sort 6 = .ok (.istore_n 2, 1) := by decide +kernel
theorem dX3_sort_7 : decode cX3_sort 7 = .ok (.iload_n 2, 1) := by decide +kernel
theorem dX3_sort_8 : decode cX3_sort 8 = .ok (.sipush 128, 3) := by decide +kernel
theorem dX3_sort_11 : decode cX3_sort 11 = .ok (.if_icmp .ge 95, 3) := by decide +kernel
theorem dX3_sort_14 : decode cX3_sort 14 = .ok (.iconst 0, 1) := by decide +kernel
theorem dX3_sort_15 : decode cX3_sort 15 = .ok (.istore_n 3, 1) := by decide +kernel
theorem dX3_sort_16 : decode cX3_sort 16 = .ok (.iload_n 3, 1) := by decide +kernel
theorem dX3_sort_17 : decode cX3_sort 17 = .ok (.aload_n 0, 1) := by decide +kernel
theorem dX3_sort_18 : decode cX3_sort 18 = .ok (.getfield 21, 3) := by decide +kernel
theorem dX3_sort_21 : decode cX3_sort 21 = .ok (.if_icmp .ge 30, 3) := by decide +kernel
theorem dX3_sort_24 : decode cX3_sort 24 = .ok (.aload_n 1, 1) := by decide +kernel
theorem dX3_sort_25 : decode cX3_sort 25 = .ok (.iload_n 2, 1) := by decide +kernel
theorem dX3_sort_26 : decode cX3_sort 26 = .ok (.bipush 7, 2) := by decide +kernel
theorem dX3_sort_28 : decode cX3_sort 28 = .ok (.imul, 1) := by decide +kernel
theorem dX3_sort_29 : decode cX3_sort 29 = .ok (.aload_n 1, 1) := by decide +kernel
theorem dX3_sort_30 : decode cX3_sort 30 = .ok (.aload_n 0, 1) := by decide +kernel
theorem dX3_sort_31 : decode cX3_sort 31 = .ok (.getfield 15, 3) := by decide +kernel
theorem dX3_sort_34 : decode cX3_sort 34 = .ok (.iload_n 3, 1) := by decide +kernel
theorem dX3_sort_35 : decode cX3_sort 35 = .ok (.iaload, 1) := by decide +kernel
theorem dX3_sort_36 : decode cX3_sort 36 = .ok (.bipush 7, 2) := by decide +kernel
theorem dX3_sort_38 : decode cX3_sort 38 = .ok (.imul, 1) := by decide +kernel
theorem dX3_sort_39 : decode cX3_sort 39 = .ok (.invokestatic 25, 3) := by decide +kernel
theorem dX3_sort_42 : decode cX3_sort 42 = .ok (.ifCond .ne 9, 3) := by decide +kernel
theorem dX3_sort_45 : decode cX3_sort 45 = .ok (.iinc 3 1, 3) := by decide +kernel
theorem dX3_sort_48 : decode cX3_sort 48 = .ok (.goto (-32), 3) := by decide +kernel
theorem dX3_sort_51 : decode cX3_sort 51 = .ok (.iload_n 3, 1) := by decide +kernel
theorem dX3_sort_52 : decode cX3_sort 52 = .ok (.aload_n 0, 1) := by decide +kernel
theorem dX3_sort_53 : decode cX3_sort 53 = .ok (.getfield 21, 3) := by decide +kernel
theorem dX3_sort_56 : decode cX3_sort 56 = .ok (.if_icmp .ne 27, 3) := by decide +kernel
theorem dX3_sort_59 : decode cX3_sort 59 = .ok (.aload_n 0, 1) := by decide +kernel
theorem dX3_sort_60 : decode cX3_sort 60 = .ok (.getfield 15, 3) := by decide +kernel
theorem dX3_sort_63 : decode cX3_sort 63 = .ok (.iload_n 3, 1) := by decide +kernel
theorem dX3_sort_64 : decode cX3_sort 64 = .ok (.iload_n 2, 1) := by decide +kernel
theorem dX3_sort_65 : decode cX3_sort 65 = .ok (.iastore, 1) := by decide +kernel
theorem dX3_sort_66 : decode cX3_sort 66 = .ok (.aload_n 0, 1) := by decide +kernel
theorem dX3_sort_67 : decode cX3_sort 67 = .ok (.getfield 18, 3) := by decide +kernel
theorem dX3_sort_70 : decode cX3_sort 70 = .ok (.iload_n 3, 1) := by decide +kernel
theorem dX3_sort_71 : decode cX3_sort 71 = .ok (.iconst 0, 1) := by decide +kernel
theorem dX3_sort_72 : decode cX3_sort 72 = .ok (.iastore, 1) := by decide +kernel
theorem dX3_sort_73 : decode cX3_sort 73 = .ok (.aload_n 0, 1) := by decide +kernel
theorem dX3_sort_74 : decode cX3_sort 74 = .ok (.dup, 1) := by decide +kernel
theorem dX3_sort_75 : decode cX3_sort 75 = .ok (.getfield 21, 3) := by decide +kernel
theorem dX3_sort_78 : decode cX3_sort 78 = .ok (.iconst 1, 1) := by decide +kernel
theorem dX3_sort_79 : decode cX3_sort 79 = .ok (.iadd, 1) := by decide +kernel
theorem dX3_sort_80 : decode cX3_sort 80 = .ok (.putfield 21, 3) := by decide +kernel
theorem dX3_sort_83 : decode cX3_sort 83 = .ok (.aload_n 0, 1) := by decide +kernel
theorem dX3_sort_84 : decode cX3_sort 84 = .ok (.getfield 9, 3) := by decide +kernel
theorem dX3_sort_87 : decode cX3_sort 87 = .ok (.iload_n 2, 1) := by decide +kernel
theorem dX3_sort_88 : decode cX3_sort 88 = .ok (.iload_n 3, 1) := by decide +kernel
theorem dX3_sort_89 : decode cX3_sort 89 = .ok (.iastore, 1) := by decide +kernel
theorem dX3_sort_90 : decode cX3_sort 90 = .ok (.aload_n 0, 1) := by decide +kernel
theorem dX3_sort_91 : decode cX3_sort 91 = .ok (.getfield 18, 3) := by decide +kernel
theorem dX3_sort_94 : decode cX3_sort 94 = .ok (.iload_n 3, 1) := by decide +kernel
theorem dX3_sort_95 : decode cX3_sort 95 = .ok (.dup2, 1) := by decide +kernel
theorem dX3_sort_96 : decode cX3_sort 96 = .ok (.iaload, 1) := by decide +kernel
theorem dX3_sort_97 : decode cX3_sort 97 = .ok (.iconst 1, 1) := by decide +kernel
theorem dX3_sort_98 : decode cX3_sort 98 = .ok (.iadd, 1) := by decide +kernel
theorem dX3_sort_99 : decode cX3_sort 99 = .ok (.iastore, 1) := by decide +kernel
theorem dX3_sort_100 : decode cX3_sort 100 = .ok (.iinc 2 1, 3) := by decide +kernel
theorem dX3_sort_103 : decode cX3_sort 103 = .ok (.goto (-96), 3) := by decide +kernel
theorem dX3_sort_106 : decode cX3_sort 106 = .ok (.return_, 1) := by decide +kernel
