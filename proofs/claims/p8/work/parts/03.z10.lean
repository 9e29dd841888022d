theorem dX10_init_0 : decode cX10_init 0 = .ok (.aload_n 0, 1) := by decide +kernel
theorem dX10_init_1 : decode cX10_init 1 = .ok (.invokespecial 1, 3) := by decide +kernel
theorem dX10_init_4 : decode cX10_init 4 = .ok (.aload_n 0, 1) := by decide +kernel
theorem dX10_init_5 : decode cX10_init 5 = .ok (.new 7, 3) := by decide +kernel
theorem dX10_init_8 : decode cX10_init 8 = .ok (.dup, 1) := by decide +kernel
theorem dX10_init_9 : decode cX10_init 9 = .ok (.invokespecial 9, 3) := by decide +kernel
theorem dX10_init_12 : decode cX10_init 12 = .ok (.putfield 10, 3) := by decide +kernel
theorem dX10_init_15 : decode cX10_init 15 = .ok (.aload_n 0, 1) := by decide +kernel
theorem dX10_init_16 : decode cX10_init 16 = .ok (.new 16, 3) := by decide +kernel
theorem dX10_init_19 : decode cX10_init 19 = .ok (.dup, 1) := by decide +kernel
theorem dX10_init_20 : decode cX10_init 20 = .ok (.invokespecial 18, 3) := by decide +kernel
theorem dX10_init_23 : decode cX10_init 23 = .ok (.putfield 19, 3) := by decide +kernel
theorem dX10_init_26 : decode cX10_init 26 = .ok (.aload_n 0, 1) := by decide +kernel
theorem dX10_init_27 : decode cX10_init 27 = .ok (.new 23, 3) := by decide +kernel
theorem dX10_init_30 : decode cX10_init 30 = .ok (.dup, 1) := by decide +kernel
theorem dX10_init_31 : decode cX10_init 31 = .ok (.aload_n 0, 1) := by decide +kernel
theorem dX10_init_32 : decode cX10_init 32 = .ok (.getfield 10, 3) := by decide +kernel
theorem dX10_init_35 : decode cX10_init 35 = .ok (.aload_n 0, 1) := by decide +kernel
theorem dX10_init_36 : decode cX10_init 36 = .ok (.getfield 19, 3) := by decide +kernel
theorem dX10_init_39 : decode cX10_init 39 = .ok (.invokespecial 25, 3) := by decide +kernel
theorem dX10_init_42 : decode cX10_init 42 = .ok (.putfield 28, 3) := by decide +kernel
theorem dX10_init_45 : decode cX10_init 45 = .ok (.aload_n 0, 1) := by decide +kernel
theorem dX10_init_46 : decode cX10_init 46 = .ok (.new 32, 3) := by decide +kernel
theorem dX10_init_49 : decode cX10_init 49 = .ok (.dup, 1) := by decide +kernel
theorem dX10_init_50 : decode cX10_init 50 = .ok (.aload_n 0, 1) := by decide +kernel
theorem dX10_init_51 : decode cX10_init 51 = .ok (.getfield 19, 3) := by decide +kernel
theorem dX10_init_54 : decode cX10_init 54 = .ok (.invokespecial 34, 3) := by decide +kernel
theorem dX10_init_57 : decode cX10_init 57 = .ok (.putfield 37, 3) := by decide +kernel
theorem dX10_init_60 : decode cX10_init 60 = .ok (.aload_n 0, 1) := by decide +kernel
theorem dX10_init_61 : decode cX10_init 61 = .ok (.new 41, 3) := by decide +kernel
theorem dX10_init_64 : decode cX10_init 64 = .ok (.dup, 1) := by decide +kernel
theorem dX10_init_65 : decode cX10_init 65 = .ok (.aload_n 0, 1) := by decide +kernel
theorem dX10_init_66 : decode cX10_init 66 = .ok (.getfield 37, 3) := by decide +kernel
theorem dX10_init_69 : decode cX10_init 69 = .ok (.invokespecial 43, 3) := by decide +kernel
theorem dX10_init_72 : decode cX10_init 72 = .ok (.putfield 46, 3) := by decide +kernel
theorem dX10_init_75 : decode cX10_init 75 = .ok (.aload_n 0, 1) := by decide +kernel
theorem dX10_init_76 : decode cX10_init 76 = .ok (.iconst 2, 1) := by decide +kernel
theorem dX10_init_77 : decode cX10_init 77 = .ok (.anewarray 50, 3) := by decide +kernel
theorem dX10_init_80 : decode cX10_init 80 = .ok (.dup, 1) := by decide +kernel
theorem dX10_init_81 : decode cX10_init 81 = .ok (.iconst 0, 1) := by decide +kernel
theorem dX10_init_82 : decode cX10_init 82 = .ok (.new 50, 3) := by decide +kernel
theorem dX10_init_85 : decode cX10_init 85 = .ok (.dup, 1) := by decide +kernel
theorem dX10_init_86 : decode cX10_init 86 = .ok (.invokespecial 52, 3) := by decide +kernel
theorem dX10_init_89 : decode cX10_init 89 = .ok (.aastore, 1) := by decide +kernel
theorem dX10_init_90 : decode cX10_init 90 = .ok (.dup, 1) := by decide +kernel
theorem dX10_init_91 : decode cX10_init 91 = .ok (.iconst 1, 1) := by decide +kernel
theorem dX10_init_92 : decode cX10_init 92 = .ok (.new 50, 3) := by decide +kernel
theorem dX10_init_95 : decode cX10_init 95 = .ok (.dup, 1) := by decide +kernel
theorem dX10_init_96 : decode cX10_init 96 = .ok (.invokespecial 52, 3) := by decide +kernel
theorem dX10_init_99 : decode cX10_init 99 = .ok (.aastore, 1) := by decide +kernel
theorem dX10_init_100 : decode cX10_init 100 = .ok (.putfield 53, 3) := by decide +kernel
theorem dX10_init_103 : decode cX10_init 103 = .ok (.aload_n 0, 1) := by decide +kernel
theorem dX10_init_104 : decode cX10_init 104 = .ok (.new 57, 3) := by decide +kernel
theorem dX10_init_107 : decode cX10_init 107 = .ok (.dup, 1) := by decide +kernel
theorem dX10_init_108 : decode cX10_init 108 = .ok (.invokespecial 59, 3) := by decide +kernel
theorem dX10_init_111 : decode cX10_init 111 = .ok (.putfield 60, 3) := by decide +kernel
theorem dX10_init_114 : decode cX10_init 114 = .ok (.aload_n 0, 1) := by decide +kernel
theorem dX10_init_115 : decode cX10_init 115 = .ok (.new 64, 3) := by decide +kernel
theorem dX10_init_118 : decode cX10_init 118 = .ok (.dup, 1) := by decide +kernel
theorem dX10_init_119 : decode cX10_init 119 = .ok (.invokespecial 66, 3) := by decide +kernel
theorem dX10_init_122 : decode cX10_init 122 = .ok (.putfield 67, 3) := by decide +kernel
theorem dX10_init_125 : decode cX10_init 125 = .ok (.aload_n 0, 1) := by decide +kernel
theorem dX10_init_126 : decode cX10_init 126 = .ok (.iconst (-1), 1) := by decide +kernel
theorem dX10_init_127 : decode cX10_init 127 = .ok (.putfield 71, 3) := by decide +kernel
theorem dX10_init_130 : decode cX10_init 130 = .ok (.return_, 1) := by decide +kernel
theorem dX10_feed_0 : decode cX10_feed 0 = .ok (.aload_n 0, 1) := by decide +kernel
theorem dX10_feed_1 : decode cX10_feed 1 = .ok (.getfield 10, 3) := by decide +kernel
theorem dX10_feed_4 : decode cX10_feed 4 = .ok (.getfield 75, 3) := by decide +kernel
theorem dX10_feed_7 : decode cX10_feed 7 = .ok (.sipush 2028, 3) := by decide +kernel
theorem dX10_feed_10 : decode cX10_feed 10 = .ok (.if_icmp .le 13, 3) := by decide +kernel
theorem dX10_feed_13 : decode cX10_feed 13 = .ok (.new 78, 3) := by decide +kernel
theorem dX10_feed_16 : decode cX10_feed 16 = .ok (.dup, 1) := by decide +kernel
theorem dX10_feed_17 : decode cX10_feed 17 = .ok (.ldc 80, 2) := by decide +kernel
theorem dX10_feed_19 : decode cX10_feed 19 = .ok (.invokespecial 82, 3) := by decide +kernel
theorem dX10_feed_22 : decode cX10_feed 22 = .ok (.athrow, 1) := by decide +kernel
theorem dX10_feed_23 : decode cX10_feed 23 = .ok (.aload_n 0, 1) := by decide +kernel
theorem dX10_feed_24 : decode cX10_feed 24 = .ok (.getfield 10, 3) := by decide +kernel
theorem dX10_feed_27 : decode cX10_feed 27 = .ok (.iload_n 1, 1) := by decide +kernel
theorem dX10_feed_28 : decode cX10_feed 28 = .ok (.invokevirtual 85, 3) := by decide +kernel
theorem dX10_feed_31 : decode cX10_feed 31 = .ok (.aload_n 0, 1) := by decide +kernel
theorem dX10_feed_32 : decode cX10_feed 32 = .ok (.getfield 10, 3) := by decide +kernel
theorem dX10_feed_35 : decode cX10_feed 35 = .ok (.iload_n 2, 1) := by decide +kernel
theorem dX10_feed_36 : decode cX10_feed 36 = .ok (.invokevirtual 85, 3) := by decide +kernel
theorem dX10_feed_39 : decode cX10_feed 39 = .ok (.aload_n 0, 1) := by decide +kernel
theorem dX10_feed_40 : decode cX10_feed 40 = .ok (.getfield 10, 3) := by decide +kernel
theorem dX10_feed_43 : decode cX10_feed 43 = .ok (.iload_n 3, 1) := by decide +kernel
theorem dX10_feed_44 : decode cX10_feed 44 = .ok (.invokevirtual 85, 3) := by decide +kernel
theorem dX10_feed_47 : decode cX10_feed 47 = .ok (.aload_n 0, 1) := by decide +kernel
theorem dX10_feed_48 : decode cX10_feed 48 = .ok (.getfield 10, 3) := by decide +kernel
theorem dX10_feed_51 : decode cX10_feed 51 = .ok (.iload 4, 2) := by decide +kernel
theorem dX10_feed_53 : decode cX10_feed 53 = .ok (.invokevirtual 85, 3) := by decide +kernel
theorem dX10_feed_56 : decode cX10_feed 56 = .ok (.aload_n 0, 1) := by decide +kernel
theorem dX10_feed_57 : decode cX10_feed 57 = .ok (.getfield 10, 3) := by decide +kernel
theorem dX10_feed_60 : decode cX10_feed 60 = .ok (.iload 5, 2) := by decide +kernel
theorem dX10_feed_62 : decode cX10_feed 62 = .ok (.invokevirtual 85, 3) := by decide +kernel
theorem dX10_feed_65 : decode cX10_feed 65 = .ok (.aload_n 0, 1) := by decide +kernel
theorem dX10_feed_66 : decode cX10_feed 66 = .ok (.getfield 10, 3) := by decide +kernel
theorem dX10_feed_69 : decode cX10_feed 69 = .ok (.getfield 75, 3) := by decide +kernel
theorem dX10_feed_72 : decode cX10_feed 72 = .ok (.ireturn, 1) := by decide +kernel
theorem dX10_end_0 : decode cX10_end 0 = .ok (.iload_n 1, 1) := by decide +kernel
theorem dX10_end_1 : decode cX10_end 1 = .ok (.ifCond .lt 14, 3) := by decide +kernel
theorem dX10_end_4 : decode cX10_end 4 = .ok (.iload_n 1, 1) := by decide +kernel
theorem dX10_end_5 : decode cX10_end 5 = .ok (.aload_n 0, 1) := by decide +kernel
theorem dX10_end_6 : decode cX10_end 6 = .ok (.getfield 10, 3) := by decide +kernel
theorem dX10_end_9 : decode cX10_end 9 = .ok (.getfield 75, 3) := by decide +kernel
theorem dX10_end_12 : decode cX10_end 12 = .ok (.if_icmp .le 13, 3) := by decide +kernel
theorem dX10_end_15 : decode cX10_end 15 = .ok (.new 89, 3) := by decide +kernel
theorem dX10_end_18 : decode cX10_end 18 = .ok (.dup, 1) := by decide +kernel
theorem dX10_end_19 : decode cX10_end 19 = .ok (.ldc 91, 2) := by decide +kernel
theorem dX10_end_21 : decode cX10_end 21 = .ok (.invokespecial 93, 3) := by decide +kernel
theorem dX10_end_24 : decode cX10_end 24 = .ok (.athrow, 1) := by decide +kernel
theorem dX10_end_25 : decode cX10_end 25 = .ok (.aload_n 0, 1) := by decide +kernel
theorem dX10_end_26 : decode cX10_end 26 = .ok (.getfield 10, 3) := by decide +kernel
theorem dX10_end_29 : decode cX10_end 29 = .ok (.iload_n 1, 1) := by decide +kernel
theorem dX10_end_30 : decode cX10_end 30 = .ok (.putfield 75, 3) := by decide +kernel
theorem dX10_end_33 : decode cX10_end 33 = .ok (.iload_n 1, 1) := by decide +kernel
theorem dX10_end_34 : decode cX10_end 34 = .ok (.ireturn, 1) := by decide +kernel
theorem dX10_set_0 : decode cX10_set 0 = .ok (.iload_n 1, 1) := by decide +kernel
theorem dX10_set_1 : decode cX10_set 1 = .ok (.invokestatic 94, 3) := by decide +kernel
theorem dX10_set_4 : decode cX10_set 4 = .ok (.istore_n 2, 1) := by decide +kernel
theorem dX10_set_5 : decode cX10_set 5 = .ok (.aload_n 0, 1) := by decide +kernel
theorem dX10_set_6 : decode cX10_set 6 = .ok (.iload_n 2, 1) := by decide +kernel
theorem dX10_set_7 : decode cX10_set 7 = .ok (.ifCond .eq 13, 3) := by decide +kernel
theorem dX10_set_10 : decode cX10_set 10 = .ok (.aload_n 0, 1) := by decide +kernel
theorem dX10_set_11 : decode cX10_set 11 = .ok (.getfield 28, 3) := by decide +kernel
theorem dX10_set_14 : decode cX10_set 14 = .ok (.invokevirtual 98, 3) := by decide +kernel
theorem dX10_set_17 : decode cX10_set 17 = .ok (.goto 4, 3) := by decide +kernel
theorem dX10_set_20 : decode cX10_set 20 = .ok (.iconst (-1), 1) := by decide +kernel
theorem dX10_set_21 : decode cX10_set 21 = .ok (.putfield 71, 3) := by decide +kernel
theorem dX10_set_24 : decode cX10_set 24 = .ok (.aload_n 0, 1) := by decide +kernel
theorem dX10_set_25 : decode cX10_set 25 = .ok (.getfield 10, 3) := by decide +kernel
theorem dX10_set_28 : decode cX10_set 28 = .ok (.iconst 0, 1) := by decide +kernel
theorem dX10_set_29 : decode cX10_set 29 = .ok (.putfield 75, 3) := by decide +kernel
theorem dX10_set_32 : decode cX10_set 32 = .ok (.iload_n 2, 1) := by decide +kernel
theorem dX10_set_33 : decode cX10_set 33 = .ok (.ifCond .ne 13, 3) := by decide +kernel
theorem dX10_set_36 : decode cX10_set 36 = .ok (.new 89, 3) := by decide +kernel
theorem dX10_set_39 : decode cX10_set 39 = .ok (.dup, 1) := by decide +kernel
theorem dX10_set_40 : decode cX10_set 40 = .ok (.ldc 102, 2) := by decide +kernel
theorem dX10_set_42 : decode cX10_set 42 = .ok (.invokespecial 93, 3) := by decide +kernel
theorem dX10_set_45 : decode cX10_set 45 = .ok (.athrow, 1) := by decide +kernel
theorem dX10_set_46 : decode cX10_set 46 = .ok (.aload_n 0, 1) := by decide +kernel
theorem dX10_set_47 : decode cX10_set 47 = .ok (.getfield 71, 3) := by decide +kernel
theorem dX10_set_50 : decode cX10_set 50 = .ok (.ifCond .lt 13, 3) := by decide +kernel
theorem dX10_set_53 : decode cX10_set 53 = .ok (.new 104, 3) := by decide +kernel
theorem dX10_set_56 : decode cX10_set 56 = .ok (.dup, 1) := by decide +kernel
theorem dX10_set_57 : decode cX10_set 57 = .ok (.ldc 106, 2) := by decide +kernel
theorem dX10_set_59 : decode cX10_set 59 = .ok (.invokespecial 108, 3) := by decide +kernel
theorem dX10_set_62 : decode cX10_set 62 = .ok (.athrow, 1) := by decide +kernel
theorem dX10_set_63 : decode cX10_set 63 = .ok (.aload_n 0, 1) := by decide +kernel
theorem dX10_set_64 : decode cX10_set 64 = .ok (.getfield 37, 3) := by decide +kernel
theorem dX10_set_67 : decode cX10_set 67 = .ok (.invokevirtual 109, 3) := by decide +kernel
theorem dX10_set_70 : decode cX10_set 70 = .ok (.ifCond .eq 13, 3) := by decide +kernel
theorem dX10_set_73 : decode cX10_set 73 = .ok (.aload_n 0, 1) := by decide +kernel
theorem dX10_set_74 : decode cX10_set 74 = .ok (.getfield 46, 3) := by decide +kernel
theorem dX10_set_77 : decode cX10_set 77 = .ok (.invokevirtual 113, 3) := by decide +kernel
theorem dX10_set_80 : decode cX10_set 80 = .ok (.ifCond .ne 13, 3) := by decide +kernel
theorem dX10_set_83 : decode cX10_set 83 = .ok (.new 78, 3) := by decide +kernel
theorem dX10_set_86 : decode cX10_set 86 = .ok (.dup, 1) := by decide +kernel
theorem dX10_set_87 : decode cX10_set 87 = .ok (.ldc 116, 2) := by decide +kernel
theorem dX10_set_89 : decode cX10_set 89 = .ok (.invokespecial 82, 3) := by decide +kernel
theorem dX10_set_92 : decode cX10_set 92 = .ok (.athrow, 1) := by decide +kernel
theorem dX10_set_93 : decode cX10_set 93 = .ok (.aload_n 0, 1) := by decide +kernel
theorem dX10_set_94 : decode cX10_set 94 = .ok (.getfield 46, 3) := by decide +kernel
theorem dX10_set_97 : decode cX10_set 97 = .ok (.aload_n 0, 1) := by decide +kernel
theorem dX10_set_98 : decode cX10_set 98 = .ok (.getfield 53, 3) := by decide +kernel
theorem dX10_set_101 : decode cX10_set 101 = .ok (.iload_n 1, 1) := by decide +kernel
theorem dX10_set_102 : decode cX10_set 102 = .ok (.aaload, 1) := by decide +kernel
theorem dX10_set_103 : decode cX10_set 103 = .ok (.aload_n 0, 1) := by decide +kernel
theorem dX10_set_104 : decode cX10_set 104 = .ok (.getfield 19, 3) := by decide +kernel
theorem dX10_set_107 : decode cX10_set 107 = .ok (.getfield 118, 3) := by decide +kernel
theorem dX10_set_110 : decode cX10_set 110 = .ok (.getfield 122, 3) := by decide +kernel
theorem dX10_set_113 : decode cX10_set 113 = .ok (.invokevirtual 128, 3) := by decide +kernel
theorem dX10_set_116 : decode cX10_set 116 = .ok (.aload_n 0, 1) := by decide +kernel
theorem dX10_set_117 : decode cX10_set 117 = .ok (.getfield 53, 3) := by decide +kernel
theorem dX10_set_120 : decode cX10_set 120 = .ok (.iload_n 1, 1) := by decide +kernel
theorem dX10_set_121 : decode cX10_set 121 = .ok (.aaload, 1) := by decide +kernel
theorem dX10_set_122 : decode cX10_set 122 = .ok (.invokevirtual 132, 3) := by decide +kernel
theorem dX10_set_125 : decode cX10_set 125 = .ok (.ireturn, 1) := by decide +kernel
theorem dX10_empty_0 : decode cX10_empty 0 = .ok (.iload_n 1, 1) := by decide +kernel
theorem dX10_empty_1 : decode cX10_empty 1 = .ok (.invokestatic 94, 3) := by decide +kernel
theorem dX10_empty_4 : decode cX10_empty 4 = .ok (.ifCond .ne 13, 3) := by decide +kernel
theorem dX10_empty_7 : decode cX10_empty 7 = .ok (.new 89, 3) := by decide +kernel
theorem dX10_empty_10 : decode cX10_empty 10 = .ok (.dup, 1) := by decide +kernel
theorem dX10_empty_11 : decode cX10_empty 11 = .ok (.ldc 102, 2) := by decide +kernel
theorem dX10_empty_13 : decode cX10_empty 13 = .ok (.invokespecial 93, 3) := by decide +kernel
theorem dX10_empty_16 : decode cX10_empty 16 = .ok (.athrow, 1) := by decide +kernel
theorem dX10_empty_17 : decode cX10_empty 17 = .ok (.aload_n 0, 1) := by decide +kernel
theorem dX10_empty_18 : decode cX10_empty 18 = .ok (.getfield 53, 3) := by decide +kernel
theorem dX10_empty_21 : decode cX10_empty 21 = .ok (.iload_n 1, 1) := by decide +kernel
theorem dX10_empty_22 : decode cX10_empty 22 = .ok (.aaload, 1) := by decide +kernel
theorem dX10_empty_23 : decode cX10_empty 23 = .ok (.getfield 135, 3) := by decide +kernel
theorem dX10_empty_26 : decode cX10_empty 26 = .ok (.ireturn, 1) := by decide +kernel
theorem dX10_fits_0 : decode cX10_fits 0 = .ok (.iload_n 1, 1) := by decide +kernel
theorem dX10_fits_1 : decode cX10_fits 1 = .ok (.invokestatic 94, 3) := by decide +kernel
theorem dX10_fits_4 : decode cX10_fits 4 = .ok (.istore_n 2, 1) := by decide +kernel
theorem dX10_fits_5 : decode cX10_fits 5 = .ok (.iload_n 2, 1) := by decide +kernel
theorem dX10_fits_6 : decode cX10_fits 6 = .ok (.ifCond .eq 23, 3) := by decide +kernel
theorem dX10_fits_9 : decode cX10_fits 9 = .ok (.aload_n 0, 1) := by decide +kernel
theorem dX10_fits_10 : decode cX10_fits 10 = .ok (.getfield 53, 3) := by decide +kernel
theorem dX10_fits_13 : decode cX10_fits 13 = .ok (.iload_n 1, 1) := by decide +kernel
theorem dX10_fits_14 : decode cX10_fits 14 = .ok (.aaload, 1) := by decide +kernel
theorem dX10_fits_15 : decode cX10_fits 15 = .ok (.aload_n 0, 1) := by decide +kernel
theorem dX10_fits_16 : decode cX10_fits 16 = .ok (.getfield 10, 3) := by decide +kernel
theorem dX10_fits_19 : decode cX10_fits 19 = .ok (.invokevirtual 138, 3) := by decide +kernel
theorem dX10_fits_22 : decode cX10_fits 22 = .ok (.ifCond .eq 7, 3) := by decide +kernel
theorem dX10_fits_25 : decode cX10_fits 25 = .ok (.iconst 1, 1) := by decide +kernel
theorem dX10_fits_26 : decode cX10_fits 26 = .ok (.goto 4, 3) := by decide +kernel
theorem dX10_fits_29 : decode cX10_fits 29 = .ok (.iconst 0, 1) := by decide +kernel
theorem dX10_fits_30 : decode cX10_fits 30 = .ok (.istore_n 3, 1) := by decide +kernel
theorem dX10_fits_31 : decode cX10_fits 31 = .ok (.aload_n 0, 1) := by decide +kernel
theorem dX10_fits_32 : decode cX10_fits 32 = .ok (.getfield 10, 3) := by decide +kernel
theorem dX10_fits_35 : decode cX10_fits 35 = .ok (.iconst 0, 1) := by decide +kernel
theorem dX10_fits_36 : decode cX10_fits 36 = .ok (.putfield 75, 3) := by decide +kernel
theorem dX10_fits_39 : decode cX10_fits 39 = .ok (.iload_n 2, 1) := by decide +kernel
theorem dX10_fits_40 : decode cX10_fits 40 = .ok (.ifCond .ne 13, 3) := by decide +kernel
theorem dX10_fits_43 : decode cX10_fits 43 = .ok (.new 89, 3) := by decide +kernel
theorem dX10_fits_46 : decode cX10_fits 46 = .ok (.dup, 1) := by decide +kernel
theorem dX10_fits_47 : decode cX10_fits 47 = .ok (.ldc 102, 2) := by decide +kernel
theorem dX10_fits_49 : decode cX10_fits 49 = .ok (.invokespecial 93, 3) := by decide +kernel
theorem dX10_fits_52 : decode cX10_fits 52 = .ok (.athrow, 1) := by decide +kernel
theorem dX10_fits_53 : decode cX10_fits 53 = .ok (.iload_n 3, 1) := by decide +kernel
theorem dX10_fits_54 : decode cX10_fits 54 = .ok (.ireturn, 1) := by decide +kernel
theorem dX10_first_0 : decode cX10_first 0 = .ok (.iload_n 1, 1) := by decide +kernel
theorem dX10_first_1 : decode cX10_first 1 = .ok (.ifCond .lt 8, 3) := by decide +kernel
theorem dX10_first_4 : decode cX10_first 4 = .ok (.iload_n 1, 1) := by decide +kernel
theorem dX10_first_5 : decode cX10_first 5 = .ok (.iconst 5, 1) := by decide +kernel
theorem dX10_first_6 : decode cX10_first 6 = .ok (.if_icmp .lt 13, 3) := by decide +kernel
theorem dX10_first_9 : decode cX10_first 9 = .ok (.new 89, 3) := by decide +kernel
theorem dX10_first_12 : decode cX10_first 12 = .ok (.dup, 1) := by decide +kernel
theorem dX10_first_13 : decode cX10_first 13 = .ok (.ldc 142, 2) := by decide +kernel
theorem dX10_first_15 : decode cX10_first 15 = .ok (.invokespecial 93, 3) := by decide +kernel
theorem dX10_first_18 : decode cX10_first 18 = .ok (.athrow, 1) := by decide +kernel
theorem dX10_first_19 : decode cX10_first 19 = .ok (.aload_n 0, 1) := by decide +kernel
theorem dX10_first_20 : decode cX10_first 20 = .ok (.getfield 67, 3) := by decide +kernel
theorem dX10_first_23 : decode cX10_first 23 = .ok (.aload_n 0, 1) := by decide +kernel
theorem dX10_first_24 : decode cX10_first 24 = .ok (.getfield 53, 3) := by decide +kernel
theorem dX10_first_27 : decode cX10_first 27 = .ok (.iconst 0, 1) := by decide +kernel
theorem dX10_first_28 : decode cX10_first 28 = .ok (.aaload, 1) := by decide +kernel
theorem dX10_first_29 : decode cX10_first 29 = .ok (.aload_n 0, 1) := by decide +kernel
theorem dX10_first_30 : decode cX10_first 30 = .ok (.getfield 53, 3) := by decide +kernel
theorem dX10_first_33 : decode cX10_first 33 = .ok (.iconst 1, 1) := by decide +kernel
theorem dX10_first_34 : decode cX10_first 34 = .ok (.aaload, 1) := by decide +kernel
theorem dX10_first_35 : decode cX10_first 35 = .ok (.iload_n 1, 1) := by decide +kernel
theorem dX10_first_36 : decode cX10_first 36 = .ok (.invokevirtual 144, 3) := by decide +kernel
theorem dX10_first_39 : decode cX10_first 39 = .ok (.ireturn, 1) := by decide +kernel
theorem dX10_octet_0 : decode cX10_octet 0 = .ok (.iload_n 1, 1) := by decide +kernel
theorem dX10_octet_1 : decode cX10_octet 1 = .ok (.ifCond .lt 14, 3) := by decide +kernel
theorem dX10_octet_4 : decode cX10_octet 4 = .ok (.iload_n 1, 1) := by decide +kernel
theorem dX10_octet_5 : decode cX10_octet 5 = .ok (.aload_n 0, 1) := by decide +kernel
theorem dX10_octet_6 : decode cX10_octet 6 = .ok (.getfield 67, 3) := by decide +kernel
theorem dX10_octet_9 : decode cX10_octet 9 = .ok (.getfield 148, 3) := by decide +kernel
theorem dX10_octet_12 : decode cX10_octet 12 = .ok (.if_icmp .lt 13, 3) := by decide +kernel
theorem dX10_octet_15 : decode cX10_octet 15 = .ok (.new 149, 3) := by decide +kernel
theorem dX10_octet_18 : decode cX10_octet 18 = .ok (.dup, 1) := by decide +kernel
theorem dX10_octet_19 : decode cX10_octet 19 = .ok (.ldc 151, 2) := by decide +kernel
theorem dX10_octet_21 : decode cX10_octet 21 = .ok (.invokespecial 153, 3) := by decide +kernel
theorem dX10_octet_24 : decode cX10_octet 24 = .ok (.athrow, 1) := by decide +kernel
theorem dX10_octet_25 : decode cX10_octet 25 = .ok (.aload_n 0, 1) := by decide +kernel
theorem dX10_octet_26 : decode cX10_octet 26 = .ok (.getfield 67, 3) := by decide +kernel
theorem dX10_octet_29 : decode cX10_octet 29 = .ok (.getfield 154, 3) := by decide +kernel
theorem dX10_octet_32 : decode cX10_octet 32 = .ok (.iload_n 1, 1) := by decide +kernel
theorem dX10_octet_33 : decode cX10_octet 33 = .ok (.baload, 1) := by decide +kernel
theorem dX10_octet_34 : decode cX10_octet 34 = .ok (.ireturn, 1) := by decide +kernel
theorem dX10_count_0 : decode cX10_count 0 = .ok (.iload_n 1, 1) := by decide +kernel
theorem dX10_count_1 : decode cX10_count 1 = .ok (.invokestatic 94, 3) := by decide +kernel
theorem dX10_count_4 : decode cX10_count 4 = .ok (.ifCond .ne 13, 3) := by decide +kernel
theorem dX10_count_7 : decode cX10_count 7 = .ok (.new 89, 3) := by decide +kernel
theorem dX10_count_10 : decode cX10_count 10 = .ok (.dup, 1) := by decide +kernel
theorem dX10_count_11 : decode cX10_count 11 = .ok (.ldc 102, 2) := by decide +kernel
theorem dX10_count_13 : decode cX10_count 13 = .ok (.invokespecial 93, 3) := by decide +kernel
theorem dX10_count_16 : decode cX10_count 16 = .ok (.athrow, 1) := by decide +kernel
theorem dX10_count_17 : decode cX10_count 17 = .ok (.iload_n 2, 1) := by decide +kernel
theorem dX10_count_18 : decode cX10_count 18 = .ok (.ifCond .lt 9, 3) := by decide +kernel
theorem dX10_count_21 : decode cX10_count 21 = .ok (.iload_n 2, 1) := by decide +kernel
theorem dX10_count_22 : decode cX10_count 22 = .ok (.bipush 12, 2) := by decide +kernel
theorem dX10_count_24 : decode cX10_count 24 = .ok (.if_icmp .le 13, 3) := by decide +kernel
theorem dX10_count_27 : decode cX10_count 27 = .ok (.new 89, 3) := by decide +kernel
theorem dX10_count_30 : decode cX10_count 30 = .ok (.dup, 1) := by decide +kernel
theorem dX10_count_31 : decode cX10_count 31 = .ok (.ldc 158, 2) := by decide +kernel
theorem dX10_count_33 : decode cX10_count 33 = .ok (.invokespecial 93, 3) := by decide +kernel
theorem dX10_count_36 : decode cX10_count 36 = .ok (.athrow, 1) := by decide +kernel
theorem dX10_count_37 : decode cX10_count 37 = .ok (.aload_n 0, 1) := by decide +kernel
theorem dX10_count_38 : decode cX10_count 38 = .ok (.getfield 60, 3) := by decide +kernel
theorem dX10_count_41 : decode cX10_count 41 = .ok (.aload_n 0, 1) := by decide +kernel
theorem dX10_count_42 : decode cX10_count 42 = .ok (.getfield 53, 3) := by decide +kernel
theorem dX10_count_45 : decode cX10_count 45 = .ok (.iload_n 1, 1) := by decide +kernel
theorem dX10_count_46 : decode cX10_count 46 = .ok (.aaload, 1) := by decide +kernel
theorem dX10_count_47 : decode cX10_count 47 = .ok (.iload_n 2, 1) := by decide +kernel
theorem dX10_count_48 : decode cX10_count 48 = .ok (.invokevirtual 160, 3) := by decide +kernel
theorem dX10_count_51 : decode cX10_count 51 = .ok (.lreturn, 1) := by decide +kernel
theorem dX10_place_0 : decode cX10_place 0 = .ok (.aload_n 0, 1) := by decide +kernel
theorem dX10_place_1 : decode cX10_place 1 = .ok (.getfield 71, 3) := by decide +kernel
theorem dX10_place_4 : decode cX10_place 4 = .ok (.ireturn, 1) := by decide +kernel
theorem dX10_isPattern_0 : decode cX10_isPattern 0 = .ok (.iload_n 0, 1) := by decide +kernel
theorem dX10_isPattern_1 : decode cX10_isPattern 1 = .ok (.ifCond .eq 8, 3) := by decide +kernel
theorem dX10_isPattern_4 : decode cX10_isPattern 4 = .ok (.iload_n 0, 1) := by decide +kernel
theorem dX10_isPattern_5 : decode cX10_isPattern 5 = .ok (.iconst 1, 1) := by decide +kernel
theorem dX10_isPattern_6 : decode cX10_isPattern 6 = .ok (.if_icmp .ne 7, 3) := by decide +kernel
theorem dX10_isPattern_9 : decode cX10_isPattern 9 = .ok (.iconst 1, 1) := by decide +kernel
theorem dX10_isPattern_10 : decode cX10_isPattern 10 = .ok (.goto 4, 3) := by decide +kernel
theorem dX10_isPattern_13 : decode cX10_isPattern 13 = .ok (.iconst 0, 1) := by decide +kernel
theorem dX10_isPattern_14 : decode cX10_isPattern 14 = .ok (.ireturn, 1) := by decide +kernel
theorem dX10_rowFor_0 : decode cX10_rowFor 0 = .ok (.aload_n 1, 1) := by decide +kernel
theorem dX10_rowFor_1 : decode cX10_rowFor 1 = .ok (.arraylength, 1) := by decide +kernel
theorem dX10_rowFor_2 : decode cX10_rowFor 2 = .ok (.iload_n 0, 1) := by decide +kernel
theorem dX10_rowFor_3 : decode cX10_rowFor 3 = .ok (.if_icmp .lt 7, 3) := by decide +kernel
theorem dX10_rowFor_6 : decode cX10_rowFor 6 = .ok (.aload_n 1, 1) := by decide +kernel
theorem dX10_rowFor_7 : decode cX10_rowFor 7 = .ok (.goto 13, 3) := by decide +kernel
theorem dX10_rowFor_10 : decode cX10_rowFor 10 = .ok (.iload_n 0, 1) := by decide +kernel
theorem dX10_rowFor_11 : decode cX10_rowFor 11 = .ok (.iconst 2, 1) := by decide +kernel
theorem dX10_rowFor_12 : decode cX10_rowFor 12 = .ok (.aload_n 1, 1) := by decide +kernel
theorem dX10_rowFor_13 : decode cX10_rowFor 13 = .ok (.arraylength, 1) := by decide +kernel
theorem dX10_rowFor_14 : decode cX10_rowFor 14 = .ok (.imul, 1) := by decide +kernel
theorem dX10_rowFor_15 : decode cX10_rowFor 15 = .ok (.invokestatic 164, 3) := by decide +kernel
theorem dX10_rowFor_18 : decode cX10_rowFor 18 = .ok (.newarray .int, 2) := by decide +kernel
theorem dX10_rowFor_20 : decode cX10_rowFor 20 = .ok (.areturn, 1) := by decide +kernel
theorem dX10_hasBit_0 : decode cX10_hasBit 0 = .ok (.aload_n 0, 1) := by decide +kernel
theorem dX10_hasBit_1 : decode cX10_hasBit 1 = .ok (.iload_n 1, 1) := by decide +kernel
theorem dX10_hasBit_2 : decode cX10_hasBit 2 = .ok (.iload_n 2, 1) := by decide +kernel
theorem dX10_hasBit_3 : decode cX10_hasBit 3 = .ok (.bipush 6, 2) := by decide +kernel
theorem dX10_hasBit_5 : decode cX10_hasBit 5 = .ok (.ishr, 1) := by decide +kernel
theorem dX10_hasBit_6 : decode cX10_hasBit 6 = .ok (.iadd, 1) := by decide +kernel
theorem dX10_hasBit_7 : decode cX10_hasBit 7 = .ok (.laload, 1) := by decide +kernel
theorem dX10_hasBit_8 : decode cX10_hasBit 8 = .ok (.iload_n 2, 1) := by decide +kernel
theorem dX10_hasBit_9 : decode cX10_hasBit 9 = .ok (.bipush 63, 2) := by decide +kernel
theorem dX10_hasBit_11 : decode cX10_hasBit 11 = .ok (.iand, 1) := by decide +kernel
theorem dX10_hasBit_12 : decode cX10_hasBit 12 = .ok (.lushr, 1) := by decide +kernel
theorem dX10_hasBit_13 : decode cX10_hasBit 13 = .ok (.lconst 1, 1) := by decide +kernel
theorem dX10_hasBit_14 : decode cX10_hasBit 14 = .ok (.land, 1) := by decide +kernel
theorem dX10_hasBit_15 : decode cX10_hasBit 15 = .ok (.lconst 0, 1) := by decide +kernel
theorem dX10_hasBit_16 : decode cX10_hasBit 16 = .ok (.lcmp, 1) := by decide +kernel
theorem dX10_hasBit_17 : decode cX10_hasBit 17 = .ok (.ifCond .eq 7, 3) := by decide +kernel
theorem dX10_hasBit_20 : decode cX10_hasBit 20 = .ok (.iconst 1, 1) := by decide +kernel
theorem dX10_hasBit_21 : decode cX10_hasBit 21 = .ok (.goto 4, 3) := by decide +kernel
theorem dX10_hasBit_24 : decode cX10_hasBit 24 = .ok (.iconst 0, 1) := by decide +kernel
theorem dX10_hasBit_25 : decode cX10_hasBit 25 = .ok (.ireturn, 1) := by decide +kernel
theorem dX10_addBit_0 : decode cX10_addBit 0 = .ok (.aload_n 0, 1) := by decide +kernel
theorem dX10_addBit_1 : decode cX10_addBit 1 = .ok (.iload_n 1, 1) := by decide +kernel
theorem dX10_addBit_2 : decode cX10_addBit 2 = .ok (.iload_n 2, 1) := by decide +kernel
theorem dX10_addBit_3 : decode cX10_addBit 3 = .ok (.bipush 6, 2) := by decide +kernel
theorem dX10_addBit_5 : decode cX10_addBit 5 = .ok (.ishr, 1) := by decide +kernel
theorem dX10_addBit_6 : decode cX10_addBit 6 = .ok (.iadd, 1) := by decide +kernel
theorem dX10_addBit_7 : decode cX10_addBit 7 = .ok (.dup2, 1) := by decide +kernel
theorem dX10_addBit_8 : decode cX10_addBit 8 = .ok (.laload, 1) := by decide +kernel
theorem dX10_addBit_9 : decode cX10_addBit 9 = .ok (.lconst 1, 1) := by decide +kernel
theorem dX10_addBit_10 : decode cX10_addBit 10 = .ok (.iload_n 2, 1) := by decide +kernel
theorem dX10_addBit_11 : decode cX10_addBit 11 = .ok (.bipush 63, 2) := by decide +kernel
theorem dX10_addBit_13 : decode cX10_addBit 13 = .ok (.iand, 1) := by decide +kernel
theorem dX10_addBit_14 : decode cX10_addBit 14 = .ok (.lshl, 1) := by decide +kernel
theorem dX10_addBit_15 : decode cX10_addBit 15 = .ok (.lor, 1) := by decide +kernel
theorem dX10_addBit_16 : decode cX10_addBit 16 = .ok (.lastore, 1) := by decide +kernel
theorem dX10_addBit_17 : decode cX10_addBit 17 = .ok (.return_, 1) := by decide +kernel
theorem dX10_addAll_0 : decode cX10_addAll 0 = .ok (.iconst 0, 1) := by decide +kernel
theorem dX10_addAll_1 : decode cX10_addAll 1 = .ok (.istore_n 3, 1) := by decide +kernel
theorem dX10_addAll_2 : decode cX10_addAll 2 = .ok (.iload_n 3, 1) := by decide +kernel
theorem dX10_addAll_3 : decode cX10_addAll 3 = .ok (.bipush 7, 2) := by decide +kernel
theorem dX10_addAll_5 : decode cX10_addAll 5 = .ok (.if_icmp .ge 20, 3) := by decide +kernel
theorem dX10_addAll_8 : decode cX10_addAll 8 = .ok (.aload_n 0, 1) := by decide +kernel
theorem dX10_addAll_9 : decode cX10_addAll 9 = .ok (.iload_n 1, 1) := by decide +kernel
theorem dX10_addAll_10 : decode cX10_addAll 10 = .ok (.iload_n 3, 1) := by decide +kernel
theorem dX10_addAll_11 : decode cX10_addAll 11 = .ok (.iadd, 1) := by decide +kernel
theorem dX10_addAll_12 : decode cX10_addAll 12 = .ok (.dup2, 1) := by decide +kernel
theorem dX10_addAll_13 : decode cX10_addAll 13 = .ok (.laload, 1) := by decide +kernel
theorem dX10_addAll_14 : decode cX10_addAll 14 = .ok (.aload_n 2, 1) := by decide +kernel
theorem dX10_addAll_15 : decode cX10_addAll 15 = .ok (.iload_n 3, 1) := by decide +kernel
theorem dX10_addAll_16 : decode cX10_addAll 16 = .ok (.laload, 1) := by decide +kernel
theorem dX10_addAll_17 : decode cX10_addAll 17 = .ok (.lor, 1) := by decide +kernel
theorem dX10_addAll_18 : decode cX10_addAll 18 = .ok (.lastore, 1) := by decide +kernel
theorem dX10_addAll_19 : decode cX10_addAll 19 = .ok (.iinc 3 1, 3) := by decide +kernel
theorem dX10_addAll_22 : decode cX10_addAll 22 = .ok (.goto (-20), 3) := by decide +kernel
theorem dX10_addAll_25 : decode cX10_addAll 25 = .ok (.return_, 1) := by decide +kernel
theorem dX10_sameRow_0 : decode cX10_sameRow 0 = .ok (.iconst 0, 1) := by decide +kernel
theorem dX10_sameRow_1 : decode cX10_sameRow 1 = .ok (.istore 4, 2) := by decide +kernel
theorem dX10_sameRow_3 : decode cX10_sameRow 3 = .ok (.iload 4, 2) := by decide +kernel
theorem dX10_sameRow_5 : decode cX10_sameRow 5 = .ok (.bipush 7, 2) := by decide +kernel
theorem dX10_sameRow_7 : decode cX10_sameRow 7 = .ok (.if_icmp .ge 27, 3) := by decide +kernel
theorem dX10_sameRow_10 : decode cX10_sameRow 10 = .ok (.aload_n 0, 1) := by decide +kernel
theorem dX10_sameRow_11 : decode cX10_sameRow 11 = .ok (.iload_n 1, 1) := by decide +kernel
theorem dX10_sameRow_12 : decode cX10_sameRow 12 = .ok (.iload 4, 2) := by decide +kernel
theorem dX10_sameRow_14 : decode cX10_sameRow 14 = .ok (.iadd, 1) := by decide +kernel
theorem dX10_sameRow_15 : decode cX10_sameRow 15 = .ok (.laload, 1) := by decide +kernel
theorem dX10_sameRow_16 : decode cX10_sameRow 16 = .ok (.aload_n 2, 1) := by decide +kernel
theorem dX10_sameRow_17 : decode cX10_sameRow 17 = .ok (.iload_n 3, 1) := by decide +kernel
theorem dX10_sameRow_18 : decode cX10_sameRow 18 = .ok (.iload 4, 2) := by decide +kernel
theorem dX10_sameRow_20 : decode cX10_sameRow 20 = .ok (.iadd, 1) := by decide +kernel
theorem dX10_sameRow_21 : decode cX10_sameRow 21 = .ok (.laload, 1) := by decide +kernel
theorem dX10_sameRow_22 : decode cX10_sameRow 22 = .ok (.lcmp, 1) := by decide +kernel
theorem dX10_sameRow_23 : decode cX10_sameRow 23 = .ok (.ifCond .eq 5, 3) := by decide +kernel
theorem dX10_sameRow_26 : decode cX10_sameRow 26 = .ok (.iconst 0, 1) := by decide +kernel
theorem dX10_sameRow_27 : decode cX10_sameRow 27 = .ok (.ireturn, 1) := by decide +kernel
theorem dX10_sameRow_28 : decode cX10_sameRow 28 = .ok (.iinc 4 1, 3) := by decide +kernel
theorem dX10_sameRow_31 : decode cX10_sameRow 31 = .ok (.goto (-28), 3) := by decide +kernel
theorem dX10_sameRow_34 : decode cX10_sameRow 34 = .ok (.iconst 1, 1) := by decide +kernel
theorem dX10_sameRow_35 : decode cX10_sameRow 35 = .ok (.ireturn, 1) := by decide +kernel
