theorem dX6_init_0 : decode cX6_init 0 = .ok (.aload_n 0, 1) := by decide +kernel
theorem dX6_init_1 : decode cX6_init 1 = .ok (.invokespecial 3, 3) := by decide +kernel
theorem dX6_init_4 : decode cX6_init 4 = .ok (.aload_n 0, 1) := by decide +kernel
theorem dX6_init_5 : decode cX6_init 5 = .ok (.bipush 41, 2) := by decide +kernel
theorem dX6_init_7 : decode cX6_init 7 = .ok (.anewarray 9, 3) := by decide +kernel
theorem dX6_init_10 : decode cX6_init 10 = .ok (.putfield 11, 3) := by decide +kernel
theorem dX6_init_13 : decode cX6_init 13 = .ok (.aload_n 0, 1) := by decide +kernel
theorem dX6_init_14 : decode cX6_init 14 = .ok (.bipush 41, 2) := by decide +kernel
theorem dX6_init_16 : decode cX6_init 16 = .ok (.anewarray 9, 3) := by decide +kernel
theorem dX6_init_19 : decode cX6_init 19 = .ok (.putfield 17, 3) := by decide +kernel
theorem dX6_init_22 : decode cX6_init 22 = .ok (.aload_n 0, 1) := by decide +kernel
theorem dX6_init_23 : decode cX6_init 23 = .ok (.new 9, 3) := by decide +kernel
theorem dX6_init_26 : decode cX6_init 26 = .ok (.dup, 1) := by decide +kernel
theorem dX6_init_27 : decode cX6_init 27 = .ok (.invokespecial 20, 3) := by decide +kernel
theorem dX6_init_30 : decode cX6_init 30 = .ok (.putfield 21, 3) := by decide +kernel
theorem dX6_init_33 : decode cX6_init 33 = .ok (.aload_n 0, 1) := by decide +kernel
theorem dX6_init_34 : decode cX6_init 34 = .ok (.aload_n 1, 1) := by decide +kernel
theorem dX6_init_35 : decode cX6_init 35 = .ok (.putfield 25, 3) := by decide +kernel
theorem dX6_init_38 : decode cX6_init 38 = .ok (.aload_n 0, 1) := by decide +kernel
theorem dX6_init_39 : decode cX6_init 39 = .ok (.aload_n 2, 1) := by decide +kernel
theorem dX6_init_40 : decode cX6_init 40 = .ok (.putfield 29, 3) := by decide +kernel
theorem dX6_init_43 : decode cX6_init 43 = .ok (.return_, 1) := by decide +kernel
theorem dX6_readTape_0 : decode cX6_readTape 0 = .ok (.aload_n 0, 1) := by decide +kernel
theorem dX6_readTape_1 : decode cX6_readTape 1 = .ok (.getfield 29, 3) := by decide +kernel
theorem dX6_readTape_4 : decode cX6_readTape 4 = .ok (.invokevirtual 33, 3) := by decide +kernel
theorem dX6_readTape_7 : decode cX6_readTape 7 = .ok (.aload_n 0, 1) := by decide +kernel
theorem dX6_readTape_8 : decode cX6_readTape 8 = .ok (.iconst 0, 1) := by decide +kernel
theorem dX6_readTape_9 : decode cX6_readTape 9 = .ok (.putfield 38, 3) := by decide +kernel
theorem dX6_readTape_12 : decode cX6_readTape 12 = .ok (.aload_n 0, 1) := by decide +kernel
theorem dX6_readTape_13 : decode cX6_readTape 13 = .ok (.iconst (-1), 1) := by decide +kernel
theorem dX6_readTape_14 : decode cX6_readTape 14 = .ok (.putfield 42, 3) := by decide +kernel
theorem dX6_readTape_17 : decode cX6_readTape 17 = .ok (.aload_n 0, 1) := by decide +kernel
theorem dX6_readTape_18 : decode cX6_readTape 18 = .ok (.iconst 0, 1) := by decide +kernel
theorem dX6_readTape_19 : decode cX6_readTape 19 = .ok (.putfield 45, 3) := by decide +kernel
theorem dX6_readTape_22 : decode cX6_readTape 22 = .ok (.aload_n 0, 1) := by decide +kernel
theorem dX6_readTape_23 : decode cX6_readTape 23 = .ok (.invokevirtual 48, 3) := by decide +kernel
theorem dX6_readTape_26 : decode cX6_readTape 26 = .ok (.iconst 0, 1) := by decide +kernel
theorem dX6_readTape_27 : decode cX6_readTape 27 = .ok (.istore_n 1, 1) := by decide +kernel
theorem dX6_readTape_28 : decode cX6_readTape 28 = .ok (.iload_n 1, 1) := by decide +kernel
theorem dX6_readTape_29 : decode cX6_readTape 29 = .ok (.sipush 2048, 3) := by decide +kernel
theorem dX6_readTape_32 : decode cX6_readTape 32 = .ok (.if_icmp .ge 34, 3) := by decide +kernel
theorem dX6_readTape_35 : decode cX6_readTape 35 = .ok (.aload_n 0, 1) := by decide +kernel
theorem dX6_readTape_36 : decode cX6_readTape 36 = .ok (.getfield 38, 3) := by decide +kernel
theorem dX6_readTape_39 : decode cX6_readTape 39 = .ok (.aload_n 0, 1) := by decide +kernel
theorem dX6_readTape_40 : decode cX6_readTape 40 = .ok (.getfield 25, 3) := by decide +kernel
theorem dX6_readTape_43 : decode cX6_readTape 43 = .ok (.getfield 51, 3) := by decide +kernel
theorem dX6_readTape_46 : decode cX6_readTape 46 = .ok (.if_icmp .ge 20, 3) := by decide +kernel
theorem dX6_readTape_49 : decode cX6_readTape 49 = .ok (.aload_n 0, 1) := by decide +kernel
theorem dX6_readTape_50 : decode cX6_readTape 50 = .ok (.getfield 42, 3) := by decide +kernel
theorem dX6_readTape_53 : decode cX6_readTape 53 = .ok (.ifCond .ge 13, 3) := by decide +kernel
theorem dX6_readTape_56 : decode cX6_readTape 56 = .ok (.aload_n 0, 1) := by decide +kernel
theorem dX6_readTape_57 : decode cX6_readTape 57 = .ok (.invokevirtual 56, 3) := by decide +kernel
theorem dX6_readTape_60 : decode cX6_readTape 60 = .ok (.iinc 1 1, 3) := by decide +kernel
theorem dX6_readTape_63 : decode cX6_readTape 63 = .ok (.goto (-35), 3) := by decide +kernel
theorem dX6_readTape_66 : decode cX6_readTape 66 = .ok (.aload_n 0, 1) := by decide +kernel
theorem dX6_readTape_67 : decode cX6_readTape 67 = .ok (.getfield 42, 3) := by decide +kernel
theorem dX6_readTape_70 : decode cX6_readTape 70 = .ok (.ifCond .ge 18, 3) := by decide +kernel
theorem dX6_readTape_73 : decode cX6_readTape 73 = .ok (.aload_n 0, 1) := by decide +kernel
theorem dX6_readTape_74 : decode cX6_readTape 74 = .ok (.getfield 45, 3) := by decide +kernel
theorem dX6_readTape_77 : decode cX6_readTape 77 = .ok (.ifCond .le 11, 3) := by decide +kernel
theorem dX6_readTape_80 : decode cX6_readTape 80 = .ok (.aload_n 0, 1) := by decide +kernel
theorem dX6_readTape_81 : decode cX6_readTape 81 = .ok (.aload_n 0, 1) := by decide +kernel
theorem dX6_readTape_82 : decode cX6_readTape 82 = .ok (.getfield 38, 3) := by decide +kernel
theorem dX6_readTape_85 : decode cX6_readTape 85 = .ok (.putfield 42, 3) := by decide +kernel
theorem dX6_readTape_88 : decode cX6_readTape 88 = .ok (.aload_n 0, 1) := by decide +kernel
theorem dX6_readTape_89 : decode cX6_readTape 89 = .ok (.aload_n 0, 1) := by decide +kernel
theorem dX6_readTape_90 : decode cX6_readTape 90 = .ok (.getfield 11, 3) := by decide +kernel
theorem dX6_readTape_93 : decode cX6_readTape 93 = .ok (.invokevirtual 59, 3) := by decide +kernel
theorem dX6_readTape_96 : decode cX6_readTape 96 = .ok (.aload_n 0, 1) := by decide +kernel
theorem dX6_readTape_97 : decode cX6_readTape 97 = .ok (.aload_n 0, 1) := by decide +kernel
theorem dX6_readTape_98 : decode cX6_readTape 98 = .ok (.getfield 17, 3) := by decide +kernel
theorem dX6_readTape_101 : decode cX6_readTape 101 = .ok (.invokevirtual 59, 3) := by decide +kernel
theorem dX6_readTape_104 : decode cX6_readTape 104 = .ok (.invokevirtual 63, 3) := by decide +kernel
theorem dX6_readTape_107 : decode cX6_readTape 107 = .ok (.aload_n 0, 1) := by decide +kernel
theorem dX6_readTape_108 : decode cX6_readTape 108 = .ok (.getfield 29, 3) := by decide +kernel
theorem dX6_readTape_111 : decode cX6_readTape 111 = .ok (.getfield 67, 3) := by decide +kernel
theorem dX6_readTape_114 : decode cX6_readTape 114 = .ok (.aload_n 0, 1) := by decide +kernel
theorem dX6_readTape_115 : decode cX6_readTape 115 = .ok (.aload_n 0, 1) := by decide +kernel
theorem dX6_readTape_116 : decode cX6_readTape 116 = .ok (.getfield 11, 3) := by decide +kernel
theorem dX6_readTape_119 : decode cX6_readTape 119 = .ok (.invokevirtual 59, 3) := by decide +kernel
theorem dX6_readTape_122 : decode cX6_readTape 122 = .ok (.invokevirtual 70, 3) := by decide +kernel
theorem dX6_readTape_125 : decode cX6_readTape 125 = .ok (.aload_n 0, 1) := by decide +kernel
theorem dX6_readTape_126 : decode cX6_readTape 126 = .ok (.getfield 42, 3) := by decide +kernel
theorem dX6_readTape_129 : decode cX6_readTape 129 = .ok (.ireturn, 1) := by decide +kernel
theorem dX6_here_0 : decode cX6_here 0 = .ok (.aload_n 1, 1) := by decide +kernel
theorem dX6_here_1 : decode cX6_here 1 = .ok (.aload_n 0, 1) := by decide +kernel
theorem dX6_here_2 : decode cX6_here 2 = .ok (.getfield 45, 3) := by decide +kernel
theorem dX6_here_5 : decode cX6_here 5 = .ok (.aaload, 1) := by decide +kernel
theorem dX6_here_6 : decode cX6_here 6 = .ok (.ifnonnull 16, 3) := by decide +kernel
theorem dX6_here_9 : decode cX6_here 9 = .ok (.aload_n 1, 1) := by decide +kernel
theorem dX6_here_10 : decode cX6_here 10 = .ok (.aload_n 0, 1) := by decide +kernel
theorem dX6_here_11 : decode cX6_here 11 = .ok (.getfield 45, 3) := by decide +kernel
theorem dX6_here_14 : decode cX6_here 14 = .ok (.new 9, 3) := by decide +kernel
theorem dX6_here_17 : decode cX6_here 17 = .ok (.dup, 1) := by decide +kernel
theorem dX6_here_18 : decode cX6_here 18 = .ok (.invokespecial 20, 3) := by decide +kernel
theorem dX6_here_21 : decode cX6_here 21 = .ok (.aastore, 1) := by decide +kernel
theorem dX6_here_22 : decode cX6_here 22 = .ok (.aload_n 1, 1) := by decide +kernel
theorem dX6_here_23 : decode cX6_here 23 = .ok (.aload_n 0, 1) := by decide +kernel
theorem dX6_here_24 : decode cX6_here 24 = .ok (.getfield 45, 3) := by decide +kernel
theorem dX6_here_27 : decode cX6_here 27 = .ok (.aaload, 1) := by decide +kernel
theorem dX6_here_28 : decode cX6_here 28 = .ok (.areturn, 1) := by decide +kernel
theorem dX6_beginLevel_0 : decode cX6_beginLevel 0 = .ok (.aload_n 0, 1) := by decide +kernel
theorem dX6_beginLevel_1 : decode cX6_beginLevel 1 = .ok (.aload_n 0, 1) := by decide +kernel
theorem dX6_beginLevel_2 : decode cX6_beginLevel 2 = .ok (.getfield 11, 3) := by decide +kernel
theorem dX6_beginLevel_5 : decode cX6_beginLevel 5 = .ok (.invokevirtual 59, 3) := by decide +kernel
theorem dX6_beginLevel_8 : decode cX6_beginLevel 8 = .ok (.invokevirtual 73, 3) := by decide +kernel
theorem dX6_beginLevel_11 : decode cX6_beginLevel 11 = .ok (.aload_n 0, 1) := by decide +kernel
theorem dX6_beginLevel_12 : decode cX6_beginLevel 12 = .ok (.aload_n 0, 1) := by decide +kernel
theorem dX6_beginLevel_13 : decode cX6_beginLevel 13 = .ok (.getfield 17, 3) := by decide +kernel
theorem dX6_beginLevel_16 : decode cX6_beginLevel 16 = .ok (.invokevirtual 59, 3) := by decide +kernel
theorem dX6_beginLevel_19 : decode cX6_beginLevel 19 = .ok (.invokevirtual 76, 3) := by decide +kernel
theorem dX6_beginLevel_22 : decode cX6_beginLevel 22 = .ok (.return_, 1) := by decide +kernel
theorem dX6_readNext_0 : decode cX6_readNext 0 = .ok (.aload_n 0, 1) := by decide +kernel
theorem dX6_readNext_1 : decode cX6_readNext 1 = .ok (.getfield 25, 3) := by decide +kernel
theorem dX6_readNext_4 : decode cX6_readNext 4 = .ok (.aload_n 0, 1) := by decide +kernel
theorem dX6_readNext_5 : decode cX6_readNext 5 = .ok (.getfield 38, 3) := by decide +kernel
theorem dX6_readNext_8 : decode cX6_readNext 8 = .ok (.invokevirtual 79, 3) := by decide +kernel
theorem dX6_readNext_11 : decode cX6_readNext 11 = .ok (.istore_n 1, 1) := by decide +kernel
theorem dX6_readNext_12 : decode cX6_readNext 12 = .ok (.iload_n 1, 1) := by decide +kernel
theorem dX6_readNext_13 : decode cX6_readNext 13 = .ok (.bipush 40, 2) := by decide +kernel
theorem dX6_readNext_15 : decode cX6_readNext 15 = .ok (.if_icmp .ne 10, 3) := by decide +kernel
theorem dX6_readNext_18 : decode cX6_readNext 18 = .ok (.aload_n 0, 1) := by decide +kernel
theorem dX6_readNext_19 : decode cX6_readNext 19 = .ok (.invokevirtual 83, 3) := by decide +kernel
theorem dX6_readNext_22 : decode cX6_readNext 22 = .ok (.goto 94, 3) := by decide +kernel
theorem dX6_readNext_25 : decode cX6_readNext 25 = .ok (.iload_n 1, 1) := by decide +kernel
theorem dX6_readNext_26 : decode cX6_readNext 26 = .ok (.bipush 41, 2) := by decide +kernel
theorem dX6_readNext_28 : decode cX6_readNext 28 = .ok (.if_icmp .ne 10, 3) := by decide +kernel
theorem dX6_readNext_31 : decode cX6_readNext 31 = .ok (.aload_n 0, 1) := by decide +kernel
theorem dX6_readNext_32 : decode cX6_readNext 32 = .ok (.invokevirtual 86, 3) := by decide +kernel
theorem dX6_readNext_35 : decode cX6_readNext 35 = .ok (.goto 81, 3) := by decide +kernel
theorem dX6_readNext_38 : decode cX6_readNext 38 = .ok (.iload_n 1, 1) := by decide +kernel
theorem dX6_readNext_39 : decode cX6_readNext 39 = .ok (.bipush 124, 2) := by decide +kernel
theorem dX6_readNext_41 : decode cX6_readNext 41 = .ok (.if_icmp .ne 10, 3) := by decide +kernel
theorem dX6_readNext_44 : decode cX6_readNext 44 = .ok (.aload_n 0, 1) := by decide +kernel
theorem dX6_readNext_45 : decode cX6_readNext 45 = .ok (.invokevirtual 89, 3) := by decide +kernel
theorem dX6_readNext_48 : decode cX6_readNext 48 = .ok (.goto 68, 3) := by decide +kernel
theorem dX6_readNext_51 : decode cX6_readNext 51 = .ok (.aload_n 0, 1) := by decide +kernel
theorem dX6_readNext_52 : decode cX6_readNext 52 = .ok (.getfield 29, 3) := by decide +kernel
theorem dX6_readNext_55 : decode cX6_readNext 55 = .ok (.invokevirtual 92, 3) := by decide +kernel
theorem dX6_readNext_58 : decode cX6_readNext 58 = .ok (.ifCond .eq 14, 3) := by decide +kernel
theorem dX6_readNext_61 : decode cX6_readNext 61 = .ok (.aload_n 0, 1) := by decide +kernel
theorem dX6_readNext_62 : decode cX6_readNext 62 = .ok (.aload_n 0, 1) := by decide +kernel
theorem dX6_readNext_63 : decode cX6_readNext 63 = .ok (.getfield 38, 3) := by decide +kernel
theorem dX6_readNext_66 : decode cX6_readNext 66 = .ok (.putfield 42, 3) := by decide +kernel
theorem dX6_readNext_69 : decode cX6_readNext 69 = .ok (.goto 47, 3) := by decide +kernel
theorem dX6_readNext_72 : decode cX6_readNext 72 = .ok (.aload_n 0, 1) := by decide +kernel
theorem dX6_readNext_73 : decode cX6_readNext 73 = .ok (.lconst 0, 1) := by decide +kernel
theorem dX6_readNext_74 : decode cX6_readNext 74 = .ok (.putfield 96, 3) := by decide +kernel
theorem dX6_readNext_77 : decode cX6_readNext 77 = .ok (.aload_n 0, 1) := by decide +kernel
theorem dX6_readNext_78 : decode cX6_readNext 78 = .ok (.lconst 0, 1) := by decide +kernel
theorem dX6_readNext_79 : decode cX6_readNext 79 = .ok (.putfield 100, 3) := by decide +kernel
theorem dX6_readNext_82 : decode cX6_readNext 82 = .ok (.iload_n 1, 1) := by decide +kernel
theorem dX6_readNext_83 : decode cX6_readNext 83 = .ok (.bipush 91, 2) := by decide +kernel
theorem dX6_readNext_85 : decode cX6_readNext 85 = .ok (.if_icmp .ne 10, 3) := by decide +kernel
theorem dX6_readNext_88 : decode cX6_readNext 88 = .ok (.aload_n 0, 1) := by decide +kernel
theorem dX6_readNext_89 : decode cX6_readNext 89 = .ok (.invokevirtual 103, 3) := by decide +kernel
theorem dX6_readNext_92 : decode cX6_readNext 92 = .ok (.goto 20, 3) := by decide +kernel
theorem dX6_readNext_95 : decode cX6_readNext 95 = .ok (.iload_n 1, 1) := by decide +kernel
theorem dX6_readNext_96 : decode cX6_readNext 96 = .ok (.bipush 46, 2) := by decide +kernel
theorem dX6_readNext_98 : decode cX6_readNext 98 = .ok (.if_icmp .ne 10, 3) := by decide +kernel
theorem dX6_readNext_101 : decode cX6_readNext 101 = .ok (.aload_n 0, 1) := by decide +kernel
theorem dX6_readNext_102 : decode cX6_readNext 102 = .ok (.invokevirtual 106, 3) := by decide +kernel
theorem dX6_readNext_105 : decode cX6_readNext 105 = .ok (.goto 7, 3) := by decide +kernel
theorem dX6_readNext_108 : decode cX6_readNext 108 = .ok (.aload_n 0, 1) := by decide +kernel
theorem dX6_readNext_109 : decode cX6_readNext 109 = .ok (.invokevirtual 109, 3) := by decide +kernel
theorem dX6_readNext_112 : decode cX6_readNext 112 = .ok (.aload_n 0, 1) := by decide +kernel
theorem dX6_readNext_113 : decode cX6_readNext 113 = .ok (.invokevirtual 112, 3) := by decide +kernel
theorem dX6_readNext_116 : decode cX6_readNext 116 = .ok (.return_, 1) := by decide +kernel
theorem dX6_openGroup_0 : decode cX6_openGroup 0 = .ok (.aload_n 0, 1) := by decide +kernel
theorem dX6_openGroup_1 : decode cX6_openGroup 1 = .ok (.getfield 45, 3) := by decide +kernel
theorem dX6_openGroup_4 : decode cX6_openGroup 4 = .ok (.bipush 40, 2) := by decide +kernel
theorem dX6_openGroup_6 : decode cX6_openGroup 6 = .ok (.if_icmp .lt 12, 3) := by decide +kernel
theorem dX6_openGroup_9 : decode cX6_openGroup 9 = .ok (.aload_n 0, 1) := by decide +kernel
theorem dX6_openGroup_10 : decode cX6_openGroup 10 = .ok (.aload_n 0, 1) := by decide +kernel
theorem dX6_openGroup_11 : decode cX6_openGroup 11 = .ok (.getfield 38, 3) := by decide +kernel
theorem dX6_openGroup_14 : decode cX6_openGroup 14 = .ok (.putfield 42, 3) := by decide +kernel
theorem dX6_openGroup_17 : decode cX6_openGroup 17 = .ok (.return_, 1) := by decide +kernel
theorem dX6_openGroup_18 : decode cX6_openGroup 18 = .ok (.aload_n 0, 1) := by decide +kernel
theorem dX6_openGroup_19 : decode cX6_openGroup 19 = .ok (.dup, 1) := by decide +kernel
theorem dX6_openGroup_20 : decode cX6_openGroup 20 = .ok (.getfield 38, 3) := by decide +kernel
theorem dX6_openGroup_23 : decode cX6_openGroup 23 = .ok (.iconst 1, 1) := by decide +kernel
theorem dX6_openGroup_24 : decode cX6_openGroup 24 = .ok (.iadd, 1) := by decide +kernel
theorem dX6_openGroup_25 : decode cX6_openGroup 25 = .ok (.putfield 38, 3) := by decide +kernel
theorem dX6_openGroup_28 : decode cX6_openGroup 28 = .ok (.aload_n 0, 1) := by decide +kernel
theorem dX6_openGroup_29 : decode cX6_openGroup 29 = .ok (.dup, 1) := by decide +kernel
theorem dX6_openGroup_30 : decode cX6_openGroup 30 = .ok (.getfield 45, 3) := by decide +kernel
theorem dX6_openGroup_33 : decode cX6_openGroup 33 = .ok (.iconst 1, 1) := by decide +kernel
theorem dX6_openGroup_34 : decode cX6_openGroup 34 = .ok (.iadd, 1) := by decide +kernel
theorem dX6_openGroup_35 : decode cX6_openGroup 35 = .ok (.putfield 45, 3) := by decide +kernel
theorem dX6_openGroup_38 : decode cX6_openGroup 38 = .ok (.aload_n 0, 1) := by decide +kernel
theorem dX6_openGroup_39 : decode cX6_openGroup 39 = .ok (.invokevirtual 48, 3) := by decide +kernel
theorem dX6_openGroup_42 : decode cX6_openGroup 42 = .ok (.return_, 1) := by decide +kernel
theorem dX6_closeGroup_0 : decode cX6_closeGroup 0 = .ok (.aload_n 0, 1) := by decide +kernel
theorem dX6_closeGroup_1 : decode cX6_closeGroup 1 = .ok (.getfield 45, 3) := by decide +kernel
theorem dX6_closeGroup_4 : decode cX6_closeGroup 4 = .ok (.ifCond .gt 12, 3) := by decide +kernel
theorem dX6_closeGroup_7 : decode cX6_closeGroup 7 = .ok (.aload_n 0, 1) := by decide +kernel
theorem dX6_closeGroup_8 : decode cX6_closeGroup 8 = .ok (.aload_n 0, 1) := by decide +kernel
theorem dX6_closeGroup_9 : decode cX6_closeGroup 9 = .ok (.getfield 38, 3) := by decide +kernel
theorem dX6_closeGroup_12 : decode cX6_closeGroup 12 = .ok (.putfield 42, 3) := by decide +kernel
theorem dX6_closeGroup_15 : decode cX6_closeGroup 15 = .ok (.return_, 1) := by decide +kernel
theorem dX6_closeGroup_16 : decode cX6_closeGroup 16 = .ok (.aload_n 0, 1) := by decide +kernel
theorem dX6_closeGroup_17 : decode cX6_closeGroup 17 = .ok (.dup, 1) := by decide +kernel
theorem dX6_closeGroup_18 : decode cX6_closeGroup 18 = .ok (.getfield 38, 3) := by decide +kernel
theorem dX6_closeGroup_21 : decode cX6_closeGroup 21 = .ok (.iconst 1, 1) := by decide +kernel
theorem dX6_closeGroup_22 : decode cX6_closeGroup 22 = .ok (.iadd, 1) := by decide +kernel
theorem dX6_closeGroup_23 : decode cX6_closeGroup 23 = .ok (.putfield 38, 3) := by decide +kernel
theorem dX6_closeGroup_26 : decode cX6_closeGroup 26 = .ok (.aload_n 0, 1) := by decide +kernel
theorem dX6_closeGroup_27 : decode cX6_closeGroup 27 = .ok (.aload_n 0, 1) := by decide +kernel
theorem dX6_closeGroup_28 : decode cX6_closeGroup 28 = .ok (.getfield 11, 3) := by decide +kernel
theorem dX6_closeGroup_31 : decode cX6_closeGroup 31 = .ok (.invokevirtual 59, 3) := by decide +kernel
theorem dX6_closeGroup_34 : decode cX6_closeGroup 34 = .ok (.aload_n 0, 1) := by decide +kernel
theorem dX6_closeGroup_35 : decode cX6_closeGroup 35 = .ok (.aload_n 0, 1) := by decide +kernel
theorem dX6_closeGroup_36 : decode cX6_closeGroup 36 = .ok (.getfield 17, 3) := by decide +kernel
theorem dX6_closeGroup_39 : decode cX6_closeGroup 39 = .ok (.invokevirtual 59, 3) := by decide +kernel
theorem dX6_closeGroup_42 : decode cX6_closeGroup 42 = .ok (.invokevirtual 63, 3) := by decide +kernel
theorem dX6_closeGroup_45 : decode cX6_closeGroup 45 = .ok (.aload_n 0, 1) := by decide +kernel
theorem dX6_closeGroup_46 : decode cX6_closeGroup 46 = .ok (.getfield 21, 3) := by decide +kernel
theorem dX6_closeGroup_49 : decode cX6_closeGroup 49 = .ok (.aload_n 0, 1) := by decide +kernel
theorem dX6_closeGroup_50 : decode cX6_closeGroup 50 = .ok (.aload_n 0, 1) := by decide +kernel
theorem dX6_closeGroup_51 : decode cX6_closeGroup 51 = .ok (.getfield 11, 3) := by decide +kernel
theorem dX6_closeGroup_54 : decode cX6_closeGroup 54 = .ok (.invokevirtual 59, 3) := by decide +kernel
theorem dX6_closeGroup_57 : decode cX6_closeGroup 57 = .ok (.invokevirtual 70, 3) := by decide +kernel
theorem dX6_closeGroup_60 : decode cX6_closeGroup 60 = .ok (.aload_n 0, 1) := by decide +kernel
theorem dX6_closeGroup_61 : decode cX6_closeGroup 61 = .ok (.dup, 1) := by decide +kernel
theorem dX6_closeGroup_62 : decode cX6_closeGroup 62 = .ok (.getfield 45, 3) := by decide +kernel
theorem dX6_closeGroup_65 : decode cX6_closeGroup 65 = .ok (.iconst 1, 1) := by decide +kernel
theorem dX6_closeGroup_66 : decode cX6_closeGroup 66 = .ok (.isub, 1) := by decide +kernel
theorem dX6_closeGroup_67 : decode cX6_closeGroup 67 = .ok (.putfield 45, 3) := by decide +kernel
theorem dX6_closeGroup_70 : decode cX6_closeGroup 70 = .ok (.aload_n 0, 1) := by decide +kernel
theorem dX6_closeGroup_71 : decode cX6_closeGroup 71 = .ok (.invokevirtual 115, 3) := by decide +kernel
theorem dX6_closeGroup_74 : decode cX6_closeGroup 74 = .ok (.return_, 1) := by decide +kernel
theorem dX6_nextChoice_0 : decode cX6_nextChoice 0 = .ok (.aload_n 0, 1) := by decide +kernel
theorem dX6_nextChoice_1 : decode cX6_nextChoice 1 = .ok (.dup, 1) := by decide +kernel
theorem dX6_nextChoice_2 : decode cX6_nextChoice 2 = .ok (.getfield 38, 3) := by decide +kernel
theorem dX6_nextChoice_5 : decode cX6_nextChoice 5 = .ok (.iconst 1, 1) := by decide +kernel
theorem dX6_nextChoice_6 : decode cX6_nextChoice 6 = .ok (.iadd, 1) := by decide +kernel
theorem dX6_nextChoice_7 : decode cX6_nextChoice 7 = .ok (.putfield 38, 3) := by decide +kernel
theorem dX6_nextChoice_10 : decode cX6_nextChoice 10 = .ok (.aload_n 0, 1) := by decide +kernel
theorem dX6_nextChoice_11 : decode cX6_nextChoice 11 = .ok (.aload_n 0, 1) := by decide +kernel
theorem dX6_nextChoice_12 : decode cX6_nextChoice 12 = .ok (.getfield 11, 3) := by decide +kernel
theorem dX6_nextChoice_15 : decode cX6_nextChoice 15 = .ok (.invokevirtual 59, 3) := by decide +kernel
theorem dX6_nextChoice_18 : decode cX6_nextChoice 18 = .ok (.aload_n 0, 1) := by decide +kernel
theorem dX6_nextChoice_19 : decode cX6_nextChoice 19 = .ok (.aload_n 0, 1) := by decide +kernel
theorem dX6_nextChoice_20 : decode cX6_nextChoice 20 = .ok (.getfield 17, 3) := by decide +kernel
theorem dX6_nextChoice_23 : decode cX6_nextChoice 23 = .ok (.invokevirtual 59, 3) := by decide +kernel
theorem dX6_nextChoice_26 : decode cX6_nextChoice 26 = .ok (.invokevirtual 63, 3) := by decide +kernel
theorem dX6_nextChoice_29 : decode cX6_nextChoice 29 = .ok (.aload_n 0, 1) := by decide +kernel
theorem dX6_nextChoice_30 : decode cX6_nextChoice 30 = .ok (.aload_n 0, 1) := by decide +kernel
theorem dX6_nextChoice_31 : decode cX6_nextChoice 31 = .ok (.getfield 17, 3) := by decide +kernel
theorem dX6_nextChoice_34 : decode cX6_nextChoice 34 = .ok (.invokevirtual 59, 3) := by decide +kernel
theorem dX6_nextChoice_37 : decode cX6_nextChoice 37 = .ok (.invokevirtual 76, 3) := by decide +kernel
theorem dX6_nextChoice_40 : decode cX6_nextChoice 40 = .ok (.return_, 1) := by decide +kernel
theorem dX6_readAny_0 : decode cX6_readAny 0 = .ok (.aload_n 0, 1) := by decide +kernel
theorem dX6_readAny_1 : decode cX6_readAny 1 = .ok (.dup, 1) := by decide +kernel
theorem dX6_readAny_2 : decode cX6_readAny 2 = .ok (.getfield 38, 3) := by decide +kernel
theorem dX6_readAny_5 : decode cX6_readAny 5 = .ok (.iconst 1, 1) := by decide +kernel
theorem dX6_readAny_6 : decode cX6_readAny 6 = .ok (.iadd, 1) := by decide +kernel
theorem dX6_readAny_7 : decode cX6_readAny 7 = .ok (.putfield 38, 3) := by decide +kernel
theorem dX6_readAny_10 : decode cX6_readAny 10 = .ok (.aload_n 0, 1) := by decide +kernel
theorem dX6_readAny_11 : decode cX6_readAny 11 = .ok (.ldc2_w 118, 3) := by decide +kernel
theorem dX6_readAny_14 : decode cX6_readAny 14 = .ok (.putfield 96, 3) := by decide +kernel
theorem dX6_readAny_17 : decode cX6_readAny 17 = .ok (.aload_n 0, 1) := by decide +kernel
theorem dX6_readAny_18 : decode cX6_readAny 18 = .ok (.ldc2_w 120, 3) := by decide +kernel
theorem dX6_readAny_21 : decode cX6_readAny 21 = .ok (.putfield 100, 3) := by decide +kernel
theorem dX6_readAny_24 : decode cX6_readAny 24 = .ok (.return_, 1) := by decide +kernel
theorem dX6_readCharacter_0 : decode cX6_readCharacter 0 = .ok (.aload_n 0, 1) := by decide +kernel
theorem dX6_readCharacter_1 : decode cX6_readCharacter 1 = .ok (.ldc 122, 2) := by decide +kernel
theorem dX6_readCharacter_3 : decode cX6_readCharacter 3 = .ok (.invokevirtual 124, 3) := by decide +kernel
theorem dX6_readCharacter_6 : decode cX6_readCharacter 6 = .ok (.istore_n 1, 1) := by decide +kernel
theorem dX6_readCharacter_7 : decode cX6_readCharacter 7 = .ok (.aload_n 0, 1) := by decide +kernel
theorem dX6_readCharacter_8 : decode cX6_readCharacter 8 = .ok (.iload_n 1, 1) := by decide +kernel
theorem dX6_readCharacter_9 : decode cX6_readCharacter 9 = .ok (.iload_n 1, 1) := by decide +kernel
theorem dX6_readCharacter_10 : decode cX6_readCharacter 10 = .ok (.invokevirtual 128, 3) := by decide +kernel
theorem dX6_readCharacter_13 : decode cX6_readCharacter 13 = .ok (.return_, 1) := by decide +kernel
theorem dX6_addPlace_0 : decode cX6_addPlace 0 = .ok (.aload_n 0, 1) := by decide +kernel
theorem dX6_addPlace_1 : decode cX6_addPlace 1 = .ok (.getfield 42, 3) := by decide +kernel
theorem dX6_addPlace_4 : decode cX6_addPlace 4 = .ok (.ifCond .ge 29, 3) := by decide +kernel
theorem dX6_addPlace_7 : decode cX6_addPlace 7 = .ok (.aload_n 0, 1) := by decide +kernel
theorem dX6_addPlace_8 : decode cX6_addPlace 8 = .ok (.getfield 21, 3) := by decide +kernel
theorem dX6_addPlace_11 : decode cX6_addPlace 11 = .ok (.aload_n 0, 1) := by decide +kernel
theorem dX6_addPlace_12 : decode cX6_addPlace 12 = .ok (.getfield 29, 3) := by decide +kernel
theorem dX6_addPlace_15 : decode cX6_addPlace 15 = .ok (.aload_n 0, 1) := by decide +kernel
theorem dX6_addPlace_16 : decode cX6_addPlace 16 = .ok (.getfield 96, 3) := by decide +kernel
theorem dX6_addPlace_19 : decode cX6_addPlace 19 = .ok (.aload_n 0, 1) := by decide +kernel
theorem dX6_addPlace_20 : decode cX6_addPlace 20 = .ok (.getfield 100, 3) := by decide +kernel
theorem dX6_addPlace_23 : decode cX6_addPlace 23 = .ok (.invokevirtual 132, 3) := by decide +kernel
theorem dX6_addPlace_26 : decode cX6_addPlace 26 = .ok (.invokevirtual 136, 3) := by decide +kernel
theorem dX6_addPlace_29 : decode cX6_addPlace 29 = .ok (.aload_n 0, 1) := by decide +kernel
theorem dX6_addPlace_30 : decode cX6_addPlace 30 = .ok (.invokevirtual 115, 3) := by decide +kernel
theorem dX6_addPlace_33 : decode cX6_addPlace 33 = .ok (.return_, 1) := by decide +kernel
theorem dX6_repeatAndAppend_0 : decode cX6_repeatAndAppend 0 = .ok (.iconst 0, 1) := by decide +kernel
theorem dX6_repeatAndAppend_1 : decode cX6_repeatAndAppend 1 = .ok (.istore_n 1, 1) := by decide +kernel
theorem dX6_repeatAndAppend_2 : decode cX6_repeatAndAppend 2 = .ok (.aload_n 0, 1) := by decide +kernel
theorem dX6_repeatAndAppend_3 : decode cX6_repeatAndAppend 3 = .ok (.getfield 38, 3) := by decide +kernel
theorem dX6_repeatAndAppend_6 : decode cX6_repeatAndAppend 6 = .ok (.aload_n 0, 1) := by decide +kernel
theorem dX6_repeatAndAppend_7 : decode cX6_repeatAndAppend 7 = .ok (.getfield 25, 3) := by decide +kernel
theorem dX6_repeatAndAppend_10 : decode cX6_repeatAndAppend 10 = .ok (.getfield 51, 3) := by decide +kernel
theorem dX6_repeatAndAppend_13 : decode cX6_repeatAndAppend 13 = .ok (.if_icmp .ge 97, 3) := by decide +kernel
theorem dX6_repeatAndAppend_16 : decode cX6_repeatAndAppend 16 = .ok (.aload_n 0, 1) := by decide +kernel
theorem dX6_repeatAndAppend_17 : decode cX6_repeatAndAppend 17 = .ok (.getfield 25, 3) := by decide +kernel
theorem dX6_repeatAndAppend_20 : decode cX6_repeatAndAppend 20 = .ok (.aload_n 0, 1) := by decide +kernel
theorem dX6_repeatAndAppend_21 : decode cX6_repeatAndAppend 21 = .ok (.getfield 38, 3) := by decide +kernel
theorem dX6_repeatAndAppend_24 : decode cX6_repeatAndAppend 24 = .ok (.invokevirtual 79, 3) := by decide +kernel
theorem dX6_repeatAndAppend_27 : decode cX6_repeatAndAppend 27 = .ok (.invokestatic 140, 3) := by decide +kernel
theorem dX6_repeatAndAppend_30 : decode cX6_repeatAndAppend 30 = .ok (.ifCond .eq 80, 3) := by decide +kernel
theorem dX6_repeatAndAppend_33 : decode cX6_repeatAndAppend 33 = .ok (.iload_n 1, 1) := by decide +kernel
theorem dX6_repeatAndAppend_34 : decode cX6_repeatAndAppend 34 = .ok (.ifCond .ne 19, 3) := by decide +kernel
theorem dX6_repeatAndAppend_37 : decode cX6_repeatAndAppend 37 = .ok (.aload_n 0, 1) := by decide +kernel
theorem dX6_repeatAndAppend_38 : decode cX6_repeatAndAppend 38 = .ok (.getfield 25, 3) := by decide +kernel
theorem dX6_repeatAndAppend_41 : decode cX6_repeatAndAppend 41 = .ok (.aload_n 0, 1) := by decide +kernel
theorem dX6_repeatAndAppend_42 : decode cX6_repeatAndAppend 42 = .ok (.getfield 38, 3) := by decide +kernel
theorem dX6_repeatAndAppend_45 : decode cX6_repeatAndAppend 45 = .ok (.invokevirtual 79, 3) := by decide +kernel
theorem dX6_repeatAndAppend_48 : decode cX6_repeatAndAppend 48 = .ok (.bipush 63, 2) := by decide +kernel
theorem dX6_repeatAndAppend_50 : decode cX6_repeatAndAppend 50 = .ok (.if_icmp .eq 7, 3) := by decide +kernel
theorem dX6_repeatAndAppend_53 : decode cX6_repeatAndAppend 53 = .ok (.iconst 1, 1) := by decide +kernel
theorem dX6_repeatAndAppend_54 : decode cX6_repeatAndAppend 54 = .ok (.goto 4, 3) := by decide +kernel
theorem dX6_repeatAndAppend_57 : decode cX6_repeatAndAppend 57 = .ok (.iconst 0, 1) := by decide +kernel
theorem dX6_repeatAndAppend_58 : decode cX6_repeatAndAppend 58 = .ok (.istore_n 1, 1) := by decide +kernel
theorem dX6_repeatAndAppend_59 : decode cX6_repeatAndAppend 59 = .ok (.aload_n 0, 1) := by decide +kernel
theorem dX6_repeatAndAppend_60 : decode cX6_repeatAndAppend 60 = .ok (.getfield 21, 3) := by decide +kernel
theorem dX6_repeatAndAppend_63 : decode cX6_repeatAndAppend 63 = .ok (.aload_n 0, 1) := by decide +kernel
theorem dX6_repeatAndAppend_64 : decode cX6_repeatAndAppend 64 = .ok (.getfield 21, 3) := by decide +kernel
theorem dX6_repeatAndAppend_67 : decode cX6_repeatAndAppend 67 = .ok (.getfield 144, 3) := by decide +kernel
theorem dX6_repeatAndAppend_70 : decode cX6_repeatAndAppend 70 = .ok (.ifCond .ne 19, 3) := by decide +kernel
theorem dX6_repeatAndAppend_73 : decode cX6_repeatAndAppend 73 = .ok (.aload_n 0, 1) := by decide +kernel
theorem dX6_repeatAndAppend_74 : decode cX6_repeatAndAppend 74 = .ok (.getfield 25, 3) := by decide +kernel
theorem dX6_repeatAndAppend_77 : decode cX6_repeatAndAppend 77 = .ok (.aload_n 0, 1) := by decide +kernel
theorem dX6_repeatAndAppend_78 : decode cX6_repeatAndAppend 78 = .ok (.getfield 38, 3) := by decide +kernel
theorem dX6_repeatAndAppend_81 : decode cX6_repeatAndAppend 81 = .ok (.invokevirtual 79, 3) := by decide +kernel
theorem dX6_repeatAndAppend_84 : decode cX6_repeatAndAppend 84 = .ok (.bipush 43, 2) := by decide +kernel
theorem dX6_repeatAndAppend_86 : decode cX6_repeatAndAppend 86 = .ok (.if_icmp .eq 7, 3) := by decide +kernel
theorem dX6_repeatAndAppend_89 : decode cX6_repeatAndAppend 89 = .ok (.iconst 1, 1) := by decide +kernel
theorem dX6_repeatAndAppend_90 : decode cX6_repeatAndAppend 90 = .ok (.goto 4, 3) := by decide +kernel
theorem dX6_repeatAndAppend_93 : decode cX6_repeatAndAppend 93 = .ok (.iconst 0, 1) := by decide +kernel
theorem dX6_repeatAndAppend_94 : decode cX6_repeatAndAppend 94 = .ok (.putfield 144, 3) := by decide +kernel
theorem dX6_repeatAndAppend_97 : decode cX6_repeatAndAppend 97 = .ok (.aload_n 0, 1) := by decide +kernel
theorem dX6_repeatAndAppend_98 : decode cX6_repeatAndAppend 98 = .ok (.dup, 1) := by decide +kernel
theorem dX6_repeatAndAppend_99 : decode cX6_repeatAndAppend 99 = .ok (.getfield 38, 3) := by decide +kernel
theorem dX6_repeatAndAppend_102 : decode cX6_repeatAndAppend 102 = .ok (.iconst 1, 1) := by decide +kernel
theorem dX6_repeatAndAppend_103 : decode cX6_repeatAndAppend 103 = .ok (.iadd, 1) := by decide +kernel
theorem dX6_repeatAndAppend_104 : decode cX6_repeatAndAppend 104 = .ok (.putfield 38, 3) := by decide +kernel
theorem dX6_repeatAndAppend_107 : decode cX6_repeatAndAppend 107 = .ok (.goto (-105), 3) := by decide +kernel
theorem dX6_repeatAndAppend_110 : decode cX6_repeatAndAppend 110 = .ok (.iload_n 1, 1) := by decide +kernel
theorem dX6_repeatAndAppend_111 : decode cX6_repeatAndAppend 111 = .ok (.ifCond .eq 24, 3) := by decide +kernel
theorem dX6_repeatAndAppend_114 : decode cX6_repeatAndAppend 114 = .ok (.aload_n 0, 1) := by decide +kernel
theorem dX6_repeatAndAppend_115 : decode cX6_repeatAndAppend 115 = .ok (.getfield 29, 3) := by decide +kernel
theorem dX6_repeatAndAppend_118 : decode cX6_repeatAndAppend 118 = .ok (.aload_n 0, 1) := by decide +kernel
theorem dX6_repeatAndAppend_119 : decode cX6_repeatAndAppend 119 = .ok (.getfield 21, 3) := by decide +kernel
theorem dX6_repeatAndAppend_122 : decode cX6_repeatAndAppend 122 = .ok (.getfield 148, 3) := by decide +kernel
theorem dX6_repeatAndAppend_125 : decode cX6_repeatAndAppend 125 = .ok (.aload_n 0, 1) := by decide +kernel
theorem dX6_repeatAndAppend_126 : decode cX6_repeatAndAppend 126 = .ok (.getfield 21, 3) := by decide +kernel
theorem dX6_repeatAndAppend_129 : decode cX6_repeatAndAppend 129 = .ok (.getfield 152, 3) := by decide +kernel
theorem dX6_repeatAndAppend_132 : decode cX6_repeatAndAppend 132 = .ok (.invokevirtual 155, 3) := by decide +kernel
theorem dX6_repeatAndAppend_135 : decode cX6_repeatAndAppend 135 = .ok (.aload_n 0, 1) := by decide +kernel
theorem dX6_repeatAndAppend_136 : decode cX6_repeatAndAppend 136 = .ok (.getfield 29, 3) := by decide +kernel
theorem dX6_repeatAndAppend_139 : decode cX6_repeatAndAppend 139 = .ok (.aload_n 0, 1) := by decide +kernel
theorem dX6_repeatAndAppend_140 : decode cX6_repeatAndAppend 140 = .ok (.aload_n 0, 1) := by decide +kernel
theorem dX6_repeatAndAppend_141 : decode cX6_repeatAndAppend 141 = .ok (.getfield 17, 3) := by decide +kernel
theorem dX6_repeatAndAppend_144 : decode cX6_repeatAndAppend 144 = .ok (.invokevirtual 59, 3) := by decide +kernel
theorem dX6_repeatAndAppend_147 : decode cX6_repeatAndAppend 147 = .ok (.getfield 148, 3) := by decide +kernel
theorem dX6_repeatAndAppend_150 : decode cX6_repeatAndAppend 150 = .ok (.aload_n 0, 1) := by decide +kernel
theorem dX6_repeatAndAppend_151 : decode cX6_repeatAndAppend 151 = .ok (.getfield 21, 3) := by decide +kernel
theorem dX6_repeatAndAppend_154 : decode cX6_repeatAndAppend 154 = .ok (.getfield 152, 3) := by decide +kernel
theorem dX6_repeatAndAppend_157 : decode cX6_repeatAndAppend 157 = .ok (.invokevirtual 155, 3) := by decide +kernel
theorem dX6_repeatAndAppend_160 : decode cX6_repeatAndAppend 160 = .ok (.aload_n 0, 1) := by decide +kernel
theorem dX6_repeatAndAppend_161 : decode cX6_repeatAndAppend 161 = .ok (.aload_n 0, 1) := by decide +kernel
theorem dX6_repeatAndAppend_162 : decode cX6_repeatAndAppend 162 = .ok (.getfield 17, 3) := by decide +kernel
theorem dX6_repeatAndAppend_165 : decode cX6_repeatAndAppend 165 = .ok (.invokevirtual 59, 3) := by decide +kernel
theorem dX6_repeatAndAppend_168 : decode cX6_repeatAndAppend 168 = .ok (.aload_n 0, 1) := by decide +kernel
theorem dX6_repeatAndAppend_169 : decode cX6_repeatAndAppend 169 = .ok (.getfield 21, 3) := by decide +kernel
theorem dX6_repeatAndAppend_172 : decode cX6_repeatAndAppend 172 = .ok (.invokevirtual 159, 3) := by decide +kernel
theorem dX6_repeatAndAppend_175 : decode cX6_repeatAndAppend 175 = .ok (.return_, 1) := by decide +kernel
theorem dX6_isRepeat_0 : decode cX6_isRepeat 0 = .ok (.iload_n 0, 1) := by decide +kernel
theorem dX6_isRepeat_1 : decode cX6_isRepeat 1 = .ok (.bipush 42, 2) := by decide +kernel
theorem dX6_isRepeat_3 : decode cX6_isRepeat 3 = .ok (.if_icmp .eq 15, 3) := by decide +kernel
theorem dX6_isRepeat_6 : decode cX6_isRepeat 6 = .ok (.iload_n 0, 1) := by decide +kernel
theorem dX6_isRepeat_7 : decode cX6_isRepeat 7 = .ok (.bipush 43, 2) := by decide +kernel
theorem dX6_isRepeat_9 : decode cX6_isRepeat 9 = .ok (.if_icmp .eq 9, 3) := by decide +kernel
theorem dX6_isRepeat_12 : decode cX6_isRepeat 12 = .ok (.iload_n 0, 1) := by decide +kernel
theorem dX6_isRepeat_13 : decode cX6_isRepeat 13 = .ok (.bipush 63, 2) := by decide +kernel
theorem dX6_isRepeat_15 : decode cX6_isRepeat 15 = .ok (.if_icmp .ne 7, 3) := by decide +kernel
theorem dX6_isRepeat_18 : decode cX6_isRepeat 18 = .ok (.iconst 1, 1) := by decide +kernel
theorem dX6_isRepeat_19 : decode cX6_isRepeat 19 = .ok (.goto 4, 3) := by decide +kernel
theorem dX6_isRepeat_22 : decode cX6_isRepeat 22 = .ok (.iconst 0, 1) := by decide +kernel
theorem dX6_isRepeat_23 : decode cX6_isRepeat 23 = .ok (.ireturn, 1) := by decide +kernel
theorem dX6_readClass_0 : decode cX6_readClass 0 = .ok (.aload_n 0, 1) := by decide +kernel
theorem dX6_readClass_1 : decode cX6_readClass 1 = .ok (.dup, 1) := by decide +kernel
theorem dX6_readClass_2 : decode cX6_readClass 2 = .ok (.getfield 38, 3) := by decide +kernel
theorem dX6_readClass_5 : decode cX6_readClass 5 = .ok (.iconst 1, 1) := by decide +kernel
theorem dX6_readClass_6 : decode cX6_readClass 6 = .ok (.iadd, 1) := by decide +kernel
theorem dX6_readClass_7 : decode cX6_readClass 7 = .ok (.putfield 38, 3) := by decide +kernel
theorem dX6_readClass_10 : decode cX6_readClass 10 = .ok (.aload_n 0, 1) := by decide +kernel
theorem dX6_readClass_11 : decode cX6_readClass 11 = .ok (.getfield 25, 3) := by decide +kernel
theorem dX6_readClass_14 : decode cX6_readClass 14 = .ok (.aload_n 0, 1) := by decide +kernel
theorem dX6_readClass_15 : decode cX6_readClass 15 = .ok (.getfield 38, 3) := by decide +kernel
theorem dX6_readClass_18 : decode cX6_readClass 18 = .ok (.invokevirtual 79, 3) := by decide +kernel
theorem dX6_readClass_21 : decode cX6_readClass 21 = .ok (.bipush 94, 2) := by decide +kernel
theorem dX6_readClass_23 : decode cX6_readClass 23 = .ok (.if_icmp .ne 7, 3) := by decide +kernel
theorem dX6_readClass_26 : decode cX6_readClass 26 = .ok (.iconst 1, 1) := by decide +kernel
theorem dX6_readClass_27 : decode cX6_readClass 27 = .ok (.goto 4, 3) := by decide +kernel
theorem dX6_readClass_30 : decode cX6_readClass 30 = .ok (.iconst 0, 1) := by decide +kernel
theorem dX6_readClass_31 : decode cX6_readClass 31 = .ok (.istore_n 1, 1) := by decide +kernel
theorem dX6_readClass_32 : decode cX6_readClass 32 = .ok (.iload_n 1, 1) := by decide +kernel
theorem dX6_readClass_33 : decode cX6_readClass 33 = .ok (.ifCond .eq 13, 3) := by decide +kernel
theorem dX6_readClass_36 : decode cX6_readClass 36 = .ok (.aload_n 0, 1) := by decide +kernel
theorem dX6_readClass_37 : decode cX6_readClass 37 = .ok (.dup, 1) := by decide +kernel
theorem dX6_readClass_38 : decode cX6_readClass 38 = .ok (.getfield 38, 3) := by decide +kernel
theorem dX6_readClass_41 : decode cX6_readClass 41 = .ok (.iconst 1, 1) := by decide +kernel
theorem dX6_readClass_42 : decode cX6_readClass 42 = .ok (.iadd, 1) := by decide +kernel
theorem dX6_readClass_43 : decode cX6_readClass 43 = .ok (.putfield 38, 3) := by decide +kernel
theorem dX6_readClass_46 : decode cX6_readClass 46 = .ok (.aload_n 0, 1) := by decide +kernel
theorem dX6_readClass_47 : decode cX6_readClass 47 = .ok (.invokevirtual 162, 3) := by decide +kernel
theorem dX6_readClass_50 : decode cX6_readClass 50 = .ok (.iconst 0, 1) := by decide +kernel
theorem dX6_readClass_51 : decode cX6_readClass 51 = .ok (.istore_n 2, 1) := by decide +kernel
theorem dX6_readClass_52 : decode cX6_readClass 52 = .ok (.iload_n 2, 1) := by decide +kernel
theorem dX6_readClass_53 : decode cX6_readClass 53 = .ok (.sipush 2048, 3) := by decide +kernel
theorem dX6_readClass_56 : decode cX6_readClass 56 = .ok (.if_icmp .ge 36, 3) := by decide +kernel
theorem dX6_readClass_59 : decode cX6_readClass 59 = .ok (.aload_n 0, 1) := by decide +kernel
theorem dX6_readClass_60 : decode cX6_readClass 60 = .ok (.getfield 42, 3) := by decide +kernel
theorem dX6_readClass_63 : decode cX6_readClass 63 = .ok (.ifCond .ge 29, 3) := by decide +kernel
theorem dX6_readClass_66 : decode cX6_readClass 66 = .ok (.aload_n 0, 1) := by decide +kernel
theorem dX6_readClass_67 : decode cX6_readClass 67 = .ok (.getfield 25, 3) := by decide +kernel
theorem dX6_readClass_70 : decode cX6_readClass 70 = .ok (.aload_n 0, 1) := by decide +kernel
theorem dX6_readClass_71 : decode cX6_readClass 71 = .ok (.getfield 38, 3) := by decide +kernel
theorem dX6_readClass_74 : decode cX6_readClass 74 = .ok (.invokevirtual 79, 3) := by decide +kernel
theorem dX6_readClass_77 : decode cX6_readClass 77 = .ok (.bipush 93, 2) := by decide +kernel
theorem dX6_readClass_79 : decode cX6_readClass 79 = .ok (.if_icmp .eq 13, 3) := by decide +kernel
theorem dX6_readClass_82 : decode cX6_readClass 82 = .ok (.aload_n 0, 1) := by decide +kernel
theorem dX6_readClass_83 : decode cX6_readClass 83 = .ok (.invokevirtual 162, 3) := by decide +kernel
theorem dX6_readClass_86 : decode cX6_readClass 86 = .ok (.iinc 2 1, 3) := by decide +kernel
theorem dX6_readClass_89 : decode cX6_readClass 89 = .ok (.goto (-37), 3) := by decide +kernel
theorem dX6_readClass_92 : decode cX6_readClass 92 = .ok (.aload_n 0, 1) := by decide +kernel
theorem dX6_readClass_93 : decode cX6_readClass 93 = .ok (.dup, 1) := by decide +kernel
theorem dX6_readClass_94 : decode cX6_readClass 94 = .ok (.getfield 38, 3) := by decide +kernel
theorem dX6_readClass_97 : decode cX6_readClass 97 = .ok (.iconst 1, 1) := by decide +kernel
theorem dX6_readClass_98 : decode cX6_readClass 98 = .ok (.iadd, 1) := by decide +kernel
theorem dX6_readClass_99 : decode cX6_readClass 99 = .ok (.putfield 38, 3) := by decide +kernel
theorem dX6_readClass_102 : decode cX6_readClass 102 = .ok (.iload_n 1, 1) := by decide +kernel
theorem dX6_readClass_103 : decode cX6_readClass 103 = .ok (.ifCond .eq 27, 3) := by decide +kernel
theorem dX6_readClass_106 : decode cX6_readClass 106 = .ok (.aload_n 0, 1) := by decide +kernel
theorem dX6_readClass_107 : decode cX6_readClass 107 = .ok (.aload_n 0, 1) := by decide +kernel
theorem dX6_readClass_108 : decode cX6_readClass 108 = .ok (.getfield 96, 3) := by decide +kernel
theorem dX6_readClass_111 : decode cX6_readClass 111 = .ok (.ldc2_w 120, 3) := by decide +kernel
theorem dX6_readClass_114 : decode cX6_readClass 114 = .ok (.lxor, 1) := by decide +kernel
theorem dX6_readClass_115 : decode cX6_readClass 115 = .ok (.putfield 96, 3) := by decide +kernel
theorem dX6_readClass_118 : decode cX6_readClass 118 = .ok (.aload_n 0, 1) := by decide +kernel
theorem dX6_readClass_119 : decode cX6_readClass 119 = .ok (.aload_n 0, 1) := by decide +kernel
theorem dX6_readClass_120 : decode cX6_readClass 120 = .ok (.getfield 100, 3) := by decide +kernel
theorem dX6_readClass_123 : decode cX6_readClass 123 = .ok (.ldc2_w 120, 3) := by decide +kernel
theorem dX6_readClass_126 : decode cX6_readClass 126 = .ok (.lxor, 1) := by decide +kernel
theorem dX6_readClass_127 : decode cX6_readClass 127 = .ok (.putfield 100, 3) := by decide +kernel
theorem dX6_readClass_130 : decode cX6_readClass 130 = .ok (.return_, 1) := by decide +kernel
theorem dX6_readPart_0 : decode cX6_readPart 0 = .ok (.aload_n 0, 1) := by decide +kernel
theorem dX6_readPart_1 : decode cX6_readPart 1 = .ok (.ldc 165, 2) := by decide +kernel
theorem dX6_readPart_3 : decode cX6_readPart 3 = .ok (.invokevirtual 124, 3) := by decide +kernel
theorem dX6_readPart_6 : decode cX6_readPart 6 = .ok (.istore_n 1, 1) := by decide +kernel
theorem dX6_readPart_7 : decode cX6_readPart 7 = .ok (.iload_n 1, 1) := by decide +kernel
theorem dX6_readPart_8 : decode cX6_readPart 8 = .ok (.istore_n 2, 1) := by decide +kernel
theorem dX6_readPart_9 : decode cX6_readPart 9 = .ok (.aload_n 0, 1) := by decide +kernel
theorem dX6_readPart_10 : decode cX6_readPart 10 = .ok (.getfield 42, 3) := by decide +kernel
theorem dX6_readPart_13 : decode cX6_readPart 13 = .ok (.ifCond .ge 58, 3) := by decide +kernel
theorem dX6_readPart_16 : decode cX6_readPart 16 = .ok (.aload_n 0, 1) := by decide +kernel
theorem dX6_readPart_17 : decode cX6_readPart 17 = .ok (.getfield 25, 3) := by decide +kernel
theorem dX6_readPart_20 : decode cX6_readPart 20 = .ok (.aload_n 0, 1) := by decide +kernel
theorem dX6_readPart_21 : decode cX6_readPart 21 = .ok (.getfield 38, 3) := by decide +kernel
theorem dX6_readPart_24 : decode cX6_readPart 24 = .ok (.invokevirtual 79, 3) := by decide +kernel
theorem dX6_readPart_27 : decode cX6_readPart 27 = .ok (.bipush 45, 2) := by decide +kernel
theorem dX6_readPart_29 : decode cX6_readPart 29 = .ok (.if_icmp .ne 42, 3) := by decide +kernel
theorem dX6_readPart_32 : decode cX6_readPart 32 = .ok (.aload_n 0, 1) := by decide +kernel
theorem dX6_readPart_33 : decode cX6_readPart 33 = .ok (.dup, 1) := by decide +kernel
theorem dX6_readPart_34 : decode cX6_readPart 34 = .ok (.getfield 38, 3) := by decide +kernel
theorem dX6_readPart_37 : decode cX6_readPart 37 = .ok (.iconst 1, 1) := by decide +kernel
theorem dX6_readPart_38 : decode cX6_readPart 38 = .ok (.iadd, 1) := by decide +kernel
theorem dX6_readPart_39 : decode cX6_readPart 39 = .ok (.putfield 38, 3) := by decide +kernel
theorem dX6_readPart_42 : decode cX6_readPart 42 = .ok (.aload_n 0, 1) := by decide +kernel
theorem dX6_readPart_43 : decode cX6_readPart 43 = .ok (.getfield 38, 3) := by decide +kernel
theorem dX6_readPart_46 : decode cX6_readPart 46 = .ok (.istore_n 3, 1) := by decide +kernel
theorem dX6_readPart_47 : decode cX6_readPart 47 = .ok (.aload_n 0, 1) := by decide +kernel
theorem dX6_readPart_48 : decode cX6_readPart 48 = .ok (.ldc 165, 2) := by decide +kernel
theorem dX6_readPart_50 : decode cX6_readPart 50 = .ok (.invokevirtual 124, 3) := by decide +kernel
theorem dX6_readPart_53 : decode cX6_readPart 53 = .ok (.istore_n 2, 1) := by decide +kernel
theorem dX6_readPart_54 : decode cX6_readPart 54 = .ok (.aload_n 0, 1) := by decide +kernel
theorem dX6_readPart_55 : decode cX6_readPart 55 = .ok (.getfield 42, 3) := by decide +kernel
theorem dX6_readPart_58 : decode cX6_readPart 58 = .ok (.ifCond .ge 13, 3) := by decide +kernel
theorem dX6_readPart_61 : decode cX6_readPart 61 = .ok (.iload_n 2, 1) := by decide +kernel
theorem dX6_readPart_62 : decode cX6_readPart 62 = .ok (.iload_n 1, 1) := by decide +kernel
theorem dX6_readPart_63 : decode cX6_readPart 63 = .ok (.if_icmp .ge 8, 3) := by decide +kernel
theorem dX6_readPart_66 : decode cX6_readPart 66 = .ok (.aload_n 0, 1) := by decide +kernel
theorem dX6_readPart_67 : decode cX6_readPart 67 = .ok (.iload_n 3, 1) := by decide +kernel
theorem dX6_readPart_68 : decode cX6_readPart 68 = .ok (.putfield 42, 3) := by decide +kernel
theorem dX6_readPart_71 : decode cX6_readPart 71 = .ok (.aload_n 0, 1) := by decide +kernel
theorem dX6_readPart_72 : decode cX6_readPart 72 = .ok (.iload_n 1, 1) := by decide +kernel
theorem dX6_readPart_73 : decode cX6_readPart 73 = .ok (.iload_n 2, 1) := by decide +kernel
theorem dX6_readPart_74 : decode cX6_readPart 74 = .ok (.invokevirtual 128, 3) := by decide +kernel
theorem dX6_readPart_77 : decode cX6_readPart 77 = .ok (.return_, 1) := by decide +kernel
theorem dX6_readSymbol_0 : decode cX6_readSymbol 0 = .ok (.aload_n 0, 1) := by decide +kernel
theorem dX6_readSymbol_1 : decode cX6_readSymbol 1 = .ok (.getfield 25, 3) := by decide +kernel
theorem dX6_readSymbol_4 : decode cX6_readSymbol 4 = .ok (.aload_n 0, 1) := by decide +kernel
theorem dX6_readSymbol_5 : decode cX6_readSymbol 5 = .ok (.getfield 38, 3) := by decide +kernel
theorem dX6_readSymbol_8 : decode cX6_readSymbol 8 = .ok (.invokevirtual 79, 3) := by decide +kernel
theorem dX6_readSymbol_11 : decode cX6_readSymbol 11 = .ok (.istore_n 2, 1) := by decide +kernel
theorem dX6_readSymbol_12 : decode cX6_readSymbol 12 = .ok (.iload_n 2, 1) := by decide +kernel
theorem dX6_readSymbol_13 : decode cX6_readSymbol 13 = .ok (.bipush 92, 2) := by decide +kernel
theorem dX6_readSymbol_15 : decode cX6_readSymbol 15 = .ok (.if_icmp .ne 31, 3) := by decide +kernel
theorem dX6_readSymbol_18 : decode cX6_readSymbol 18 = .ok (.aload_n 0, 1) := by decide +kernel
theorem dX6_readSymbol_19 : decode cX6_readSymbol 19 = .ok (.dup, 1) := by decide +kernel
theorem dX6_readSymbol_20 : decode cX6_readSymbol 20 = .ok (.getfield 38, 3) := by decide +kernel
theorem dX6_readSymbol_23 : decode cX6_readSymbol 23 = .ok (.iconst 1, 1) := by decide +kernel
theorem dX6_readSymbol_24 : decode cX6_readSymbol 24 = .ok (.iadd, 1) := by decide +kernel
theorem dX6_readSymbol_25 : decode cX6_readSymbol 25 = .ok (.putfield 38, 3) := by decide +kernel
theorem dX6_readSymbol_28 : decode cX6_readSymbol 28 = .ok (.aload_n 0, 1) := by decide +kernel
theorem dX6_readSymbol_29 : decode cX6_readSymbol 29 = .ok (.getfield 25, 3) := by decide +kernel
theorem dX6_readSymbol_32 : decode cX6_readSymbol 32 = .ok (.aload_n 0, 1) := by decide +kernel
theorem dX6_readSymbol_33 : decode cX6_readSymbol 33 = .ok (.getfield 38, 3) := by decide +kernel
theorem dX6_readSymbol_36 : decode cX6_readSymbol 36 = .ok (.invokevirtual 79, 3) := by decide +kernel
theorem dX6_readSymbol_39 : decode cX6_readSymbol 39 = .ok (.invokestatic 167, 3) := by decide +kernel
theorem dX6_readSymbol_42 : decode cX6_readSymbol 42 = .ok (.istore_n 2, 1) := by decide +kernel
theorem dX6_readSymbol_43 : decode cX6_readSymbol 43 = .ok (.goto 26, 3) := by decide +kernel
theorem dX6_readSymbol_46 : decode cX6_readSymbol 46 = .ok (.iload_n 2, 1) := by decide +kernel
theorem dX6_readSymbol_47 : decode cX6_readSymbol 47 = .ok (.bipush 32, 2) := by decide +kernel
theorem dX6_readSymbol_49 : decode cX6_readSymbol 49 = .ok (.if_icmp .lt 18, 3) := by decide +kernel
theorem dX6_readSymbol_52 : decode cX6_readSymbol 52 = .ok (.iload_n 2, 1) := by decide +kernel
theorem dX6_readSymbol_53 : decode cX6_readSymbol 53 = .ok (.bipush 126, 2) := by decide +kernel
theorem dX6_readSymbol_55 : decode cX6_readSymbol 55 = .ok (.if_icmp .gt 12, 3) := by decide +kernel
theorem dX6_readSymbol_58 : decode cX6_readSymbol 58 = .ok (.aload_n 1, 1) := by decide +kernel
theorem dX6_readSymbol_59 : decode cX6_readSymbol 59 = .ok (.iload_n 2, 1) := by decide +kernel
theorem dX6_readSymbol_60 : decode cX6_readSymbol 60 = .ok (.i2c, 1) := by decide +kernel
theorem dX6_readSymbol_61 : decode cX6_readSymbol 61 = .ok (.invokevirtual 170, 3) := by decide +kernel
theorem dX6_readSymbol_64 : decode cX6_readSymbol 64 = .ok (.ifCond .lt 5, 3) := by decide +kernel
theorem dX6_readSymbol_67 : decode cX6_readSymbol 67 = .ok (.iconst (-1), 1) := by decide +kernel
theorem dX6_readSymbol_68 : decode cX6_readSymbol 68 = .ok (.istore_n 2, 1) := by decide +kernel
theorem dX6_readSymbol_69 : decode cX6_readSymbol 69 = .ok (.iload_n 2, 1) := by decide +kernel
theorem dX6_readSymbol_70 : decode cX6_readSymbol 70 = .ok (.ifCond .ge 14, 3) := by decide +kernel
theorem dX6_readSymbol_73 : decode cX6_readSymbol 73 = .ok (.aload_n 0, 1) := by decide +kernel
theorem dX6_readSymbol_74 : decode cX6_readSymbol 74 = .ok (.aload_n 0, 1) := by decide +kernel
theorem dX6_readSymbol_75 : decode cX6_readSymbol 75 = .ok (.getfield 38, 3) := by decide +kernel
theorem dX6_readSymbol_78 : decode cX6_readSymbol 78 = .ok (.putfield 42, 3) := by decide +kernel
theorem dX6_readSymbol_81 : decode cX6_readSymbol 81 = .ok (.goto 13, 3) := by decide +kernel
theorem dX6_readSymbol_84 : decode cX6_readSymbol 84 = .ok (.aload_n 0, 1) := by decide +kernel
theorem dX6_readSymbol_85 : decode cX6_readSymbol 85 = .ok (.dup, 1) := by decide +kernel
theorem dX6_readSymbol_86 : decode cX6_readSymbol 86 = .ok (.getfield 38, 3) := by decide +kernel
theorem dX6_readSymbol_89 : decode cX6_readSymbol 89 = .ok (.iconst 1, 1) := by decide +kernel
theorem dX6_readSymbol_90 : decode cX6_readSymbol 90 = .ok (.iadd, 1) := by decide +kernel
theorem dX6_readSymbol_91 : decode cX6_readSymbol 91 = .ok (.putfield 38, 3) := by decide +kernel
theorem dX6_readSymbol_94 : decode cX6_readSymbol 94 = .ok (.iload_n 2, 1) := by decide +kernel
theorem dX6_readSymbol_95 : decode cX6_readSymbol 95 = .ok (.ireturn, 1) := by decide +kernel
theorem dX6_escaped_0 : decode cX6_escaped 0 = .ok (.iload_n 0, 1) := by decide +kernel
theorem dX6_escaped_1 : decode cX6_escaped 1 = .ok (.lookupswitch 44 #[(110, 35), (114, 41), (116, 38)], 35) := by decide +kernel
theorem dX6_escaped_36 : decode cX6_escaped 36 = .ok (.bipush 10, 2) := by decide +kernel
theorem dX6_escaped_38 : decode cX6_escaped 38 = .ok (.ireturn, 1) := by decide +kernel
theorem dX6_escaped_39 : decode cX6_escaped 39 = .ok (.bipush 9, 2) := by decide +kernel
theorem dX6_escaped_41 : decode cX6_escaped 41 = .ok (.ireturn, 1) := by decide +kernel
theorem dX6_escaped_42 : decode cX6_escaped 42 = .ok (.bipush 13, 2) := by decide +kernel
theorem dX6_escaped_44 : decode cX6_escaped 44 = .ok (.ireturn, 1) := by decide +kernel
theorem dX6_escaped_45 : decode cX6_escaped 45 = .ok (.iload_n 0, 1) := by decide +kernel
theorem dX6_escaped_46 : decode cX6_escaped 46 = .ok (.ifCond .lt 17, 3) := by decide +kernel
theorem dX6_escaped_49 : decode cX6_escaped 49 = .ok (.ldc 175, 2) := by decide +kernel
theorem dX6_escaped_51 : decode cX6_escaped 51 = .ok (.iload_n 0, 1) := by decide +kernel
theorem dX6_escaped_52 : decode cX6_escaped 52 = .ok (.i2c, 1) := by decide +kernel
theorem dX6_escaped_53 : decode cX6_escaped 53 = .ok (.invokevirtual 170, 3) := by decide +kernel
theorem dX6_escaped_56 : decode cX6_escaped 56 = .ok (.ifCond .lt 7, 3) := by decide +kernel
theorem dX6_escaped_59 : decode cX6_escaped 59 = .ok (.iload_n 0, 1) := by decide +kernel
theorem dX6_escaped_60 : decode cX6_escaped 60 = .ok (.goto 4, 3) := by decide +kernel
theorem dX6_escaped_63 : decode cX6_escaped 63 = .ok (.iconst (-1), 1) := by decide +kernel
theorem dX6_escaped_64 : decode cX6_escaped 64 = .ok (.ireturn, 1) := by decide +kernel
theorem dX6_include_0 : decode cX6_include 0 = .ok (.iload_n 1, 1) := by decide +kernel
theorem dX6_include_1 : decode cX6_include 1 = .ok (.iconst 0, 1) := by decide +kernel
theorem dX6_include_2 : decode cX6_include 2 = .ok (.invokestatic 177, 3) := by decide +kernel
theorem dX6_include_5 : decode cX6_include 5 = .ok (.istore_n 3, 1) := by decide +kernel
theorem dX6_include_6 : decode cX6_include 6 = .ok (.iload_n 3, 1) := by decide +kernel
theorem dX6_include_7 : decode cX6_include 7 = .ok (.iload_n 2, 1) := by decide +kernel
theorem dX6_include_8 : decode cX6_include 8 = .ok (.if_icmp .gt 52, 3) := by decide +kernel
theorem dX6_include_11 : decode cX6_include 11 = .ok (.iload_n 3, 1) := by decide +kernel
theorem dX6_include_12 : decode cX6_include 12 = .ok (.sipush 128, 3) := by decide +kernel
theorem dX6_include_15 : decode cX6_include 15 = .ok (.if_icmp .ge 45, 3) := by decide +kernel
theorem dX6_include_18 : decode cX6_include 18 = .ok (.iload_n 3, 1) := by decide +kernel
theorem dX6_include_19 : decode cX6_include 19 = .ok (.bipush 64, 2) := by decide +kernel
theorem dX6_include_21 : decode cX6_include 21 = .ok (.if_icmp .ge 18, 3) := by decide +kernel
theorem dX6_include_24 : decode cX6_include 24 = .ok (.aload_n 0, 1) := by decide +kernel
theorem dX6_include_25 : decode cX6_include 25 = .ok (.dup, 1) := by decide +kernel
theorem dX6_include_26 : decode cX6_include 26 = .ok (.getfield 96, 3) := by decide +kernel
theorem dX6_include_29 : decode cX6_include 29 = .ok (.lconst 1, 1) := by decide +kernel
theorem dX6_include_30 : decode cX6_include 30 = .ok (.iload_n 3, 1) := by decide +kernel
theorem dX6_include_31 : decode cX6_include 31 = .ok (.lshl, 1) := by decide +kernel
theorem dX6_include_32 : decode cX6_include 32 = .ok (.lor, 1) := by decide +kernel
theorem dX6_include_33 : decode cX6_include 33 = .ok (.putfield 96, 3) := by decide +kernel
theorem dX6_include_36 : decode cX6_include 36 = .ok (.goto 18, 3) := by decide +kernel
theorem dX6_include_39 : decode cX6_include 39 = .ok (.aload_n 0, 1) := by decide +kernel
theorem dX6_include_40 : decode cX6_include 40 = .ok (.dup, 1) := by decide +kernel
theorem dX6_include_41 : decode cX6_include 41 = .ok (.getfield 100, 3) := by decide +kernel
theorem dX6_include_44 : decode cX6_include 44 = .ok (.lconst 1, 1) := by decide +kernel
theorem dX6_include_45 : decode cX6_include 45 = .ok (.iload_n 3, 1) := by decide +kernel
theorem dX6_include_46 : decode cX6_include 46 = .ok (.bipush 64, 2) := by decide +kernel
theorem dX6_include_48 : decode cX6_include 48 = .ok (.isub, 1) := by decide +kernel
theorem dX6_include_49 : decode cX6_include 49 = .ok (.lshl, 1) := by decide +kernel
theorem dX6_include_50 : decode cX6_include 50 = .ok (.lor, 1) := by decide +kernel
theorem dX6_include_51 : decode cX6_include 51 = .ok (.putfield 100, 3) := by decide +kernel
theorem dX6_include_54 : decode cX6_include 54 = .ok (.iinc 3 1, 3) := by decide +kernel
theorem dX6_include_57 : decode cX6_include 57 = .ok (.goto (-51), 3) := by decide +kernel
theorem dX6_include_60 : decode cX6_include 60 = .ok (.return_, 1) := by decide +kernel
