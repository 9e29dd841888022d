theorem dX1_init_0 : decode cX1_init 0 = .ok (.aload_n 0, 1) := by decide +kernel
theorem dX1_init_1 : decode cX1_init 1 = .ok (.invokespecial 1, 3) := by decide +kernel
theorem dX1_init_4 : decode cX1_init 4 = .ok (.aload_n 0, 1) := by decide +kernel
theorem dX1_init_5 : decode cX1_init 5 = .ok (.sipush 201, 3) := by decide +kernel
theorem dX1_init_8 : decode cX1_init 8 = .ok (.newarray .long, 2) := by decide +kernel
theorem dX1_init_10 : decode cX1_init 10 = .ok (.putfield 9, 3) := by decide +kernel
theorem dX1_init_13 : decode cX1_init 13 = .ok (.aload_n 0, 1) := by decide +kernel
theorem dX1_init_14 : decode cX1_init 14 = .ok (.sipush 201, 3) := by decide +kernel
theorem dX1_init_17 : decode cX1_init 17 = .ok (.newarray .long, 2) := by decide +kernel
theorem dX1_init_19 : decode cX1_init 19 = .ok (.putfield 15, 3) := by decide +kernel
theorem dX1_init_22 : decode cX1_init 22 = .ok (.return_, 1) := by decide +kernel
theorem dX1_textsOf_0 : decode cX1_textsOf 0 = .ok (.iload_n 2, 1) := by decide +kernel
theorem dX1_textsOf_1 : decode cX1_textsOf 1 = .ok (.ifCond .ne 16, 3) := by decide +kernel
theorem dX1_textsOf_4 : decode cX1_textsOf 4 = .ok (.aload_n 1, 1) := by decide +kernel
theorem dX1_textsOf_5 : decode cX1_textsOf 5 = .ok (.getfield 18, 3) := by decide +kernel
theorem dX1_textsOf_8 : decode cX1_textsOf 8 = .ok (.ifCond .eq 7, 3) := by decide +kernel
theorem dX1_textsOf_11 : decode cX1_textsOf 11 = .ok (.lconst 1, 1) := by decide +kernel
theorem dX1_textsOf_12 : decode cX1_textsOf 12 = .ok (.goto 4, 3) := by decide +kernel
theorem dX1_textsOf_15 : decode cX1_textsOf 15 = .ok (.lconst 0, 1) := by decide +kernel
theorem dX1_textsOf_16 : decode cX1_textsOf 16 = .ok (.lreturn, 1) := by decide +kernel
theorem dX1_textsOf_17 : decode cX1_textsOf 17 = .ok (.aload_n 0, 1) := by decide +kernel
theorem dX1_textsOf_18 : decode cX1_textsOf 18 = .ok (.getfield 9, 3) := by decide +kernel
theorem dX1_textsOf_21 : decode cX1_textsOf 21 = .ok (.lconst 0, 1) := by decide +kernel
theorem dX1_textsOf_22 : decode cX1_textsOf 22 = .ok (.invokestatic 24, 3) := by decide +kernel
theorem dX1_textsOf_25 : decode cX1_textsOf 25 = .ok (.aload_n 0, 1) := by decide +kernel
theorem dX1_textsOf_26 : decode cX1_textsOf 26 = .ok (.getfield 9, 3) := by decide +kernel
theorem dX1_textsOf_29 : decode cX1_textsOf 29 = .ok (.aload_n 1, 1) := by decide +kernel
theorem dX1_textsOf_30 : decode cX1_textsOf 30 = .ok (.getfield 30, 3) := by decide +kernel
theorem dX1_textsOf_33 : decode cX1_textsOf 33 = .ok (.lconst 1, 1) := by decide +kernel
theorem dX1_textsOf_34 : decode cX1_textsOf 34 = .ok (.lastore, 1) := by decide +kernel
theorem dX1_textsOf_35 : decode cX1_textsOf 35 = .ok (.iconst 0, 1) := by decide +kernel
theorem dX1_textsOf_36 : decode cX1_textsOf 36 = .ok (.istore_n 3, 1) := by decide +kernel
theorem dX1_textsOf_37 : decode cX1_textsOf 37 = .ok (.iload_n 3, 1) := by decide +kernel
theorem dX1_textsOf_38 : decode cX1_textsOf 38 = .ok (.iload_n 2, 1) := by decide +kernel
theorem dX1_textsOf_39 : decode cX1_textsOf 39 = .ok (.if_icmp .ge 14, 3) := by decide +kernel
theorem dX1_textsOf_42 : decode cX1_textsOf 42 = .ok (.aload_n 0, 1) := by decide +kernel
theorem dX1_textsOf_43 : decode cX1_textsOf 43 = .ok (.aload_n 1, 1) := by decide +kernel
theorem dX1_textsOf_44 : decode cX1_textsOf 44 = .ok (.invokevirtual 34, 3) := by decide +kernel
theorem dX1_textsOf_47 : decode cX1_textsOf 47 = .ok (.iinc 3 1, 3) := by decide +kernel
theorem dX1_textsOf_50 : decode cX1_textsOf 50 = .ok (.goto (-13), 3) := by decide +kernel
theorem dX1_textsOf_53 : decode cX1_textsOf 53 = .ok (.lconst 0, 1) := by decide +kernel
theorem dX1_textsOf_54 : decode cX1_textsOf 54 = .ok (.lstore_n 3, 1) := by decide +kernel
theorem dX1_textsOf_55 : decode cX1_textsOf 55 = .ok (.iconst 0, 1) := by decide +kernel
theorem dX1_textsOf_56 : decode cX1_textsOf 56 = .ok (.istore 5, 2) := by decide +kernel
theorem dX1_textsOf_58 : decode cX1_textsOf 58 = .ok (.iload 5, 2) := by decide +kernel
theorem dX1_textsOf_60 : decode cX1_textsOf 60 = .ok (.aload_n 1, 1) := by decide +kernel
theorem dX1_textsOf_61 : decode cX1_textsOf 61 = .ok (.getfield 38, 3) := by decide +kernel
theorem dX1_textsOf_64 : decode cX1_textsOf 64 = .ok (.if_icmp .ge 33, 3) := by decide +kernel
theorem dX1_textsOf_67 : decode cX1_textsOf 67 = .ok (.lload_n 3, 1) := by decide +kernel
theorem dX1_textsOf_68 : decode cX1_textsOf 68 = .ok (.aload_n 1, 1) := by decide +kernel
theorem dX1_textsOf_69 : decode cX1_textsOf 69 = .ok (.getfield 41, 3) := by decide +kernel
theorem dX1_textsOf_72 : decode cX1_textsOf 72 = .ok (.iload 5, 2) := by decide +kernel
theorem dX1_textsOf_74 : decode cX1_textsOf 74 = .ok (.baload, 1) := by decide +kernel
theorem dX1_textsOf_75 : decode cX1_textsOf 75 = .ok (.ifCond .eq 13, 3) := by decide +kernel
theorem dX1_textsOf_78 : decode cX1_textsOf 78 = .ok (.aload_n 0, 1) := by decide +kernel
theorem dX1_textsOf_79 : decode cX1_textsOf 79 = .ok (.getfield 9, 3) := by decide +kernel
theorem dX1_textsOf_82 : decode cX1_textsOf 82 = .ok (.iload 5, 2) := by decide +kernel
theorem dX1_textsOf_84 : decode cX1_textsOf 84 = .ok (.laload, 1) := by decide +kernel
theorem dX1_textsOf_85 : decode cX1_textsOf 85 = .ok (.goto 4, 3) := by decide +kernel
theorem dX1_textsOf_88 : decode cX1_textsOf 88 = .ok (.lconst 0, 1) := by decide +kernel
theorem dX1_textsOf_89 : decode cX1_textsOf 89 = .ok (.ladd, 1) := by decide +kernel
theorem dX1_textsOf_90 : decode cX1_textsOf 90 = .ok (.lstore_n 3, 1) := by decide +kernel
theorem dX1_textsOf_91 : decode cX1_textsOf 91 = .ok (.iinc 5 1, 3) := by decide +kernel
theorem dX1_textsOf_94 : decode cX1_textsOf 94 = .ok (.goto (-36), 3) := by decide +kernel
theorem dX1_textsOf_97 : decode cX1_textsOf 97 = .ok (.lload_n 3, 1) := by decide +kernel
theorem dX1_textsOf_98 : decode cX1_textsOf 98 = .ok (.lreturn, 1) := by decide +kernel
theorem dX1_lengthen_0 : decode cX1_lengthen 0 = .ok (.aload_n 0, 1) := by decide +kernel
theorem dX1_lengthen_1 : decode cX1_lengthen 1 = .ok (.getfield 15, 3) := by decide +kernel
theorem dX1_lengthen_4 : decode cX1_lengthen 4 = .ok (.lconst 0, 1) := by decide +kernel
theorem dX1_lengthen_5 : decode cX1_lengthen 5 = .ok (.invokestatic 24, 3) := by decide +kernel
theorem dX1_lengthen_8 : decode cX1_lengthen 8 = .ok (.iconst 0, 1) := by decide +kernel
theorem dX1_lengthen_9 : decode cX1_lengthen 9 = .ok (.istore_n 2, 1) := by decide +kernel
theorem dX1_lengthen_10 : decode cX1_lengthen 10 = .ok (.iload_n 2, 1) := by decide +kernel
theorem dX1_lengthen_11 : decode cX1_lengthen 11 = .ok (.aload_n 1, 1) := by decide +kernel
theorem dX1_lengthen_12 : decode cX1_lengthen 12 = .ok (.getfield 38, 3) := by decide +kernel
theorem dX1_lengthen_15 : decode cX1_lengthen 15 = .ok (.if_icmp .ge 71, 3) := by decide +kernel
theorem dX1_lengthen_18 : decode cX1_lengthen 18 = .ok (.iconst 0, 1) := by decide +kernel
theorem dX1_lengthen_19 : decode cX1_lengthen 19 = .ok (.istore_n 3, 1) := by decide +kernel
theorem dX1_lengthen_20 : decode cX1_lengthen 20 = .ok (.iload_n 3, 1) := by decide +kernel
theorem dX1_lengthen_21 : decode cX1_lengthen 21 = .ok (.aload_n 1, 1) := by decide +kernel
theorem dX1_lengthen_22 : decode cX1_lengthen 22 = .ok (.getfield 45, 3) := by decide +kernel
theorem dX1_lengthen_25 : decode cX1_lengthen 25 = .ok (.if_icmp .ge 55, 3) := by decide +kernel
theorem dX1_lengthen_28 : decode cX1_lengthen 28 = .ok (.aload_n 0, 1) := by decide +kernel
theorem dX1_lengthen_29 : decode cX1_lengthen 29 = .ok (.getfield 9, 3) := by decide +kernel
theorem dX1_lengthen_32 : decode cX1_lengthen 32 = .ok (.iload_n 2, 1) := by decide +kernel
theorem dX1_lengthen_33 : decode cX1_lengthen 33 = .ok (.laload, 1) := by decide +kernel
theorem dX1_lengthen_34 : decode cX1_lengthen 34 = .ok (.lconst 0, 1) := by decide +kernel
theorem dX1_lengthen_35 : decode cX1_lengthen 35 = .ok (.lcmp, 1) := by decide +kernel
theorem dX1_lengthen_36 : decode cX1_lengthen 36 = .ok (.ifCond .eq 44, 3) := by decide +kernel
theorem dX1_lengthen_39 : decode cX1_lengthen 39 = .ok (.aload_n 0, 1) := by decide +kernel
theorem dX1_lengthen_40 : decode cX1_lengthen 40 = .ok (.getfield 15, 3) := by decide +kernel
theorem dX1_lengthen_43 : decode cX1_lengthen 43 = .ok (.aload_n 1, 1) := by decide +kernel
theorem dX1_lengthen_44 : decode cX1_lengthen 44 = .ok (.getfield 48, 3) := by decide +kernel
theorem dX1_lengthen_47 : decode cX1_lengthen 47 = .ok (.iload_n 2, 1) := by decide +kernel
theorem dX1_lengthen_48 : decode cX1_lengthen 48 = .ok (.aload_n 1, 1) := by decide +kernel
theorem dX1_lengthen_49 : decode cX1_lengthen 49 = .ok (.getfield 45, 3) := by decide +kernel
theorem dX1_lengthen_52 : decode cX1_lengthen 52 = .ok (.imul, 1) := by decide +kernel
theorem dX1_lengthen_53 : decode cX1_lengthen 53 = .ok (.iload_n 3, 1) := by decide +kernel
theorem dX1_lengthen_54 : decode cX1_lengthen 54 = .ok (.iadd, 1) := by decide +kernel
theorem dX1_lengthen_55 : decode cX1_lengthen 55 = .ok (.iaload, 1) := by decide +kernel
theorem dX1_lengthen_56 : decode cX1_lengthen 56 = .ok (.dup2, 1) := by decide +kernel
theorem dX1_lengthen_57 : decode cX1_lengthen 57 = .ok (.laload, 1) := by decide +kernel
theorem dX1_lengthen_58 : decode cX1_lengthen 58 = .ok (.aload_n 0, 1) := by decide +kernel
theorem dX1_lengthen_59 : decode cX1_lengthen 59 = .ok (.getfield 9, 3) := by decide +kernel
theorem dX1_lengthen_62 : decode cX1_lengthen 62 = .ok (.iload_n 2, 1) := by decide +kernel
theorem dX1_lengthen_63 : decode cX1_lengthen 63 = .ok (.laload, 1) := by decide +kernel
theorem dX1_lengthen_64 : decode cX1_lengthen 64 = .ok (.aload_n 1, 1) := by decide +kernel
theorem dX1_lengthen_65 : decode cX1_lengthen 65 = .ok (.getfield 52, 3) := by decide +kernel
theorem dX1_lengthen_68 : decode cX1_lengthen 68 = .ok (.iload_n 3, 1) := by decide +kernel
theorem dX1_lengthen_69 : decode cX1_lengthen 69 = .ok (.iaload, 1) := by decide +kernel
theorem dX1_lengthen_70 : decode cX1_lengthen 70 = .ok (.i2l, 1) := by decide +kernel
theorem dX1_lengthen_71 : decode cX1_lengthen 71 = .ok (.lmul, 1) := by decide +kernel
theorem dX1_lengthen_72 : decode cX1_lengthen 72 = .ok (.ladd, 1) := by decide +kernel
theorem dX1_lengthen_73 : decode cX1_lengthen 73 = .ok (.lastore, 1) := by decide +kernel
theorem dX1_lengthen_74 : decode cX1_lengthen 74 = .ok (.iinc 3 1, 3) := by decide +kernel
theorem dX1_lengthen_77 : decode cX1_lengthen 77 = .ok (.goto (-57), 3) := by decide +kernel
theorem dX1_lengthen_80 : decode cX1_lengthen 80 = .ok (.iinc 2 1, 3) := by decide +kernel
theorem dX1_lengthen_83 : decode cX1_lengthen 83 = .ok (.goto (-73), 3) := by decide +kernel
theorem dX1_lengthen_86 : decode cX1_lengthen 86 = .ok (.aload_n 0, 1) := by decide +kernel
theorem dX1_lengthen_87 : decode cX1_lengthen 87 = .ok (.getfield 9, 3) := by decide +kernel
theorem dX1_lengthen_90 : decode cX1_lengthen 90 = .ok (.astore_n 2, 1) := by decide +kernel
theorem dX1_lengthen_91 : decode cX1_lengthen 91 = .ok (.aload_n 0, 1) := by decide +kernel
theorem dX1_lengthen_92 : decode cX1_lengthen 92 = .ok (.aload_n 0, 1) := by decide +kernel
theorem dX1_lengthen_93 : decode cX1_lengthen 93 = .ok (.getfield 15, 3) := by decide +kernel
theorem dX1_lengthen_96 : decode cX1_lengthen 96 = .ok (.putfield 9, 3) := by decide +kernel
theorem dX1_lengthen_99 : decode cX1_lengthen 99 = .ok (.aload_n 0, 1) := by decide +kernel
theorem dX1_lengthen_100 : decode cX1_lengthen 100 = .ok (.aload_n 2, 1) := by decide +kernel
theorem dX1_lengthen_101 : decode cX1_lengthen 101 = .ok (.putfield 15, 3) := by decide +kernel
theorem dX1_lengthen_104 : decode cX1_lengthen 104 = .ok (.return_, 1) := by decide +kernel
