theorem dX7_init_0 : decode cX7_init 0 = .ok (.aload_n 0, 1) := by decide +kernel
theorem dX7_init_1 : decode cX7_init 1 = .ok (.invokespecial 3, 3) := by decide +kernel
theorem dX7_init_4 : decode cX7_init 4 = .ok (.aload_n 0, 1) := by decide +kernel
theorem dX7_init_5 : decode cX7_init 5 = .ok (.sipush 128, 3) := by decide +kernel
theorem dX7_init_8 : decode cX7_init 8 = .ok (.newarray .int, 2) := by decide +kernel
theorem dX7_init_10 : decode cX7_init 10 = .ok (.putfield 9, 3) := by decide +kernel
theorem dX7_init_13 : decode cX7_init 13 = .ok (.aload_n 0, 1) := by decide +kernel
theorem dX7_init_14 : decode cX7_init 14 = .ok (.iconst 0, 1) := by decide +kernel
theorem dX7_init_15 : decode cX7_init 15 = .ok (.newarray .int, 2) := by decide +kernel
theorem dX7_init_17 : decode cX7_init 17 = .ok (.putfield 15, 3) := by decide +kernel
theorem dX7_init_20 : decode cX7_init 20 = .ok (.aload_n 0, 1) := by decide +kernel
theorem dX7_init_21 : decode cX7_init 21 = .ok (.iconst 0, 1) := by decide +kernel
theorem dX7_init_22 : decode cX7_init 22 = .ok (.newarray .int, 2) := by decide +kernel
theorem dX7_init_24 : decode cX7_init 24 = .ok (.putfield 18, 3) := by decide +kernel
theorem dX7_init_27 : decode cX7_init 27 = .ok (.aload_n 0, 1) := by decide +kernel
theorem dX7_init_28 : decode cX7_init 28 = .ok (.iconst 0, 1) := by decide +kernel
theorem dX7_init_29 : decode cX7_init 29 = .ok (.newarray .long, 2) := by decide +kernel
theorem dX7_init_31 : decode cX7_init 31 = .ok (.putfield 21, 3) := by decide +kernel
theorem dX7_init_34 : decode cX7_init 34 = .ok (.aload_n 0, 1) := by decide +kernel
theorem dX7_init_35 : decode cX7_init 35 = .ok (.iconst 0, 1) := by decide +kernel
theorem dX7_init_36 : decode cX7_init 36 = .ok (.newarray .byte, 2) := by decide +kernel
theorem dX7_init_38 : decode cX7_init 38 = .ok (.putfield 25, 3) := by decide +kernel
theorem dX7_init_41 : decode cX7_init 41 = .ok (.return_, 1) := by decide +kernel
theorem dX7_find_0 : decode cX7_find 0 = .ok (.aload_n 0, 1) := by decide +kernel
theorem dX7_find_1 : decode cX7_find 1 = .ok (.iconst 0, 1) := by decide +kernel
theorem dX7_find_2 : decode cX7_find 2 = .ok (.putfield 29, 3) := by decide +kernel
theorem dX7_find_5 : decode cX7_find 5 = .ok (.iload_n 3, 1) := by decide +kernel
theorem dX7_find_6 : decode cX7_find 6 = .ok (.aload_n 1, 1) := by decide +kernel
theorem dX7_find_7 : decode cX7_find 7 = .ok (.getfield 33, 3) := by decide +kernel
theorem dX7_find_10 : decode cX7_find 10 = .ok (.aload_n 2, 1) := by decide +kernel
theorem dX7_find_11 : decode cX7_find 11 = .ok (.getfield 33, 3) := by decide +kernel
theorem dX7_find_14 : decode cX7_find 14 = .ok (.invokestatic 39, 3) := by decide +kernel
theorem dX7_find_17 : decode cX7_find 17 = .ok (.ifCond .eq 5, 3) := by decide +kernel
theorem dX7_find_20 : decode cX7_find 20 = .ok (.iconst 0, 1) := by decide +kernel
theorem dX7_find_21 : decode cX7_find 21 = .ok (.ireturn, 1) := by decide +kernel
theorem dX7_find_22 : decode cX7_find 22 = .ok (.aload_n 0, 1) := by decide +kernel
theorem dX7_find_23 : decode cX7_find 23 = .ok (.aload_n 1, 1) := by decide +kernel
theorem dX7_find_24 : decode cX7_find 24 = .ok (.aload_n 2, 1) := by decide +kernel
theorem dX7_find_25 : decode cX7_find 25 = .ok (.invokevirtual 43, 3) := by decide +kernel
theorem dX7_find_28 : decode cX7_find 28 = .ok (.aload_n 0, 1) := by decide +kernel
theorem dX7_find_29 : decode cX7_find 29 = .ok (.aload_n 1, 1) := by decide +kernel
theorem dX7_find_30 : decode cX7_find 30 = .ok (.aload_n 2, 1) := by decide +kernel
theorem dX7_find_31 : decode cX7_find 31 = .ok (.invokevirtual 47, 3) := by decide +kernel
theorem dX7_find_34 : decode cX7_find 34 = .ok (.iconst (-1), 1) := by decide +kernel
theorem dX7_find_35 : decode cX7_find 35 = .ok (.istore 4, 2) := by decide +kernel
theorem dX7_find_37 : decode cX7_find 37 = .ok (.iconst 0, 1) := by decide +kernel
theorem dX7_find_38 : decode cX7_find 38 = .ok (.istore 5, 2) := by decide +kernel
theorem dX7_find_40 : decode cX7_find 40 = .ok (.iload 5, 2) := by decide +kernel
theorem dX7_find_42 : decode cX7_find 42 = .ok (.aload_n 0, 1) := by decide +kernel
theorem dX7_find_43 : decode cX7_find 43 = .ok (.getfield 50, 3) := by decide +kernel
theorem dX7_find_46 : decode cX7_find 46 = .ok (.if_icmp .ge 35, 3) := by decide +kernel
theorem dX7_find_49 : decode cX7_find 49 = .ok (.iload 5, 2) := by decide +kernel
theorem dX7_find_51 : decode cX7_find 51 = .ok (.aload_n 0, 1) := by decide +kernel
theorem dX7_find_52 : decode cX7_find 52 = .ok (.getfield 15, 3) := by decide +kernel
theorem dX7_find_55 : decode cX7_find 55 = .ok (.arraylength, 1) := by decide +kernel
theorem dX7_find_56 : decode cX7_find 56 = .ok (.if_icmp .ge 25, 3) := by decide +kernel
theorem dX7_find_59 : decode cX7_find 59 = .ok (.iload 4, 2) := by decide +kernel
theorem dX7_find_61 : decode cX7_find 61 = .ok (.ifCond .ge 20, 3) := by decide +kernel
theorem dX7_find_64 : decode cX7_find 64 = .ok (.aload_n 0, 1) := by decide +kernel
theorem dX7_find_65 : decode cX7_find 65 = .ok (.iload 5, 2) := by decide +kernel
theorem dX7_find_67 : decode cX7_find 67 = .ok (.aload_n 1, 1) := by decide +kernel
theorem dX7_find_68 : decode cX7_find 68 = .ok (.aload_n 2, 1) := by decide +kernel
theorem dX7_find_69 : decode cX7_find 69 = .ok (.iload_n 3, 1) := by decide +kernel
theorem dX7_find_70 : decode cX7_find 70 = .ok (.invokevirtual 53, 3) := by decide +kernel
theorem dX7_find_73 : decode cX7_find 73 = .ok (.istore 4, 2) := by decide +kernel
theorem dX7_find_75 : decode cX7_find 75 = .ok (.iinc 5 1, 3) := by decide +kernel
theorem dX7_find_78 : decode cX7_find 78 = .ok (.goto (-38), 3) := by decide +kernel
theorem dX7_find_81 : decode cX7_find 81 = .ok (.iload 4, 2) := by decide +kernel
theorem dX7_find_83 : decode cX7_find 83 = .ok (.ifCond .ge 5, 3) := by decide +kernel
theorem dX7_find_86 : decode cX7_find 86 = .ok (.iconst (-1), 1) := by decide +kernel
theorem dX7_find_87 : decode cX7_find 87 = .ok (.ireturn, 1) := by decide +kernel
theorem dX7_find_88 : decode cX7_find 88 = .ok (.aload_n 0, 1) := by decide +kernel
theorem dX7_find_89 : decode cX7_find 89 = .ok (.iload 4, 2) := by decide +kernel
theorem dX7_find_91 : decode cX7_find 91 = .ok (.invokevirtual 57, 3) := by decide +kernel
theorem dX7_find_94 : decode cX7_find 94 = .ok (.aload_n 0, 1) := by decide +kernel
theorem dX7_find_95 : decode cX7_find 95 = .ok (.getfield 29, 3) := by decide +kernel
theorem dX7_find_98 : decode cX7_find 98 = .ok (.ireturn, 1) := by decide +kernel
theorem dX7_isWanted_0 : decode cX7_isWanted 0 = .ok (.iload_n 0, 1) := by decide +kernel
theorem dX7_isWanted_1 : decode cX7_isWanted 1 = .ok (.tableswitch 84 0 3 #[31, 42, 56, 70], 31) := by decide +kernel
theorem dX7_isWanted_32 : decode cX7_isWanted 32 = .ok (.iload_n 1, 1) := by decide +kernel
theorem dX7_isWanted_33 : decode cX7_isWanted 33 = .ok (.iload_n 2, 1) := by decide +kernel
theorem dX7_isWanted_34 : decode cX7_isWanted 34 = .ok (.if_icmp .eq 7, 3) := by decide +kernel
theorem dX7_isWanted_37 : decode cX7_isWanted 37 = .ok (.iconst 1, 1) := by decide +kernel
theorem dX7_isWanted_38 : decode cX7_isWanted 38 = .ok (.goto 4, 3) := by decide +kernel
theorem dX7_isWanted_41 : decode cX7_isWanted 41 = .ok (.iconst 0, 1) := by decide +kernel
theorem dX7_isWanted_42 : decode cX7_isWanted 42 = .ok (.ireturn, 1) := by decide +kernel
theorem dX7_isWanted_43 : decode cX7_isWanted 43 = .ok (.iload_n 1, 1) := by decide +kernel
theorem dX7_isWanted_44 : decode cX7_isWanted 44 = .ok (.ifCond .eq 11, 3) := by decide +kernel
theorem dX7_isWanted_47 : decode cX7_isWanted 47 = .ok (.iload_n 2, 1) := by decide +kernel
theorem dX7_isWanted_48 : decode cX7_isWanted 48 = .ok (.ifCond .ne 7, 3) := by decide +kernel
theorem dX7_isWanted_51 : decode cX7_isWanted 51 = .ok (.iconst 1, 1) := by decide +kernel
theorem dX7_isWanted_52 : decode cX7_isWanted 52 = .ok (.goto 4, 3) := by decide +kernel
theorem dX7_isWanted_55 : decode cX7_isWanted 55 = .ok (.iconst 0, 1) := by decide +kernel
theorem dX7_isWanted_56 : decode cX7_isWanted 56 = .ok (.ireturn, 1) := by decide +kernel
theorem dX7_isWanted_57 : decode cX7_isWanted 57 = .ok (.iload_n 2, 1) := by decide +kernel
theorem dX7_isWanted_58 : decode cX7_isWanted 58 = .ok (.ifCond .eq 11, 3) := by decide +kernel
theorem dX7_isWanted_61 : decode cX7_isWanted 61 = .ok (.iload_n 1, 1) := by decide +kernel
theorem dX7_isWanted_62 : decode cX7_isWanted 62 = .ok (.ifCond .ne 7, 3) := by decide +kernel
theorem dX7_isWanted_65 : decode cX7_isWanted 65 = .ok (.iconst 1, 1) := by decide +kernel
theorem dX7_isWanted_66 : decode cX7_isWanted 66 = .ok (.goto 4, 3) := by decide +kernel
theorem dX7_isWanted_69 : decode cX7_isWanted 69 = .ok (.iconst 0, 1) := by decide +kernel
theorem dX7_isWanted_70 : decode cX7_isWanted 70 = .ok (.ireturn, 1) := by decide +kernel
theorem dX7_isWanted_71 : decode cX7_isWanted 71 = .ok (.iload_n 1, 1) := by decide +kernel
theorem dX7_isWanted_72 : decode cX7_isWanted 72 = .ok (.ifCond .eq 11, 3) := by decide +kernel
theorem dX7_isWanted_75 : decode cX7_isWanted 75 = .ok (.iload_n 2, 1) := by decide +kernel
theorem dX7_isWanted_76 : decode cX7_isWanted 76 = .ok (.ifCond .eq 7, 3) := by decide +kernel
theorem dX7_isWanted_79 : decode cX7_isWanted 79 = .ok (.iconst 1, 1) := by decide +kernel
theorem dX7_isWanted_80 : decode cX7_isWanted 80 = .ok (.goto 4, 3) := by decide +kernel
theorem dX7_isWanted_83 : decode cX7_isWanted 83 = .ok (.iconst 0, 1) := by decide +kernel
theorem dX7_isWanted_84 : decode cX7_isWanted 84 = .ok (.ireturn, 1) := by decide +kernel
theorem dX7_isWanted_85 : decode cX7_isWanted 85 = .ok (.iload_n 1, 1) := by decide +kernel
theorem dX7_isWanted_86 : decode cX7_isWanted 86 = .ok (.ifCond .ne 11, 3) := by decide +kernel
theorem dX7_isWanted_89 : decode cX7_isWanted 89 = .ok (.iload_n 2, 1) := by decide +kernel
theorem dX7_isWanted_90 : decode cX7_isWanted 90 = .ok (.ifCond .ne 7, 3) := by decide +kernel
theorem dX7_isWanted_93 : decode cX7_isWanted 93 = .ok (.iconst 1, 1) := by decide +kernel
theorem dX7_isWanted_94 : decode cX7_isWanted 94 = .ok (.goto 4, 3) := by decide +kernel
theorem dX7_isWanted_97 : decode cX7_isWanted 97 = .ok (.iconst 0, 1) := by decide +kernel
theorem dX7_isWanted_98 : decode cX7_isWanted 98 = .ok (.ireturn, 1) := by decide +kernel
theorem dX7_joinKinds_0 : decode cX7_joinKinds 0 = .ok (.aload_n 0, 1) := by decide +kernel
theorem dX7_joinKinds_1 : decode cX7_joinKinds 1 = .ok (.iconst 0, 1) := by decide +kernel
theorem dX7_joinKinds_2 : decode cX7_joinKinds 2 = .ok (.putfield 61, 3) := by decide +kernel
theorem dX7_joinKinds_5 : decode cX7_joinKinds 5 = .ok (.iconst 0, 1) := by decide +kernel
theorem dX7_joinKinds_6 : decode cX7_joinKinds 6 = .ok (.istore_n 3, 1) := by decide +kernel
theorem dX7_joinKinds_7 : decode cX7_joinKinds 7 = .ok (.iload_n 3, 1) := by decide +kernel
theorem dX7_joinKinds_8 : decode cX7_joinKinds 8 = .ok (.sipush 128, 3) := by decide +kernel
theorem dX7_joinKinds_11 : decode cX7_joinKinds 11 = .ok (.if_icmp .ge 96, 3) := by decide +kernel
theorem dX7_joinKinds_14 : decode cX7_joinKinds 14 = .ok (.iconst 0, 1) := by decide +kernel
theorem dX7_joinKinds_15 : decode cX7_joinKinds 15 = .ok (.istore 4, 2) := by decide +kernel
theorem dX7_joinKinds_17 : decode cX7_joinKinds 17 = .ok (.iload 4, 2) := by decide +kernel
theorem dX7_joinKinds_19 : decode cX7_joinKinds 19 = .ok (.aload_n 0, 1) := by decide +kernel
theorem dX7_joinKinds_20 : decode cX7_joinKinds 20 = .ok (.getfield 61, 3) := by decide +kernel
theorem dX7_joinKinds_23 : decode cX7_joinKinds 23 = .ok (.if_icmp .ge 51, 3) := by decide +kernel
theorem dX7_joinKinds_26 : decode cX7_joinKinds 26 = .ok (.aload_n 1, 1) := by decide +kernel
theorem dX7_joinKinds_27 : decode cX7_joinKinds 27 = .ok (.getfield 64, 3) := by decide +kernel
theorem dX7_joinKinds_30 : decode cX7_joinKinds 30 = .ok (.aload_n 0, 1) := by decide +kernel
theorem dX7_joinKinds_31 : decode cX7_joinKinds 31 = .ok (.getfield 9, 3) := by decide +kernel
theorem dX7_joinKinds_34 : decode cX7_joinKinds 34 = .ok (.iload 4, 2) := by decide +kernel
theorem dX7_joinKinds_36 : decode cX7_joinKinds 36 = .ok (.iaload, 1) := by decide +kernel
theorem dX7_joinKinds_37 : decode cX7_joinKinds 37 = .ok (.iaload, 1) := by decide +kernel
theorem dX7_joinKinds_38 : decode cX7_joinKinds 38 = .ok (.aload_n 1, 1) := by decide +kernel
theorem dX7_joinKinds_39 : decode cX7_joinKinds 39 = .ok (.getfield 64, 3) := by decide +kernel
theorem dX7_joinKinds_42 : decode cX7_joinKinds 42 = .ok (.iload_n 3, 1) := by decide +kernel
theorem dX7_joinKinds_43 : decode cX7_joinKinds 43 = .ok (.iaload, 1) := by decide +kernel
theorem dX7_joinKinds_44 : decode cX7_joinKinds 44 = .ok (.if_icmp .ne 24, 3) := by decide +kernel
theorem dX7_joinKinds_47 : decode cX7_joinKinds 47 = .ok (.aload_n 2, 1) := by decide +kernel
theorem dX7_joinKinds_48 : decode cX7_joinKinds 48 = .ok (.getfield 64, 3) := by decide +kernel
theorem dX7_joinKinds_51 : decode cX7_joinKinds 51 = .ok (.aload_n 0, 1) := by decide +kernel
theorem dX7_joinKinds_52 : decode cX7_joinKinds 52 = .ok (.getfield 9, 3) := by decide +kernel
theorem dX7_joinKinds_55 : decode cX7_joinKinds 55 = .ok (.iload 4, 2) := by decide +kernel
theorem dX7_joinKinds_57 : decode cX7_joinKinds 57 = .ok (.iaload, 1) := by decide +kernel
theorem dX7_joinKinds_58 : decode cX7_joinKinds 58 = .ok (.iaload, 1) := by decide +kernel
theorem dX7_joinKinds_59 : decode cX7_joinKinds 59 = .ok (.aload_n 2, 1) := by decide +kernel
theorem dX7_joinKinds_60 : decode cX7_joinKinds 60 = .ok (.getfield 64, 3) := by decide +kernel
theorem dX7_joinKinds_63 : decode cX7_joinKinds 63 = .ok (.iload_n 3, 1) := by decide +kernel
theorem dX7_joinKinds_64 : decode cX7_joinKinds 64 = .ok (.iaload, 1) := by decide +kernel
theorem dX7_joinKinds_65 : decode cX7_joinKinds 65 = .ok (.if_icmp .eq 9, 3) := by decide +kernel
theorem dX7_joinKinds_68 : decode cX7_joinKinds 68 = .ok (.iinc 4 1, 3) := by decide +kernel
theorem dX7_joinKinds_71 : decode cX7_joinKinds 71 = .ok (.goto (-54), 3) := by decide +kernel
theorem dX7_joinKinds_74 : decode cX7_joinKinds 74 = .ok (.iload 4, 2) := by decide +kernel
theorem dX7_joinKinds_76 : decode cX7_joinKinds 76 = .ok (.aload_n 0, 1) := by decide +kernel
theorem dX7_joinKinds_77 : decode cX7_joinKinds 77 = .ok (.getfield 61, 3) := by decide +kernel
theorem dX7_joinKinds_80 : decode cX7_joinKinds 80 = .ok (.if_icmp .ne 21, 3) := by decide +kernel
theorem dX7_joinKinds_83 : decode cX7_joinKinds 83 = .ok (.aload_n 0, 1) := by decide +kernel
theorem dX7_joinKinds_84 : decode cX7_joinKinds 84 = .ok (.getfield 9, 3) := by decide +kernel
theorem dX7_joinKinds_87 : decode cX7_joinKinds 87 = .ok (.iload 4, 2) := by decide +kernel
theorem dX7_joinKinds_89 : decode cX7_joinKinds 89 = .ok (.iload_n 3, 1) := by decide +kernel
theorem dX7_joinKinds_90 : decode cX7_joinKinds 90 = .ok (.iastore, 1) := by decide +kernel
theorem dX7_joinKinds_91 : decode cX7_joinKinds 91 = .ok (.aload_n 0, 1) := by decide +kernel
theorem dX7_joinKinds_92 : decode cX7_joinKinds 92 = .ok (.dup, 1) := by decide +kernel
theorem dX7_joinKinds_93 : decode cX7_joinKinds 93 = .ok (.getfield 61, 3) := by decide +kernel
theorem dX7_joinKinds_96 : decode cX7_joinKinds 96 = .ok (.iconst 1, 1) := by decide +kernel
theorem dX7_joinKinds_97 : decode cX7_joinKinds 97 = .ok (.iadd, 1) := by decide +kernel
theorem dX7_joinKinds_98 : decode cX7_joinKinds 98 = .ok (.putfield 61, 3) := by decide +kernel
theorem dX7_joinKinds_101 : decode cX7_joinKinds 101 = .ok (.iinc 3 1, 3) := by decide +kernel
theorem dX7_joinKinds_104 : decode cX7_joinKinds 104 = .ok (.goto (-97), 3) := by decide +kernel
theorem dX7_joinKinds_107 : decode cX7_joinKinds 107 = .ok (.return_, 1) := by decide +kernel
theorem dX7_begin_0 : decode cX7_begin 0 = .ok (.aload_n 1, 1) := by decide +kernel
theorem dX7_begin_1 : decode cX7_begin 1 = .ok (.getfield 67, 3) := by decide +kernel
theorem dX7_begin_4 : decode cX7_begin 4 = .ok (.aload_n 2, 1) := by decide +kernel
theorem dX7_begin_5 : decode cX7_begin 5 = .ok (.getfield 67, 3) := by decide +kernel
theorem dX7_begin_8 : decode cX7_begin 8 = .ok (.imul, 1) := by decide +kernel
theorem dX7_begin_9 : decode cX7_begin 9 = .ok (.iconst 1, 1) := by decide +kernel
theorem dX7_begin_10 : decode cX7_begin 10 = .ok (.iadd, 1) := by decide +kernel
theorem dX7_begin_11 : decode cX7_begin 11 = .ok (.istore_n 3, 1) := by decide +kernel
theorem dX7_begin_12 : decode cX7_begin 12 = .ok (.aload_n 0, 1) := by decide +kernel
theorem dX7_begin_13 : decode cX7_begin 13 = .ok (.iload_n 3, 1) := by decide +kernel
theorem dX7_begin_14 : decode cX7_begin 14 = .ok (.aload_n 0, 1) := by decide +kernel
theorem dX7_begin_15 : decode cX7_begin 15 = .ok (.getfield 15, 3) := by decide +kernel
theorem dX7_begin_18 : decode cX7_begin 18 = .ok (.invokestatic 70, 3) := by decide +kernel
theorem dX7_begin_21 : decode cX7_begin 21 = .ok (.putfield 15, 3) := by decide +kernel
theorem dX7_begin_24 : decode cX7_begin 24 = .ok (.aload_n 0, 1) := by decide +kernel
theorem dX7_begin_25 : decode cX7_begin 25 = .ok (.iload_n 3, 1) := by decide +kernel
theorem dX7_begin_26 : decode cX7_begin 26 = .ok (.aload_n 0, 1) := by decide +kernel
theorem dX7_begin_27 : decode cX7_begin 27 = .ok (.getfield 18, 3) := by decide +kernel
theorem dX7_begin_30 : decode cX7_begin 30 = .ok (.invokestatic 70, 3) := by decide +kernel
theorem dX7_begin_33 : decode cX7_begin 33 = .ok (.putfield 18, 3) := by decide +kernel
theorem dX7_begin_36 : decode cX7_begin 36 = .ok (.aload_n 1, 1) := by decide +kernel
theorem dX7_begin_37 : decode cX7_begin 37 = .ok (.getfield 67, 3) := by decide +kernel
theorem dX7_begin_40 : decode cX7_begin 40 = .ok (.bipush 8, 2) := by decide +kernel
theorem dX7_begin_42 : decode cX7_begin 42 = .ok (.ishl, 1) := by decide +kernel
theorem dX7_begin_43 : decode cX7_begin 43 = .ok (.bipush 6, 2) := by decide +kernel
theorem dX7_begin_45 : decode cX7_begin 45 = .ok (.ishr, 1) := by decide +kernel
theorem dX7_begin_46 : decode cX7_begin 46 = .ok (.istore 4, 2) := by decide +kernel
theorem dX7_begin_48 : decode cX7_begin 48 = .ok (.aload_n 0, 1) := by decide +kernel
theorem dX7_begin_49 : decode cX7_begin 49 = .ok (.getfield 21, 3) := by decide +kernel
theorem dX7_begin_52 : decode cX7_begin 52 = .ok (.arraylength, 1) := by decide +kernel
theorem dX7_begin_53 : decode cX7_begin 53 = .ok (.iload 4, 2) := by decide +kernel
theorem dX7_begin_55 : decode cX7_begin 55 = .ok (.if_icmp .ge 21, 3) := by decide +kernel
theorem dX7_begin_58 : decode cX7_begin 58 = .ok (.aload_n 0, 1) := by decide +kernel
theorem dX7_begin_59 : decode cX7_begin 59 = .ok (.iload 4, 2) := by decide +kernel
theorem dX7_begin_61 : decode cX7_begin 61 = .ok (.iconst 2, 1) := by decide +kernel
theorem dX7_begin_62 : decode cX7_begin 62 = .ok (.aload_n 0, 1) := by decide +kernel
theorem dX7_begin_63 : decode cX7_begin 63 = .ok (.getfield 21, 3) := by decide +kernel
theorem dX7_begin_66 : decode cX7_begin 66 = .ok (.arraylength, 1) := by decide +kernel
theorem dX7_begin_67 : decode cX7_begin 67 = .ok (.imul, 1) := by decide +kernel
theorem dX7_begin_68 : decode cX7_begin 68 = .ok (.invokestatic 74, 3) := by decide +kernel
theorem dX7_begin_71 : decode cX7_begin 71 = .ok (.newarray .long, 2) := by decide +kernel
theorem dX7_begin_73 : decode cX7_begin 73 = .ok (.putfield 21, 3) := by decide +kernel
theorem dX7_begin_76 : decode cX7_begin 76 = .ok (.aload_n 0, 1) := by decide +kernel
theorem dX7_begin_77 : decode cX7_begin 77 = .ok (.getfield 21, 3) := by decide +kernel
theorem dX7_begin_80 : decode cX7_begin 80 = .ok (.lconst 0, 1) := by decide +kernel
theorem dX7_begin_81 : decode cX7_begin 81 = .ok (.invokestatic 80, 3) := by decide +kernel
theorem dX7_begin_84 : decode cX7_begin 84 = .ok (.aload_n 0, 1) := by decide +kernel
theorem dX7_begin_85 : decode cX7_begin 85 = .ok (.getfield 15, 3) := by decide +kernel
theorem dX7_begin_88 : decode cX7_begin 88 = .ok (.iconst 0, 1) := by decide +kernel
theorem dX7_begin_89 : decode cX7_begin 89 = .ok (.aload_n 1, 1) := by decide +kernel
theorem dX7_begin_90 : decode cX7_begin 90 = .ok (.getfield 86, 3) := by decide +kernel
theorem dX7_begin_93 : decode cX7_begin 93 = .ok (.bipush 8, 2) := by decide +kernel
theorem dX7_begin_95 : decode cX7_begin 95 = .ok (.ishl, 1) := by decide +kernel
theorem dX7_begin_96 : decode cX7_begin 96 = .ok (.aload_n 2, 1) := by decide +kernel
theorem dX7_begin_97 : decode cX7_begin 97 = .ok (.getfield 86, 3) := by decide +kernel
theorem dX7_begin_100 : decode cX7_begin 100 = .ok (.ior, 1) := by decide +kernel
theorem dX7_begin_101 : decode cX7_begin 101 = .ok (.iastore, 1) := by decide +kernel
theorem dX7_begin_102 : decode cX7_begin 102 = .ok (.aload_n 0, 1) := by decide +kernel
theorem dX7_begin_103 : decode cX7_begin 103 = .ok (.getfield 18, 3) := by decide +kernel
theorem dX7_begin_106 : decode cX7_begin 106 = .ok (.iconst 0, 1) := by decide +kernel
theorem dX7_begin_107 : decode cX7_begin 107 = .ok (.iconst 0, 1) := by decide +kernel
theorem dX7_begin_108 : decode cX7_begin 108 = .ok (.iastore, 1) := by decide +kernel
theorem dX7_begin_109 : decode cX7_begin 109 = .ok (.aload_n 0, 1) := by decide +kernel
theorem dX7_begin_110 : decode cX7_begin 110 = .ok (.iconst 1, 1) := by decide +kernel
theorem dX7_begin_111 : decode cX7_begin 111 = .ok (.putfield 50, 3) := by decide +kernel
theorem dX7_begin_114 : decode cX7_begin 114 = .ok (.return_, 1) := by decide +kernel
theorem dX7_visitFrom_0 : decode cX7_visitFrom 0 = .ok (.aload_n 0, 1) := by decide +kernel
theorem dX7_visitFrom_1 : decode cX7_visitFrom 1 = .ok (.getfield 15, 3) := by decide +kernel
theorem dX7_visitFrom_4 : decode cX7_visitFrom 4 = .ok (.iload_n 1, 1) := by decide +kernel
theorem dX7_visitFrom_5 : decode cX7_visitFrom 5 = .ok (.iaload, 1) := by decide +kernel
theorem dX7_visitFrom_6 : decode cX7_visitFrom 6 = .ok (.bipush 8, 2) := by decide +kernel
theorem dX7_visitFrom_8 : decode cX7_visitFrom 8 = .ok (.ishr, 1) := by decide +kernel
theorem dX7_visitFrom_9 : decode cX7_visitFrom 9 = .ok (.istore 5, 2) := by decide +kernel
theorem dX7_visitFrom_11 : decode cX7_visitFrom 11 = .ok (.aload_n 0, 1) := by decide +kernel
theorem dX7_visitFrom_12 : decode cX7_visitFrom 12 = .ok (.getfield 15, 3) := by decide +kernel
theorem dX7_visitFrom_15 : decode cX7_visitFrom 15 = .ok (.iload_n 1, 1) := by decide +kernel
theorem dX7_visitFrom_16 : decode cX7_visitFrom 16 = .ok (.iaload, 1) := by decide +kernel
theorem dX7_visitFrom_17 : decode cX7_visitFrom 17 = .ok (.sipush 255, 3) := by decide +kernel
theorem dX7_visitFrom_20 : decode cX7_visitFrom 20 = .ok (.iand, 1) := by decide +kernel
theorem dX7_visitFrom_21 : decode cX7_visitFrom 21 = .ok (.istore 6, 2) := by decide +kernel
theorem dX7_visitFrom_23 : decode cX7_visitFrom 23 = .ok (.iconst 0, 1) := by decide +kernel
theorem dX7_visitFrom_24 : decode cX7_visitFrom 24 = .ok (.istore 7, 2) := by decide +kernel
theorem dX7_visitFrom_26 : decode cX7_visitFrom 26 = .ok (.iload 7, 2) := by decide +kernel
theorem dX7_visitFrom_28 : decode cX7_visitFrom 28 = .ok (.aload_n 0, 1) := by decide +kernel
theorem dX7_visitFrom_29 : decode cX7_visitFrom 29 = .ok (.getfield 61, 3) := by decide +kernel
theorem dX7_visitFrom_32 : decode cX7_visitFrom 32 = .ok (.if_icmp .ge 149, 3) := by decide +kernel
theorem dX7_visitFrom_35 : decode cX7_visitFrom 35 = .ok (.aload_n 0, 1) := by decide +kernel
theorem dX7_visitFrom_36 : decode cX7_visitFrom 36 = .ok (.getfield 9, 3) := by decide +kernel
theorem dX7_visitFrom_39 : decode cX7_visitFrom 39 = .ok (.iload 7, 2) := by decide +kernel
theorem dX7_visitFrom_41 : decode cX7_visitFrom 41 = .ok (.iaload, 1) := by decide +kernel
theorem dX7_visitFrom_42 : decode cX7_visitFrom 42 = .ok (.istore 8, 2) := by decide +kernel
theorem dX7_visitFrom_44 : decode cX7_visitFrom 44 = .ok (.aload_n 2, 1) := by decide +kernel
theorem dX7_visitFrom_45 : decode cX7_visitFrom 45 = .ok (.iload 5, 2) := by decide +kernel
theorem dX7_visitFrom_47 : decode cX7_visitFrom 47 = .ok (.iload 8, 2) := by decide +kernel
theorem dX7_visitFrom_49 : decode cX7_visitFrom 49 = .ok (.invokevirtual 89, 3) := by decide +kernel
theorem dX7_visitFrom_52 : decode cX7_visitFrom 52 = .ok (.istore 9, 2) := by decide +kernel
theorem dX7_visitFrom_54 : decode cX7_visitFrom 54 = .ok (.aload_n 3, 1) := by decide +kernel
theorem dX7_visitFrom_55 : decode cX7_visitFrom 55 = .ok (.iload 6, 2) := by decide +kernel
theorem dX7_visitFrom_57 : decode cX7_visitFrom 57 = .ok (.iload 8, 2) := by decide +kernel
theorem dX7_visitFrom_59 : decode cX7_visitFrom 59 = .ok (.invokevirtual 89, 3) := by decide +kernel
theorem dX7_visitFrom_62 : decode cX7_visitFrom 62 = .ok (.istore 10, 2) := by decide +kernel
theorem dX7_visitFrom_64 : decode cX7_visitFrom 64 = .ok (.iload 9, 2) := by decide +kernel
theorem dX7_visitFrom_66 : decode cX7_visitFrom 66 = .ok (.bipush 8, 2) := by decide +kernel
theorem dX7_visitFrom_68 : decode cX7_visitFrom 68 = .ok (.ishl, 1) := by decide +kernel
theorem dX7_visitFrom_69 : decode cX7_visitFrom 69 = .ok (.iload 10, 2) := by decide +kernel
theorem dX7_visitFrom_71 : decode cX7_visitFrom 71 = .ok (.ior, 1) := by decide +kernel
theorem dX7_visitFrom_72 : decode cX7_visitFrom 72 = .ok (.istore 11, 2) := by decide +kernel
theorem dX7_visitFrom_74 : decode cX7_visitFrom 74 = .ok (.aload_n 0, 1) := by decide +kernel
theorem dX7_visitFrom_75 : decode cX7_visitFrom 75 = .ok (.getfield 21, 3) := by decide +kernel
theorem dX7_visitFrom_78 : decode cX7_visitFrom 78 = .ok (.iconst 0, 1) := by decide +kernel
theorem dX7_visitFrom_79 : decode cX7_visitFrom 79 = .ok (.iload 11, 2) := by decide +kernel
theorem dX7_visitFrom_81 : decode cX7_visitFrom 81 = .ok (.invokestatic 92, 3) := by decide +kernel
theorem dX7_visitFrom_84 : decode cX7_visitFrom 84 = .ok (.ifCond .ne 91, 3) := by decide +kernel
theorem dX7_visitFrom_87 : decode cX7_visitFrom 87 = .ok (.aload_n 0, 1) := by decide +kernel
theorem dX7_visitFrom_88 : decode cX7_visitFrom 88 = .ok (.getfield 50, 3) := by decide +kernel
theorem dX7_visitFrom_91 : decode cX7_visitFrom 91 = .ok (.aload_n 0, 1) := by decide +kernel
theorem dX7_visitFrom_92 : decode cX7_visitFrom 92 = .ok (.getfield 15, 3) := by decide +kernel
theorem dX7_visitFrom_95 : decode cX7_visitFrom 95 = .ok (.arraylength, 1) := by decide +kernel
theorem dX7_visitFrom_96 : decode cX7_visitFrom 96 = .ok (.if_icmp .ge 79, 3) := by decide +kernel
theorem dX7_visitFrom_99 : decode cX7_visitFrom 99 = .ok (.aload_n 0, 1) := by decide +kernel
theorem dX7_visitFrom_100 : decode cX7_visitFrom 100 = .ok (.getfield 21, 3) := by decide +kernel
theorem dX7_visitFrom_103 : decode cX7_visitFrom 103 = .ok (.iconst 0, 1) := by decide +kernel
theorem dX7_visitFrom_104 : decode cX7_visitFrom 104 = .ok (.iload 11, 2) := by decide +kernel
theorem dX7_visitFrom_106 : decode cX7_visitFrom 106 = .ok (.invokestatic 96, 3) := by decide +kernel
theorem dX7_visitFrom_109 : decode cX7_visitFrom 109 = .ok (.aload_n 0, 1) := by decide +kernel
theorem dX7_visitFrom_110 : decode cX7_visitFrom 110 = .ok (.getfield 15, 3) := by decide +kernel
theorem dX7_visitFrom_113 : decode cX7_visitFrom 113 = .ok (.aload_n 0, 1) := by decide +kernel
theorem dX7_visitFrom_114 : decode cX7_visitFrom 114 = .ok (.getfield 50, 3) := by decide +kernel
theorem dX7_visitFrom_117 : decode cX7_visitFrom 117 = .ok (.iload 11, 2) := by decide +kernel
theorem dX7_visitFrom_119 : decode cX7_visitFrom 119 = .ok (.iastore, 1) := by decide +kernel
theorem dX7_visitFrom_120 : decode cX7_visitFrom 120 = .ok (.aload_n 0, 1) := by decide +kernel
theorem dX7_visitFrom_121 : decode cX7_visitFrom 121 = .ok (.getfield 18, 3) := by decide +kernel
theorem dX7_visitFrom_124 : decode cX7_visitFrom 124 = .ok (.aload_n 0, 1) := by decide +kernel
theorem dX7_visitFrom_125 : decode cX7_visitFrom 125 = .ok (.getfield 50, 3) := by decide +kernel
theorem dX7_visitFrom_128 : decode cX7_visitFrom 128 = .ok (.iload_n 1, 1) := by decide +kernel
theorem dX7_visitFrom_129 : decode cX7_visitFrom 129 = .ok (.bipush 7, 2) := by decide +kernel
theorem dX7_visitFrom_131 : decode cX7_visitFrom 131 = .ok (.ishl, 1) := by decide +kernel
theorem dX7_visitFrom_132 : decode cX7_visitFrom 132 = .ok (.iload 8, 2) := by decide +kernel
theorem dX7_visitFrom_134 : decode cX7_visitFrom 134 = .ok (.ior, 1) := by decide +kernel
theorem dX7_visitFrom_135 : decode cX7_visitFrom 135 = .ok (.iastore, 1) := by decide +kernel
theorem dX7_visitFrom_136 : decode cX7_visitFrom 136 = .ok (.aload_n 0, 1) := by decide +kernel
theorem dX7_visitFrom_137 : decode cX7_visitFrom 137 = .ok (.dup, 1) := by decide +kernel
theorem dX7_visitFrom_138 : decode cX7_visitFrom 138 = .ok (.getfield 50, 3) := by decide +kernel
theorem dX7_visitFrom_141 : decode cX7_visitFrom 141 = .ok (.iconst 1, 1) := by decide +kernel
theorem dX7_visitFrom_142 : decode cX7_visitFrom 142 = .ok (.iadd, 1) := by decide +kernel
theorem dX7_visitFrom_143 : decode cX7_visitFrom 143 = .ok (.putfield 50, 3) := by decide +kernel
theorem dX7_visitFrom_146 : decode cX7_visitFrom 146 = .ok (.iload 4, 2) := by decide +kernel
theorem dX7_visitFrom_148 : decode cX7_visitFrom 148 = .ok (.aload_n 2, 1) := by decide +kernel
theorem dX7_visitFrom_149 : decode cX7_visitFrom 149 = .ok (.getfield 100, 3) := by decide +kernel
theorem dX7_visitFrom_152 : decode cX7_visitFrom 152 = .ok (.iload 9, 2) := by decide +kernel
theorem dX7_visitFrom_154 : decode cX7_visitFrom 154 = .ok (.baload, 1) := by decide +kernel
theorem dX7_visitFrom_155 : decode cX7_visitFrom 155 = .ok (.aload_n 3, 1) := by decide +kernel
theorem dX7_visitFrom_156 : decode cX7_visitFrom 156 = .ok (.getfield 100, 3) := by decide +kernel
theorem dX7_visitFrom_159 : decode cX7_visitFrom 159 = .ok (.iload 10, 2) := by decide +kernel
theorem dX7_visitFrom_161 : decode cX7_visitFrom 161 = .ok (.baload, 1) := by decide +kernel
theorem dX7_visitFrom_162 : decode cX7_visitFrom 162 = .ok (.invokestatic 39, 3) := by decide +kernel
theorem dX7_visitFrom_165 : decode cX7_visitFrom 165 = .ok (.ifCond .eq 10, 3) := by decide +kernel
theorem dX7_visitFrom_168 : decode cX7_visitFrom 168 = .ok (.aload_n 0, 1) := by decide +kernel
theorem dX7_visitFrom_169 : decode cX7_visitFrom 169 = .ok (.getfield 50, 3) := by decide +kernel
theorem dX7_visitFrom_172 : decode cX7_visitFrom 172 = .ok (.iconst 1, 1) := by decide +kernel
theorem dX7_visitFrom_173 : decode cX7_visitFrom 173 = .ok (.isub, 1) := by decide +kernel
theorem dX7_visitFrom_174 : decode cX7_visitFrom 174 = .ok (.ireturn, 1) := by decide +kernel
theorem dX7_visitFrom_175 : decode cX7_visitFrom 175 = .ok (.iinc 7 1, 3) := by decide +kernel
theorem dX7_visitFrom_178 : decode cX7_visitFrom 178 = .ok (.goto (-152), 3) := by decide +kernel
theorem dX7_visitFrom_181 : decode cX7_visitFrom 181 = .ok (.iconst (-1), 1) := by decide +kernel
theorem dX7_visitFrom_182 : decode cX7_visitFrom 182 = .ok (.ireturn, 1) := by decide +kernel
theorem dX7_writeText_0 : decode cX7_writeText 0 = .ok (.iload_n 1, 1) := by decide +kernel
theorem dX7_writeText_1 : decode cX7_writeText 1 = .ok (.istore_n 2, 1) := by decide +kernel
theorem dX7_writeText_2 : decode cX7_writeText 2 = .ok (.iload_n 2, 1) := by decide +kernel
theorem dX7_writeText_3 : decode cX7_writeText 3 = .ok (.ifCond .le 37, 3) := by decide +kernel
theorem dX7_writeText_6 : decode cX7_writeText 6 = .ok (.aload_n 0, 1) := by decide +kernel
theorem dX7_writeText_7 : decode cX7_writeText 7 = .ok (.getfield 29, 3) := by decide +kernel
theorem dX7_writeText_10 : decode cX7_writeText 10 = .ok (.aload_n 0, 1) := by decide +kernel
theorem dX7_writeText_11 : decode cX7_writeText 11 = .ok (.getfield 50, 3) := by decide +kernel
theorem dX7_writeText_14 : decode cX7_writeText 14 = .ok (.if_icmp .ge 26, 3) := by decide +kernel
theorem dX7_writeText_17 : decode cX7_writeText 17 = .ok (.aload_n 0, 1) := by decide +kernel
theorem dX7_writeText_18 : decode cX7_writeText 18 = .ok (.dup, 1) := by decide +kernel
theorem dX7_writeText_19 : decode cX7_writeText 19 = .ok (.getfield 29, 3) := by decide +kernel
theorem dX7_writeText_22 : decode cX7_writeText 22 = .ok (.iconst 1, 1) := by decide +kernel
theorem dX7_writeText_23 : decode cX7_writeText 23 = .ok (.iadd, 1) := by decide +kernel
theorem dX7_writeText_24 : decode cX7_writeText 24 = .ok (.putfield 29, 3) := by decide +kernel
theorem dX7_writeText_27 : decode cX7_writeText 27 = .ok (.aload_n 0, 1) := by decide +kernel
theorem dX7_writeText_28 : decode cX7_writeText 28 = .ok (.getfield 18, 3) := by decide +kernel
theorem dX7_writeText_31 : decode cX7_writeText 31 = .ok (.iload_n 2, 1) := by decide +kernel
theorem dX7_writeText_32 : decode cX7_writeText 32 = .ok (.iaload, 1) := by decide +kernel
theorem dX7_writeText_33 : decode cX7_writeText 33 = .ok (.bipush 7, 2) := by decide +kernel
theorem dX7_writeText_35 : decode cX7_writeText 35 = .ok (.ishr, 1) := by decide +kernel
theorem dX7_writeText_36 : decode cX7_writeText 36 = .ok (.istore_n 2, 1) := by decide +kernel
theorem dX7_writeText_37 : decode cX7_writeText 37 = .ok (.goto (-35), 3) := by decide +kernel
theorem dX7_writeText_40 : decode cX7_writeText 40 = .ok (.aload_n 0, 1) := by decide +kernel
theorem dX7_writeText_41 : decode cX7_writeText 41 = .ok (.getfield 25, 3) := by decide +kernel
theorem dX7_writeText_44 : decode cX7_writeText 44 = .ok (.arraylength, 1) := by decide +kernel
theorem dX7_writeText_45 : decode cX7_writeText 45 = .ok (.aload_n 0, 1) := by decide +kernel
theorem dX7_writeText_46 : decode cX7_writeText 46 = .ok (.getfield 29, 3) := by decide +kernel
theorem dX7_writeText_49 : decode cX7_writeText 49 = .ok (.if_icmp .ge 23, 3) := by decide +kernel
theorem dX7_writeText_52 : decode cX7_writeText 52 = .ok (.aload_n 0, 1) := by decide +kernel
theorem dX7_writeText_53 : decode cX7_writeText 53 = .ok (.aload_n 0, 1) := by decide +kernel
theorem dX7_writeText_54 : decode cX7_writeText 54 = .ok (.getfield 29, 3) := by decide +kernel
theorem dX7_writeText_57 : decode cX7_writeText 57 = .ok (.iconst 2, 1) := by decide +kernel
theorem dX7_writeText_58 : decode cX7_writeText 58 = .ok (.aload_n 0, 1) := by decide +kernel
theorem dX7_writeText_59 : decode cX7_writeText 59 = .ok (.getfield 25, 3) := by decide +kernel
theorem dX7_writeText_62 : decode cX7_writeText 62 = .ok (.arraylength, 1) := by decide +kernel
theorem dX7_writeText_63 : decode cX7_writeText 63 = .ok (.imul, 1) := by decide +kernel
theorem dX7_writeText_64 : decode cX7_writeText 64 = .ok (.invokestatic 74, 3) := by decide +kernel
theorem dX7_writeText_67 : decode cX7_writeText 67 = .ok (.newarray .byte, 2) := by decide +kernel
theorem dX7_writeText_69 : decode cX7_writeText 69 = .ok (.putfield 25, 3) := by decide +kernel
theorem dX7_writeText_72 : decode cX7_writeText 72 = .ok (.iload_n 1, 1) := by decide +kernel
theorem dX7_writeText_73 : decode cX7_writeText 73 = .ok (.istore_n 2, 1) := by decide +kernel
theorem dX7_writeText_74 : decode cX7_writeText 74 = .ok (.aload_n 0, 1) := by decide +kernel
theorem dX7_writeText_75 : decode cX7_writeText 75 = .ok (.getfield 29, 3) := by decide +kernel
theorem dX7_writeText_78 : decode cX7_writeText 78 = .ok (.iconst 1, 1) := by decide +kernel
theorem dX7_writeText_79 : decode cX7_writeText 79 = .ok (.isub, 1) := by decide +kernel
theorem dX7_writeText_80 : decode cX7_writeText 80 = .ok (.istore_n 3, 1) := by decide +kernel
theorem dX7_writeText_81 : decode cX7_writeText 81 = .ok (.iload_n 3, 1) := by decide +kernel
theorem dX7_writeText_82 : decode cX7_writeText 82 = .ok (.ifCond .lt 35, 3) := by decide +kernel
theorem dX7_writeText_85 : decode cX7_writeText 85 = .ok (.aload_n 0, 1) := by decide +kernel
theorem dX7_writeText_86 : decode cX7_writeText 86 = .ok (.getfield 25, 3) := by decide +kernel
theorem dX7_writeText_89 : decode cX7_writeText 89 = .ok (.iload_n 3, 1) := by decide +kernel
theorem dX7_writeText_90 : decode cX7_writeText 90 = .ok (.aload_n 0, 1) := by decide +kernel
theorem dX7_writeText_91 : decode cX7_writeText 91 = .ok (.getfield 18, 3) := by decide +kernel
theorem dX7_writeText_94 : decode cX7_writeText 94 = .ok (.iload_n 2, 1) := by decide +kernel
theorem dX7_writeText_95 : decode cX7_writeText 95 = .ok (.iaload, 1) := by decide +kernel
theorem dX7_writeText_96 : decode cX7_writeText 96 = .ok (.bipush 127, 2) := by decide +kernel
theorem dX7_writeText_98 : decode cX7_writeText 98 = .ok (.iand, 1) := by decide +kernel
theorem dX7_writeText_99 : decode cX7_writeText 99 = .ok (.i2b, 1) := by decide +kernel
theorem dX7_writeText_100 : decode cX7_writeText 100 = .ok (.bastore, 1) := by decide +kernel
theorem dX7_writeText_101 : decode cX7_writeText 101 = .ok (.aload_n 0, 1) := by decide +kernel
theorem dX7_writeText_102 : decode cX7_writeText 102 = .ok (.getfield 18, 3) := by decide +kernel
theorem dX7_writeText_105 : decode cX7_writeText 105 = .ok (.iload_n 2, 1) := by decide +kernel
theorem dX7_writeText_106 : decode cX7_writeText 106 = .ok (.iaload, 1) := by decide +kernel
theorem dX7_writeText_107 : decode cX7_writeText 107 = .ok (.bipush 7, 2) := by decide +kernel
theorem dX7_writeText_109 : decode cX7_writeText 109 = .ok (.ishr, 1) := by decide +kernel
theorem dX7_writeText_110 : decode cX7_writeText 110 = .ok (.istore_n 2, 1) := by decide +kernel
theorem dX7_writeText_111 : decode cX7_writeText 111 = .ok (.iinc 3 (-1), 3) := by decide +kernel
theorem dX7_writeText_114 : decode cX7_writeText 114 = .ok (.goto (-33), 3) := by decide +kernel
theorem dX7_writeText_117 : decode cX7_writeText 117 = .ok (.return_, 1) := by decide +kernel
