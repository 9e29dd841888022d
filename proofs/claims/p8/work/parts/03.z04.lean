theorem dX4_init_0 : decode cX4_init 0 = .ok (.aload_n 0, 1) := by decide +kernel
theorem dX4_init_1 : decode cX4_init 1 = .ok (.invokespecial 3, 3) := by decide +kernel
theorem dX4_init_4 : decode cX4_init 4 = .ok (.aload_n 0, 1) := by decide +kernel
theorem dX4_init_5 : decode cX4_init 5 = .ok (.sipush 402, 3) := by decide +kernel
theorem dX4_init_8 : decode cX4_init 8 = .ok (.newarray .int, 2) := by decide +kernel
theorem dX4_init_10 : decode cX4_init 10 = .ok (.putfield 11, 3) := by decide +kernel
theorem dX4_init_13 : decode cX4_init 13 = .ok (.aload_n 0, 1) := by decide +kernel
theorem dX4_init_14 : decode cX4_init 14 = .ok (.sipush 402, 3) := by decide +kernel
theorem dX4_init_17 : decode cX4_init 17 = .ok (.newarray .int, 2) := by decide +kernel
theorem dX4_init_19 : decode cX4_init 19 = .ok (.putfield 17, 3) := by decide +kernel
theorem dX4_init_22 : decode cX4_init 22 = .ok (.aload_n 0, 1) := by decide +kernel
theorem dX4_init_23 : decode cX4_init 23 = .ok (.sipush 202, 3) := by decide +kernel
theorem dX4_init_26 : decode cX4_init 26 = .ok (.newarray .int, 2) := by decide +kernel
theorem dX4_init_28 : decode cX4_init 28 = .ok (.putfield 20, 3) := by decide +kernel
theorem dX4_init_31 : decode cX4_init 31 = .ok (.aload_n 0, 1) := by decide +kernel
theorem dX4_init_32 : decode cX4_init 32 = .ok (.sipush 202, 3) := by decide +kernel
theorem dX4_init_35 : decode cX4_init 35 = .ok (.newarray .int, 2) := by decide +kernel
theorem dX4_init_37 : decode cX4_init 37 = .ok (.putfield 23, 3) := by decide +kernel
theorem dX4_init_40 : decode cX4_init 40 = .ok (.aload_n 0, 1) := by decide +kernel
theorem dX4_init_41 : decode cX4_init 41 = .ok (.sipush 804, 3) := by decide +kernel
theorem dX4_init_44 : decode cX4_init 44 = .ok (.newarray .long, 2) := by decide +kernel
theorem dX4_init_46 : decode cX4_init 46 = .ok (.putfield 26, 3) := by decide +kernel
theorem dX4_init_49 : decode cX4_init 49 = .ok (.aload_n 0, 1) := by decide +kernel
theorem dX4_init_50 : decode cX4_init 50 = .ok (.iconst 2, 1) := by decide +kernel
theorem dX4_init_51 : decode cX4_init 51 = .ok (.newarray .long, 2) := by decide +kernel
theorem dX4_init_53 : decode cX4_init 53 = .ok (.putfield 30, 3) := by decide +kernel
theorem dX4_init_56 : decode cX4_init 56 = .ok (.aload_n 0, 1) := by decide +kernel
theorem dX4_init_57 : decode cX4_init 57 = .ok (.aload_n 1, 1) := by decide +kernel
theorem dX4_init_58 : decode cX4_init 58 = .ok (.putfield 33, 3) := by decide +kernel
theorem dX4_init_61 : decode cX4_init 61 = .ok (.return_, 1) := by decide +kernel
theorem dX4_mergeAll_0 : decode cX4_mergeAll 0 = .ok (.aload_n 0, 1) := by decide +kernel
theorem dX4_mergeAll_1 : decode cX4_mergeAll 1 = .ok (.invokevirtual 37, 3) := by decide +kernel
theorem dX4_mergeAll_4 : decode cX4_mergeAll 4 = .ok (.aload_n 0, 1) := by decide +kernel
theorem dX4_mergeAll_5 : decode cX4_mergeAll 5 = .ok (.invokevirtual 40, 3) := by decide +kernel
theorem dX4_mergeAll_8 : decode cX4_mergeAll 8 = .ok (.aload_n 0, 1) := by decide +kernel
theorem dX4_mergeAll_9 : decode cX4_mergeAll 9 = .ok (.getfield 30, 3) := by decide +kernel
theorem dX4_mergeAll_12 : decode cX4_mergeAll 12 = .ok (.ldc2_w 43, 3) := by decide +kernel
theorem dX4_mergeAll_15 : decode cX4_mergeAll 15 = .ok (.invokestatic 45, 3) := by decide +kernel
theorem dX4_mergeAll_18 : decode cX4_mergeAll 18 = .ok (.iconst 1, 1) := by decide +kernel
theorem dX4_mergeAll_19 : decode cX4_mergeAll 19 = .ok (.istore_n 1, 1) := by decide +kernel
theorem dX4_mergeAll_20 : decode cX4_mergeAll 20 = .ok (.iconst 0, 1) := by decide +kernel
theorem dX4_mergeAll_21 : decode cX4_mergeAll 21 = .ok (.istore_n 2, 1) := by decide +kernel
theorem dX4_mergeAll_22 : decode cX4_mergeAll 22 = .ok (.iload_n 1, 1) := by decide +kernel
theorem dX4_mergeAll_23 : decode cX4_mergeAll 23 = .ok (.ifCond .eq 69, 3) := by decide +kernel
theorem dX4_mergeAll_26 : decode cX4_mergeAll 26 = .ok (.iload_n 2, 1) := by decide +kernel
theorem dX4_mergeAll_27 : decode cX4_mergeAll 27 = .ok (.sipush 402, 3) := by decide +kernel
theorem dX4_mergeAll_30 : decode cX4_mergeAll 30 = .ok (.if_icmp .ge 62, 3) := by decide +kernel
theorem dX4_mergeAll_33 : decode cX4_mergeAll 33 = .ok (.iconst 0, 1) := by decide +kernel
theorem dX4_mergeAll_34 : decode cX4_mergeAll 34 = .ok (.istore_n 1, 1) := by decide +kernel
theorem dX4_mergeAll_35 : decode cX4_mergeAll 35 = .ok (.iconst 0, 1) := by decide +kernel
theorem dX4_mergeAll_36 : decode cX4_mergeAll 36 = .ok (.istore_n 3, 1) := by decide +kernel
theorem dX4_mergeAll_37 : decode cX4_mergeAll 37 = .ok (.iload_n 3, 1) := by decide +kernel
theorem dX4_mergeAll_38 : decode cX4_mergeAll 38 = .ok (.aload_n 0, 1) := by decide +kernel
theorem dX4_mergeAll_39 : decode cX4_mergeAll 39 = .ok (.getfield 33, 3) := by decide +kernel
theorem dX4_mergeAll_42 : decode cX4_mergeAll 42 = .ok (.getfield 51, 3) := by decide +kernel
theorem dX4_mergeAll_45 : decode cX4_mergeAll 45 = .ok (.getfield 55, 3) := by decide +kernel
theorem dX4_mergeAll_48 : decode cX4_mergeAll 48 = .ok (.if_icmp .ge 38, 3) := by decide +kernel
theorem dX4_mergeAll_51 : decode cX4_mergeAll 51 = .ok (.aload_n 0, 1) := by decide +kernel
theorem dX4_mergeAll_52 : decode cX4_mergeAll 52 = .ok (.getfield 61, 3) := by decide +kernel
theorem dX4_mergeAll_55 : decode cX4_mergeAll 55 = .ok (.sipush 201, 3) := by decide +kernel
theorem dX4_mergeAll_58 : decode cX4_mergeAll 58 = .ok (.if_icmp .gt 28, 3) := by decide +kernel
theorem dX4_mergeAll_61 : decode cX4_mergeAll 61 = .ok (.aload_n 0, 1) := by decide +kernel
theorem dX4_mergeAll_62 : decode cX4_mergeAll 62 = .ok (.getfield 30, 3) := by decide +kernel
theorem dX4_mergeAll_65 : decode cX4_mergeAll 65 = .ok (.iconst 0, 1) := by decide +kernel
theorem dX4_mergeAll_66 : decode cX4_mergeAll 66 = .ok (.iload_n 3, 1) := by decide +kernel
theorem dX4_mergeAll_67 : decode cX4_mergeAll 67 = .ok (.invokestatic 64, 3) := by decide +kernel
theorem dX4_mergeAll_70 : decode cX4_mergeAll 70 = .ok (.ifCond .eq 10, 3) := by decide +kernel
theorem dX4_mergeAll_73 : decode cX4_mergeAll 73 = .ok (.aload_n 0, 1) := by decide +kernel
theorem dX4_mergeAll_74 : decode cX4_mergeAll 74 = .ok (.iload_n 3, 1) := by decide +kernel
theorem dX4_mergeAll_75 : decode cX4_mergeAll 75 = .ok (.invokevirtual 68, 3) := by decide +kernel
theorem dX4_mergeAll_78 : decode cX4_mergeAll 78 = .ok (.iconst 1, 1) := by decide +kernel
theorem dX4_mergeAll_79 : decode cX4_mergeAll 79 = .ok (.istore_n 1, 1) := by decide +kernel
theorem dX4_mergeAll_80 : decode cX4_mergeAll 80 = .ok (.iinc 3 1, 3) := by decide +kernel
theorem dX4_mergeAll_83 : decode cX4_mergeAll 83 = .ok (.goto (-46), 3) := by decide +kernel
theorem dX4_mergeAll_86 : decode cX4_mergeAll 86 = .ok (.iinc 2 1, 3) := by decide +kernel
theorem dX4_mergeAll_89 : decode cX4_mergeAll 89 = .ok (.goto (-67), 3) := by decide +kernel
theorem dX4_mergeAll_92 : decode cX4_mergeAll 92 = .ok (.aload_n 0, 1) := by decide +kernel
theorem dX4_mergeAll_93 : decode cX4_mergeAll 93 = .ok (.getfield 61, 3) := by decide +kernel
theorem dX4_mergeAll_96 : decode cX4_mergeAll 96 = .ok (.sipush 201, 3) := by decide +kernel
theorem dX4_mergeAll_99 : decode cX4_mergeAll 99 = .ok (.if_icmp .gt 7, 3) := by decide +kernel
theorem dX4_mergeAll_102 : decode cX4_mergeAll 102 = .ok (.iconst 1, 1) := by decide +kernel
theorem dX4_mergeAll_103 : decode cX4_mergeAll 103 = .ok (.goto 4, 3) := by decide +kernel
theorem dX4_mergeAll_106 : decode cX4_mergeAll 106 = .ok (.iconst 0, 1) := by decide +kernel
theorem dX4_mergeAll_107 : decode cX4_mergeAll 107 = .ok (.ireturn, 1) := by decide +kernel
theorem dX4_beginBlocks_0 : decode cX4_beginBlocks 0 = .ok (.aload_n 0, 1) := by decide +kernel
theorem dX4_beginBlocks_1 : decode cX4_beginBlocks 1 = .ok (.getfield 33, 3) := by decide +kernel
theorem dX4_beginBlocks_4 : decode cX4_beginBlocks 4 = .ok (.getfield 72, 3) := by decide +kernel
theorem dX4_beginBlocks_7 : decode cX4_beginBlocks 7 = .ok (.iconst 2, 1) := by decide +kernel
theorem dX4_beginBlocks_8 : decode cX4_beginBlocks 8 = .ok (.if_icmp .le 7, 3) := by decide +kernel
theorem dX4_beginBlocks_11 : decode cX4_beginBlocks 11 = .ok (.iconst 1, 1) := by decide +kernel
theorem dX4_beginBlocks_12 : decode cX4_beginBlocks 12 = .ok (.goto 4, 3) := by decide +kernel
theorem dX4_beginBlocks_15 : decode cX4_beginBlocks 15 = .ok (.iconst 0, 1) := by decide +kernel
theorem dX4_beginBlocks_16 : decode cX4_beginBlocks 16 = .ok (.istore_n 1, 1) := by decide +kernel
theorem dX4_beginBlocks_17 : decode cX4_beginBlocks 17 = .ok (.aload_n 0, 1) := by decide +kernel
theorem dX4_beginBlocks_18 : decode cX4_beginBlocks 18 = .ok (.iload_n 1, 1) := by decide +kernel
theorem dX4_beginBlocks_19 : decode cX4_beginBlocks 19 = .ok (.ifCond .eq 7, 3) := by decide +kernel
theorem dX4_beginBlocks_22 : decode cX4_beginBlocks 22 = .ok (.iconst 3, 1) := by decide +kernel
theorem dX4_beginBlocks_23 : decode cX4_beginBlocks 23 = .ok (.goto 4, 3) := by decide +kernel
theorem dX4_beginBlocks_26 : decode cX4_beginBlocks 26 = .ok (.iconst 1, 1) := by decide +kernel
theorem dX4_beginBlocks_27 : decode cX4_beginBlocks 27 = .ok (.putfield 61, 3) := by decide +kernel
theorem dX4_beginBlocks_30 : decode cX4_beginBlocks 30 = .ok (.aload_n 0, 1) := by decide +kernel
theorem dX4_beginBlocks_31 : decode cX4_beginBlocks 31 = .ok (.getfield 11, 3) := by decide +kernel
theorem dX4_beginBlocks_34 : decode cX4_beginBlocks 34 = .ok (.iconst 0, 1) := by decide +kernel
theorem dX4_beginBlocks_35 : decode cX4_beginBlocks 35 = .ok (.iconst 0, 1) := by decide +kernel
theorem dX4_beginBlocks_36 : decode cX4_beginBlocks 36 = .ok (.iastore, 1) := by decide +kernel
theorem dX4_beginBlocks_37 : decode cX4_beginBlocks 37 = .ok (.aload_n 0, 1) := by decide +kernel
theorem dX4_beginBlocks_38 : decode cX4_beginBlocks 38 = .ok (.getfield 11, 3) := by decide +kernel
theorem dX4_beginBlocks_41 : decode cX4_beginBlocks 41 = .ok (.iconst 1, 1) := by decide +kernel
theorem dX4_beginBlocks_42 : decode cX4_beginBlocks 42 = .ok (.iload_n 1, 1) := by decide +kernel
theorem dX4_beginBlocks_43 : decode cX4_beginBlocks 43 = .ok (.ifCond .eq 7, 3) := by decide +kernel
theorem dX4_beginBlocks_46 : decode cX4_beginBlocks 46 = .ok (.iconst 1, 1) := by decide +kernel
theorem dX4_beginBlocks_47 : decode cX4_beginBlocks 47 = .ok (.goto 4, 3) := by decide +kernel
theorem dX4_beginBlocks_50 : decode cX4_beginBlocks 50 = .ok (.iconst 0, 1) := by decide +kernel
theorem dX4_beginBlocks_51 : decode cX4_beginBlocks 51 = .ok (.iastore, 1) := by decide +kernel
theorem dX4_beginBlocks_52 : decode cX4_beginBlocks 52 = .ok (.iconst 2, 1) := by decide +kernel
theorem dX4_beginBlocks_53 : decode cX4_beginBlocks 53 = .ok (.istore_n 2, 1) := by decide +kernel
theorem dX4_beginBlocks_54 : decode cX4_beginBlocks 54 = .ok (.iload_n 2, 1) := by decide +kernel
theorem dX4_beginBlocks_55 : decode cX4_beginBlocks 55 = .ok (.aload_n 0, 1) := by decide +kernel
theorem dX4_beginBlocks_56 : decode cX4_beginBlocks 56 = .ok (.getfield 33, 3) := by decide +kernel
theorem dX4_beginBlocks_59 : decode cX4_beginBlocks 59 = .ok (.getfield 72, 3) := by decide +kernel
theorem dX4_beginBlocks_62 : decode cX4_beginBlocks 62 = .ok (.if_icmp .ge 31, 3) := by decide +kernel
theorem dX4_beginBlocks_65 : decode cX4_beginBlocks 65 = .ok (.aload_n 0, 1) := by decide +kernel
theorem dX4_beginBlocks_66 : decode cX4_beginBlocks 66 = .ok (.getfield 11, 3) := by decide +kernel
theorem dX4_beginBlocks_69 : decode cX4_beginBlocks 69 = .ok (.iload_n 2, 1) := by decide +kernel
theorem dX4_beginBlocks_70 : decode cX4_beginBlocks 70 = .ok (.aload_n 0, 1) := by decide +kernel
theorem dX4_beginBlocks_71 : decode cX4_beginBlocks 71 = .ok (.getfield 33, 3) := by decide +kernel
theorem dX4_beginBlocks_74 : decode cX4_beginBlocks 74 = .ok (.iload_n 2, 1) := by decide +kernel
theorem dX4_beginBlocks_75 : decode cX4_beginBlocks 75 = .ok (.invokevirtual 75, 3) := by decide +kernel
theorem dX4_beginBlocks_78 : decode cX4_beginBlocks 78 = .ok (.ifCond .eq 7, 3) := by decide +kernel
theorem dX4_beginBlocks_81 : decode cX4_beginBlocks 81 = .ok (.iconst 2, 1) := by decide +kernel
theorem dX4_beginBlocks_82 : decode cX4_beginBlocks 82 = .ok (.goto 4, 3) := by decide +kernel
theorem dX4_beginBlocks_85 : decode cX4_beginBlocks 85 = .ok (.iconst 1, 1) := by decide +kernel
theorem dX4_beginBlocks_86 : decode cX4_beginBlocks 86 = .ok (.iastore, 1) := by decide +kernel
theorem dX4_beginBlocks_87 : decode cX4_beginBlocks 87 = .ok (.iinc 2 1, 3) := by decide +kernel
theorem dX4_beginBlocks_90 : decode cX4_beginBlocks 90 = .ok (.goto (-36), 3) := by decide +kernel
theorem dX4_beginBlocks_93 : decode cX4_beginBlocks 93 = .ok (.return_, 1) := by decide +kernel
theorem dX4_findKindsInto_0 : decode cX4_findKindsInto 0 = .ok (.aload_n 0, 1) := by decide +kernel
theorem dX4_findKindsInto_1 : decode cX4_findKindsInto 1 = .ok (.getfield 26, 3) := by decide +kernel
theorem dX4_findKindsInto_4 : decode cX4_findKindsInto 4 = .ok (.lconst 0, 1) := by decide +kernel
theorem dX4_findKindsInto_5 : decode cX4_findKindsInto 5 = .ok (.invokestatic 45, 3) := by decide +kernel
theorem dX4_findKindsInto_8 : decode cX4_findKindsInto 8 = .ok (.iconst 0, 1) := by decide +kernel
theorem dX4_findKindsInto_9 : decode cX4_findKindsInto 9 = .ok (.istore_n 1, 1) := by decide +kernel
theorem dX4_findKindsInto_10 : decode cX4_findKindsInto 10 = .ok (.iload_n 1, 1) := by decide +kernel
theorem dX4_findKindsInto_11 : decode cX4_findKindsInto 11 = .ok (.aload_n 0, 1) := by decide +kernel
theorem dX4_findKindsInto_12 : decode cX4_findKindsInto 12 = .ok (.getfield 33, 3) := by decide +kernel
theorem dX4_findKindsInto_15 : decode cX4_findKindsInto 15 = .ok (.getfield 72, 3) := by decide +kernel
theorem dX4_findKindsInto_18 : decode cX4_findKindsInto 18 = .ok (.if_icmp .ge 50, 3) := by decide +kernel
theorem dX4_findKindsInto_21 : decode cX4_findKindsInto 21 = .ok (.iconst 0, 1) := by decide +kernel
theorem dX4_findKindsInto_22 : decode cX4_findKindsInto 22 = .ok (.istore_n 2, 1) := by decide +kernel
theorem dX4_findKindsInto_23 : decode cX4_findKindsInto 23 = .ok (.iload_n 2, 1) := by decide +kernel
theorem dX4_findKindsInto_24 : decode cX4_findKindsInto 24 = .ok (.aload_n 0, 1) := by decide +kernel
theorem dX4_findKindsInto_25 : decode cX4_findKindsInto 25 = .ok (.getfield 33, 3) := by decide +kernel
theorem dX4_findKindsInto_28 : decode cX4_findKindsInto 28 = .ok (.getfield 51, 3) := by decide +kernel
theorem dX4_findKindsInto_31 : decode cX4_findKindsInto 31 = .ok (.getfield 55, 3) := by decide +kernel
theorem dX4_findKindsInto_34 : decode cX4_findKindsInto 34 = .ok (.if_icmp .ge 28, 3) := by decide +kernel
theorem dX4_findKindsInto_37 : decode cX4_findKindsInto 37 = .ok (.aload_n 0, 1) := by decide +kernel
theorem dX4_findKindsInto_38 : decode cX4_findKindsInto 38 = .ok (.getfield 26, 3) := by decide +kernel
theorem dX4_findKindsInto_41 : decode cX4_findKindsInto 41 = .ok (.aload_n 0, 1) := by decide +kernel
theorem dX4_findKindsInto_42 : decode cX4_findKindsInto 42 = .ok (.getfield 33, 3) := by decide +kernel
theorem dX4_findKindsInto_45 : decode cX4_findKindsInto 45 = .ok (.iload_n 1, 1) := by decide +kernel
theorem dX4_findKindsInto_46 : decode cX4_findKindsInto 46 = .ok (.iload_n 2, 1) := by decide +kernel
theorem dX4_findKindsInto_47 : decode cX4_findKindsInto 47 = .ok (.invokevirtual 79, 3) := by decide +kernel
theorem dX4_findKindsInto_50 : decode cX4_findKindsInto 50 = .ok (.iconst 2, 1) := by decide +kernel
theorem dX4_findKindsInto_51 : decode cX4_findKindsInto 51 = .ok (.imul, 1) := by decide +kernel
theorem dX4_findKindsInto_52 : decode cX4_findKindsInto 52 = .ok (.iload_n 2, 1) := by decide +kernel
theorem dX4_findKindsInto_53 : decode cX4_findKindsInto 53 = .ok (.invokestatic 83, 3) := by decide +kernel
theorem dX4_findKindsInto_56 : decode cX4_findKindsInto 56 = .ok (.iinc 2 1, 3) := by decide +kernel
theorem dX4_findKindsInto_59 : decode cX4_findKindsInto 59 = .ok (.goto (-36), 3) := by decide +kernel
theorem dX4_findKindsInto_62 : decode cX4_findKindsInto 62 = .ok (.iinc 1 1, 3) := by decide +kernel
theorem dX4_findKindsInto_65 : decode cX4_findKindsInto 65 = .ok (.goto (-55), 3) := by decide +kernel
theorem dX4_findKindsInto_68 : decode cX4_findKindsInto 68 = .ok (.return_, 1) := by decide +kernel
theorem dX4_splitBy_0 : decode cX4_splitBy 0 = .ok (.aload_n 0, 1) := by decide +kernel
theorem dX4_splitBy_1 : decode cX4_splitBy 1 = .ok (.getfield 30, 3) := by decide +kernel
theorem dX4_splitBy_4 : decode cX4_splitBy 4 = .ok (.iload_n 1, 1) := by decide +kernel
theorem dX4_splitBy_5 : decode cX4_splitBy 5 = .ok (.bipush 6, 2) := by decide +kernel
theorem dX4_splitBy_7 : decode cX4_splitBy 7 = .ok (.ishr, 1) := by decide +kernel
theorem dX4_splitBy_8 : decode cX4_splitBy 8 = .ok (.dup2, 1) := by decide +kernel
theorem dX4_splitBy_9 : decode cX4_splitBy 9 = .ok (.laload, 1) := by decide +kernel
theorem dX4_splitBy_10 : decode cX4_splitBy 10 = .ok (.lconst 1, 1) := by decide +kernel
theorem dX4_splitBy_11 : decode cX4_splitBy 11 = .ok (.iload_n 1, 1) := by decide +kernel
theorem dX4_splitBy_12 : decode cX4_splitBy 12 = .ok (.bipush 63, 2) := by decide +kernel
theorem dX4_splitBy_14 : decode cX4_splitBy 14 = .ok (.iand, 1) := by decide +kernel
theorem dX4_splitBy_15 : decode cX4_splitBy 15 = .ok (.lshl, 1) := by decide +kernel
theorem dX4_splitBy_16 : decode cX4_splitBy 16 = .ok (.ldc2_w 43, 3) := by decide +kernel
theorem dX4_splitBy_19 : decode cX4_splitBy 19 = .ok (.lxor, 1) := by decide +kernel
theorem dX4_splitBy_20 : decode cX4_splitBy 20 = .ok (.land, 1) := by decide +kernel
theorem dX4_splitBy_21 : decode cX4_splitBy 21 = .ok (.lastore, 1) := by decide +kernel
theorem dX4_splitBy_22 : decode cX4_splitBy 22 = .ok (.aload_n 0, 1) := by decide +kernel
theorem dX4_splitBy_23 : decode cX4_splitBy 23 = .ok (.getfield 20, 3) := by decide +kernel
theorem dX4_splitBy_26 : decode cX4_splitBy 26 = .ok (.iconst 0, 1) := by decide +kernel
theorem dX4_splitBy_27 : decode cX4_splitBy 27 = .ok (.aload_n 0, 1) := by decide +kernel
theorem dX4_splitBy_28 : decode cX4_splitBy 28 = .ok (.getfield 61, 3) := by decide +kernel
theorem dX4_splitBy_31 : decode cX4_splitBy 31 = .ok (.iconst (-1), 1) := by decide +kernel
theorem dX4_splitBy_32 : decode cX4_splitBy 32 = .ok (.invokestatic 87, 3) := by decide +kernel
theorem dX4_splitBy_35 : decode cX4_splitBy 35 = .ok (.aload_n 0, 1) := by decide +kernel
theorem dX4_splitBy_36 : decode cX4_splitBy 36 = .ok (.getfield 23, 3) := by decide +kernel
theorem dX4_splitBy_39 : decode cX4_splitBy 39 = .ok (.iconst 0, 1) := by decide +kernel
theorem dX4_splitBy_40 : decode cX4_splitBy 40 = .ok (.aload_n 0, 1) := by decide +kernel
theorem dX4_splitBy_41 : decode cX4_splitBy 41 = .ok (.getfield 61, 3) := by decide +kernel
theorem dX4_splitBy_44 : decode cX4_splitBy 44 = .ok (.iconst (-1), 1) := by decide +kernel
theorem dX4_splitBy_45 : decode cX4_splitBy 45 = .ok (.invokestatic 87, 3) := by decide +kernel
theorem dX4_splitBy_48 : decode cX4_splitBy 48 = .ok (.iconst 0, 1) := by decide +kernel
theorem dX4_splitBy_49 : decode cX4_splitBy 49 = .ok (.istore_n 2, 1) := by decide +kernel
theorem dX4_splitBy_50 : decode cX4_splitBy 50 = .ok (.iload_n 2, 1) := by decide +kernel
theorem dX4_splitBy_51 : decode cX4_splitBy 51 = .ok (.aload_n 0, 1) := by decide +kernel
theorem dX4_splitBy_52 : decode cX4_splitBy 52 = .ok (.getfield 33, 3) := by decide +kernel
theorem dX4_splitBy_55 : decode cX4_splitBy 55 = .ok (.getfield 72, 3) := by decide +kernel
theorem dX4_splitBy_58 : decode cX4_splitBy 58 = .ok (.if_icmp .ge 49, 3) := by decide +kernel
theorem dX4_splitBy_61 : decode cX4_splitBy 61 = .ok (.aload_n 0, 1) := by decide +kernel
theorem dX4_splitBy_62 : decode cX4_splitBy 62 = .ok (.getfield 61, 3) := by decide +kernel
theorem dX4_splitBy_65 : decode cX4_splitBy 65 = .ok (.sipush 201, 3) := by decide +kernel
theorem dX4_splitBy_68 : decode cX4_splitBy 68 = .ok (.if_icmp .gt 39, 3) := by decide +kernel
theorem dX4_splitBy_71 : decode cX4_splitBy 71 = .ok (.aload_n 0, 1) := by decide +kernel
theorem dX4_splitBy_72 : decode cX4_splitBy 72 = .ok (.getfield 17, 3) := by decide +kernel
theorem dX4_splitBy_75 : decode cX4_splitBy 75 = .ok (.iload_n 2, 1) := by decide +kernel
theorem dX4_splitBy_76 : decode cX4_splitBy 76 = .ok (.aload_n 0, 1) := by decide +kernel
theorem dX4_splitBy_77 : decode cX4_splitBy 77 = .ok (.aload_n 0, 1) := by decide +kernel
theorem dX4_splitBy_78 : decode cX4_splitBy 78 = .ok (.getfield 11, 3) := by decide +kernel
theorem dX4_splitBy_81 : decode cX4_splitBy 81 = .ok (.iload_n 2, 1) := by decide +kernel
theorem dX4_splitBy_82 : decode cX4_splitBy 82 = .ok (.iaload, 1) := by decide +kernel
theorem dX4_splitBy_83 : decode cX4_splitBy 83 = .ok (.aload_n 0, 1) := by decide +kernel
theorem dX4_splitBy_84 : decode cX4_splitBy 84 = .ok (.getfield 11, 3) := by decide +kernel
theorem dX4_splitBy_87 : decode cX4_splitBy 87 = .ok (.aload_n 0, 1) := by decide +kernel
theorem dX4_splitBy_88 : decode cX4_splitBy 88 = .ok (.getfield 33, 3) := by decide +kernel
theorem dX4_splitBy_91 : decode cX4_splitBy 91 = .ok (.iload_n 2, 1) := by decide +kernel
theorem dX4_splitBy_92 : decode cX4_splitBy 92 = .ok (.iload_n 1, 1) := by decide +kernel
theorem dX4_splitBy_93 : decode cX4_splitBy 93 = .ok (.invokevirtual 79, 3) := by decide +kernel
theorem dX4_splitBy_96 : decode cX4_splitBy 96 = .ok (.iaload, 1) := by decide +kernel
theorem dX4_splitBy_97 : decode cX4_splitBy 97 = .ok (.invokevirtual 90, 3) := by decide +kernel
theorem dX4_splitBy_100 : decode cX4_splitBy 100 = .ok (.iastore, 1) := by decide +kernel
theorem dX4_splitBy_101 : decode cX4_splitBy 101 = .ok (.iinc 2 1, 3) := by decide +kernel
theorem dX4_splitBy_104 : decode cX4_splitBy 104 = .ok (.goto (-54), 3) := by decide +kernel
theorem dX4_splitBy_107 : decode cX4_splitBy 107 = .ok (.iconst 0, 1) := by decide +kernel
theorem dX4_splitBy_108 : decode cX4_splitBy 108 = .ok (.istore_n 2, 1) := by decide +kernel
theorem dX4_splitBy_109 : decode cX4_splitBy 109 = .ok (.iload_n 2, 1) := by decide +kernel
theorem dX4_splitBy_110 : decode cX4_splitBy 110 = .ok (.aload_n 0, 1) := by decide +kernel
theorem dX4_splitBy_111 : decode cX4_splitBy 111 = .ok (.getfield 33, 3) := by decide +kernel
theorem dX4_splitBy_114 : decode cX4_splitBy 114 = .ok (.getfield 72, 3) := by decide +kernel
theorem dX4_splitBy_117 : decode cX4_splitBy 117 = .ok (.if_icmp .ge 24, 3) := by decide +kernel
theorem dX4_splitBy_120 : decode cX4_splitBy 120 = .ok (.aload_n 0, 1) := by decide +kernel
theorem dX4_splitBy_121 : decode cX4_splitBy 121 = .ok (.getfield 61, 3) := by decide +kernel
theorem dX4_splitBy_124 : decode cX4_splitBy 124 = .ok (.sipush 201, 3) := by decide +kernel
theorem dX4_splitBy_127 : decode cX4_splitBy 127 = .ok (.if_icmp .gt 14, 3) := by decide +kernel
theorem dX4_splitBy_130 : decode cX4_splitBy 130 = .ok (.aload_n 0, 1) := by decide +kernel
theorem dX4_splitBy_131 : decode cX4_splitBy 131 = .ok (.iload_n 2, 1) := by decide +kernel
theorem dX4_splitBy_132 : decode cX4_splitBy 132 = .ok (.invokevirtual 93, 3) := by decide +kernel
theorem dX4_splitBy_135 : decode cX4_splitBy 135 = .ok (.iinc 2 1, 3) := by decide +kernel
theorem dX4_splitBy_138 : decode cX4_splitBy 138 = .ok (.goto (-29), 3) := by decide +kernel
theorem dX4_splitBy_141 : decode cX4_splitBy 141 = .ok (.return_, 1) := by decide +kernel
theorem dX4_moveToNewBlock_0 : decode cX4_moveToNewBlock 0 = .ok (.aload_n 0, 1) := by decide +kernel
theorem dX4_moveToNewBlock_1 : decode cX4_moveToNewBlock 1 = .ok (.getfield 11, 3) := by decide +kernel
theorem dX4_moveToNewBlock_4 : decode cX4_moveToNewBlock 4 = .ok (.iload_n 1, 1) := by decide +kernel
theorem dX4_moveToNewBlock_5 : decode cX4_moveToNewBlock 5 = .ok (.iaload, 1) := by decide +kernel
theorem dX4_moveToNewBlock_6 : decode cX4_moveToNewBlock 6 = .ok (.aload_n 0, 1) := by decide +kernel
theorem dX4_moveToNewBlock_7 : decode cX4_moveToNewBlock 7 = .ok (.getfield 17, 3) := by decide +kernel
theorem dX4_moveToNewBlock_10 : decode cX4_moveToNewBlock 10 = .ok (.iload_n 1, 1) := by decide +kernel
theorem dX4_moveToNewBlock_11 : decode cX4_moveToNewBlock 11 = .ok (.iaload, 1) := by decide +kernel
theorem dX4_moveToNewBlock_12 : decode cX4_moveToNewBlock 12 = .ok (.if_icmp .eq 47, 3) := by decide +kernel
theorem dX4_moveToNewBlock_15 : decode cX4_moveToNewBlock 15 = .ok (.aload_n 0, 1) := by decide +kernel
theorem dX4_moveToNewBlock_16 : decode cX4_moveToNewBlock 16 = .ok (.getfield 11, 3) := by decide +kernel
theorem dX4_moveToNewBlock_19 : decode cX4_moveToNewBlock 19 = .ok (.iload_n 1, 1) := by decide +kernel
theorem dX4_moveToNewBlock_20 : decode cX4_moveToNewBlock 20 = .ok (.aload_n 0, 1) := by decide +kernel
theorem dX4_moveToNewBlock_21 : decode cX4_moveToNewBlock 21 = .ok (.getfield 17, 3) := by decide +kernel
theorem dX4_moveToNewBlock_24 : decode cX4_moveToNewBlock 24 = .ok (.iload_n 1, 1) := by decide +kernel
theorem dX4_moveToNewBlock_25 : decode cX4_moveToNewBlock 25 = .ok (.iaload, 1) := by decide +kernel
theorem dX4_moveToNewBlock_26 : decode cX4_moveToNewBlock 26 = .ok (.iastore, 1) := by decide +kernel
theorem dX4_moveToNewBlock_27 : decode cX4_moveToNewBlock 27 = .ok (.iconst 0, 1) := by decide +kernel
theorem dX4_moveToNewBlock_28 : decode cX4_moveToNewBlock 28 = .ok (.istore_n 2, 1) := by decide +kernel
theorem dX4_moveToNewBlock_29 : decode cX4_moveToNewBlock 29 = .ok (.iload_n 2, 1) := by decide +kernel
theorem dX4_moveToNewBlock_30 : decode cX4_moveToNewBlock 30 = .ok (.iconst 2, 1) := by decide +kernel
theorem dX4_moveToNewBlock_31 : decode cX4_moveToNewBlock 31 = .ok (.if_icmp .ge 28, 3) := by decide +kernel
theorem dX4_moveToNewBlock_34 : decode cX4_moveToNewBlock 34 = .ok (.aload_n 0, 1) := by decide +kernel
theorem dX4_moveToNewBlock_35 : decode cX4_moveToNewBlock 35 = .ok (.getfield 30, 3) := by decide +kernel
theorem dX4_moveToNewBlock_38 : decode cX4_moveToNewBlock 38 = .ok (.iload_n 2, 1) := by decide +kernel
theorem dX4_moveToNewBlock_39 : decode cX4_moveToNewBlock 39 = .ok (.dup2, 1) := by decide +kernel
theorem dX4_moveToNewBlock_40 : decode cX4_moveToNewBlock 40 = .ok (.laload, 1) := by decide +kernel
theorem dX4_moveToNewBlock_41 : decode cX4_moveToNewBlock 41 = .ok (.aload_n 0, 1) := by decide +kernel
theorem dX4_moveToNewBlock_42 : decode cX4_moveToNewBlock 42 = .ok (.getfield 26, 3) := by decide +kernel
theorem dX4_moveToNewBlock_45 : decode cX4_moveToNewBlock 45 = .ok (.iload_n 1, 1) := by decide +kernel
theorem dX4_moveToNewBlock_46 : decode cX4_moveToNewBlock 46 = .ok (.iconst 2, 1) := by decide +kernel
theorem dX4_moveToNewBlock_47 : decode cX4_moveToNewBlock 47 = .ok (.imul, 1) := by decide +kernel
theorem dX4_moveToNewBlock_48 : decode cX4_moveToNewBlock 48 = .ok (.iload_n 2, 1) := by decide +kernel
theorem dX4_moveToNewBlock_49 : decode cX4_moveToNewBlock 49 = .ok (.iadd, 1) := by decide +kernel
theorem dX4_moveToNewBlock_50 : decode cX4_moveToNewBlock 50 = .ok (.laload, 1) := by decide +kernel
theorem dX4_moveToNewBlock_51 : decode cX4_moveToNewBlock 51 = .ok (.lor, 1) := by decide +kernel
theorem dX4_moveToNewBlock_52 : decode cX4_moveToNewBlock 52 = .ok (.lastore, 1) := by decide +kernel
theorem dX4_moveToNewBlock_53 : decode cX4_moveToNewBlock 53 = .ok (.iinc 2 1, 3) := by decide +kernel
theorem dX4_moveToNewBlock_56 : decode cX4_moveToNewBlock 56 = .ok (.goto (-27), 3) := by decide +kernel
theorem dX4_moveToNewBlock_59 : decode cX4_moveToNewBlock 59 = .ok (.return_, 1) := by decide +kernel
theorem dX4_partOf_0 : decode cX4_partOf 0 = .ok (.aload_n 0, 1) := by decide +kernel
theorem dX4_partOf_1 : decode cX4_partOf 1 = .ok (.getfield 20, 3) := by decide +kernel
theorem dX4_partOf_4 : decode cX4_partOf 4 = .ok (.iload_n 1, 1) := by decide +kernel
theorem dX4_partOf_5 : decode cX4_partOf 5 = .ok (.iaload, 1) := by decide +kernel
theorem dX4_partOf_6 : decode cX4_partOf 6 = .ok (.ifCond .ge 10, 3) := by decide +kernel
theorem dX4_partOf_9 : decode cX4_partOf 9 = .ok (.aload_n 0, 1) := by decide +kernel
theorem dX4_partOf_10 : decode cX4_partOf 10 = .ok (.getfield 20, 3) := by decide +kernel
theorem dX4_partOf_13 : decode cX4_partOf 13 = .ok (.iload_n 1, 1) := by decide +kernel
theorem dX4_partOf_14 : decode cX4_partOf 14 = .ok (.iload_n 2, 1) := by decide +kernel
theorem dX4_partOf_15 : decode cX4_partOf 15 = .ok (.iastore, 1) := by decide +kernel
theorem dX4_partOf_16 : decode cX4_partOf 16 = .ok (.iload_n 1, 1) := by decide +kernel
theorem dX4_partOf_17 : decode cX4_partOf 17 = .ok (.istore_n 3, 1) := by decide +kernel
theorem dX4_partOf_18 : decode cX4_partOf 18 = .ok (.iconst 0, 1) := by decide +kernel
theorem dX4_partOf_19 : decode cX4_partOf 19 = .ok (.istore 4, 2) := by decide +kernel
theorem dX4_partOf_21 : decode cX4_partOf 21 = .ok (.iload 4, 2) := by decide +kernel
theorem dX4_partOf_23 : decode cX4_partOf 23 = .ok (.aload_n 0, 1) := by decide +kernel
theorem dX4_partOf_24 : decode cX4_partOf 24 = .ok (.getfield 61, 3) := by decide +kernel
theorem dX4_partOf_27 : decode cX4_partOf 27 = .ok (.if_icmp .ge 35, 3) := by decide +kernel
theorem dX4_partOf_30 : decode cX4_partOf 30 = .ok (.aload_n 0, 1) := by decide +kernel
theorem dX4_partOf_31 : decode cX4_partOf 31 = .ok (.getfield 20, 3) := by decide +kernel
theorem dX4_partOf_34 : decode cX4_partOf 34 = .ok (.iload_n 3, 1) := by decide +kernel
theorem dX4_partOf_35 : decode cX4_partOf 35 = .ok (.iaload, 1) := by decide +kernel
theorem dX4_partOf_36 : decode cX4_partOf 36 = .ok (.iload_n 2, 1) := by decide +kernel
theorem dX4_partOf_37 : decode cX4_partOf 37 = .ok (.if_icmp .eq 25, 3) := by decide +kernel
theorem dX4_partOf_40 : decode cX4_partOf 40 = .ok (.aload_n 0, 1) := by decide +kernel
theorem dX4_partOf_41 : decode cX4_partOf 41 = .ok (.getfield 23, 3) := by decide +kernel
theorem dX4_partOf_44 : decode cX4_partOf 44 = .ok (.iload_n 3, 1) := by decide +kernel
theorem dX4_partOf_45 : decode cX4_partOf 45 = .ok (.iaload, 1) := by decide +kernel
theorem dX4_partOf_46 : decode cX4_partOf 46 = .ok (.ifCond .lt 16, 3) := by decide +kernel
theorem dX4_partOf_49 : decode cX4_partOf 49 = .ok (.aload_n 0, 1) := by decide +kernel
theorem dX4_partOf_50 : decode cX4_partOf 50 = .ok (.getfield 23, 3) := by decide +kernel
theorem dX4_partOf_53 : decode cX4_partOf 53 = .ok (.iload_n 3, 1) := by decide +kernel
theorem dX4_partOf_54 : decode cX4_partOf 54 = .ok (.iaload, 1) := by decide +kernel
theorem dX4_partOf_55 : decode cX4_partOf 55 = .ok (.istore_n 3, 1) := by decide +kernel
theorem dX4_partOf_56 : decode cX4_partOf 56 = .ok (.iinc 4 1, 3) := by decide +kernel
theorem dX4_partOf_59 : decode cX4_partOf 59 = .ok (.goto (-38), 3) := by decide +kernel
theorem dX4_partOf_62 : decode cX4_partOf 62 = .ok (.aload_n 0, 1) := by decide +kernel
theorem dX4_partOf_63 : decode cX4_partOf 63 = .ok (.getfield 20, 3) := by decide +kernel
theorem dX4_partOf_66 : decode cX4_partOf 66 = .ok (.iload_n 3, 1) := by decide +kernel
theorem dX4_partOf_67 : decode cX4_partOf 67 = .ok (.iaload, 1) := by decide +kernel
theorem dX4_partOf_68 : decode cX4_partOf 68 = .ok (.iload_n 2, 1) := by decide +kernel
theorem dX4_partOf_69 : decode cX4_partOf 69 = .ok (.if_icmp .ne 5, 3) := by decide +kernel
theorem dX4_partOf_72 : decode cX4_partOf 72 = .ok (.iload_n 3, 1) := by decide +kernel
theorem dX4_partOf_73 : decode cX4_partOf 73 = .ok (.ireturn, 1) := by decide +kernel
theorem dX4_partOf_74 : decode cX4_partOf 74 = .ok (.aload_n 0, 1) := by decide +kernel
theorem dX4_partOf_75 : decode cX4_partOf 75 = .ok (.getfield 23, 3) := by decide +kernel
theorem dX4_partOf_78 : decode cX4_partOf 78 = .ok (.iload_n 3, 1) := by decide +kernel
theorem dX4_partOf_79 : decode cX4_partOf 79 = .ok (.aload_n 0, 1) := by decide +kernel
theorem dX4_partOf_80 : decode cX4_partOf 80 = .ok (.getfield 61, 3) := by decide +kernel
theorem dX4_partOf_83 : decode cX4_partOf 83 = .ok (.iastore, 1) := by decide +kernel
theorem dX4_partOf_84 : decode cX4_partOf 84 = .ok (.aload_n 0, 1) := by decide +kernel
theorem dX4_partOf_85 : decode cX4_partOf 85 = .ok (.getfield 20, 3) := by decide +kernel
theorem dX4_partOf_88 : decode cX4_partOf 88 = .ok (.aload_n 0, 1) := by decide +kernel
theorem dX4_partOf_89 : decode cX4_partOf 89 = .ok (.getfield 61, 3) := by decide +kernel
theorem dX4_partOf_92 : decode cX4_partOf 92 = .ok (.iload_n 2, 1) := by decide +kernel
theorem dX4_partOf_93 : decode cX4_partOf 93 = .ok (.iastore, 1) := by decide +kernel
theorem dX4_partOf_94 : decode cX4_partOf 94 = .ok (.aload_n 0, 1) := by decide +kernel
theorem dX4_partOf_95 : decode cX4_partOf 95 = .ok (.getfield 23, 3) := by decide +kernel
theorem dX4_partOf_98 : decode cX4_partOf 98 = .ok (.aload_n 0, 1) := by decide +kernel
theorem dX4_partOf_99 : decode cX4_partOf 99 = .ok (.getfield 61, 3) := by decide +kernel
theorem dX4_partOf_102 : decode cX4_partOf 102 = .ok (.iconst (-1), 1) := by decide +kernel
theorem dX4_partOf_103 : decode cX4_partOf 103 = .ok (.iastore, 1) := by decide +kernel
theorem dX4_partOf_104 : decode cX4_partOf 104 = .ok (.aload_n 0, 1) := by decide +kernel
theorem dX4_partOf_105 : decode cX4_partOf 105 = .ok (.dup, 1) := by decide +kernel
theorem dX4_partOf_106 : decode cX4_partOf 106 = .ok (.getfield 61, 3) := by decide +kernel
theorem dX4_partOf_109 : decode cX4_partOf 109 = .ok (.iconst 1, 1) := by decide +kernel
theorem dX4_partOf_110 : decode cX4_partOf 110 = .ok (.iadd, 1) := by decide +kernel
theorem dX4_partOf_111 : decode cX4_partOf 111 = .ok (.putfield 61, 3) := by decide +kernel
theorem dX4_partOf_114 : decode cX4_partOf 114 = .ok (.aload_n 0, 1) := by decide +kernel
theorem dX4_partOf_115 : decode cX4_partOf 115 = .ok (.getfield 61, 3) := by decide +kernel
theorem dX4_partOf_118 : decode cX4_partOf 118 = .ok (.iconst 1, 1) := by decide +kernel
theorem dX4_partOf_119 : decode cX4_partOf 119 = .ok (.isub, 1) := by decide +kernel
theorem dX4_partOf_120 : decode cX4_partOf 120 = .ok (.ireturn, 1) := by decide +kernel
theorem dX4_fill_0 : decode cX4_fill 0 = .ok (.aload_n 0, 1) := by decide +kernel
theorem dX4_fill_1 : decode cX4_fill 1 = .ok (.getfield 33, 3) := by decide +kernel
theorem dX4_fill_4 : decode cX4_fill 4 = .ok (.getfield 51, 3) := by decide +kernel
theorem dX4_fill_7 : decode cX4_fill 7 = .ok (.getfield 55, 3) := by decide +kernel
theorem dX4_fill_10 : decode cX4_fill 10 = .ok (.istore_n 3, 1) := by decide +kernel
theorem dX4_fill_11 : decode cX4_fill 11 = .ok (.aload_n 1, 1) := by decide +kernel
theorem dX4_fill_12 : decode cX4_fill 12 = .ok (.aload_n 0, 1) := by decide +kernel
theorem dX4_fill_13 : decode cX4_fill 13 = .ok (.getfield 33, 3) := by decide +kernel
theorem dX4_fill_16 : decode cX4_fill 16 = .ok (.getfield 51, 3) := by decide +kernel
theorem dX4_fill_19 : decode cX4_fill 19 = .ok (.aload_n 0, 1) := by decide +kernel
theorem dX4_fill_20 : decode cX4_fill 20 = .ok (.getfield 61, 3) := by decide +kernel
theorem dX4_fill_23 : decode cX4_fill 23 = .ok (.invokevirtual 96, 3) := by decide +kernel
theorem dX4_fill_26 : decode cX4_fill 26 = .ok (.aload_n 1, 1) := by decide +kernel
theorem dX4_fill_27 : decode cX4_fill 27 = .ok (.aload_n 0, 1) := by decide +kernel
theorem dX4_fill_28 : decode cX4_fill 28 = .ok (.getfield 11, 3) := by decide +kernel
theorem dX4_fill_31 : decode cX4_fill 31 = .ok (.iconst 1, 1) := by decide +kernel
theorem dX4_fill_32 : decode cX4_fill 32 = .ok (.iaload, 1) := by decide +kernel
theorem dX4_fill_33 : decode cX4_fill 33 = .ok (.putfield 102, 3) := by decide +kernel
theorem dX4_fill_36 : decode cX4_fill 36 = .ok (.aload_n 1, 1) := by decide +kernel
theorem dX4_fill_37 : decode cX4_fill 37 = .ok (.iload_n 2, 1) := by decide +kernel
theorem dX4_fill_38 : decode cX4_fill 38 = .ok (.putfield 105, 3) := by decide +kernel
theorem dX4_fill_41 : decode cX4_fill 41 = .ok (.iconst 0, 1) := by decide +kernel
theorem dX4_fill_42 : decode cX4_fill 42 = .ok (.istore 4, 2) := by decide +kernel
theorem dX4_fill_44 : decode cX4_fill 44 = .ok (.iload 4, 2) := by decide +kernel
theorem dX4_fill_46 : decode cX4_fill 46 = .ok (.aload_n 0, 1) := by decide +kernel
theorem dX4_fill_47 : decode cX4_fill 47 = .ok (.getfield 33, 3) := by decide +kernel
theorem dX4_fill_50 : decode cX4_fill 50 = .ok (.getfield 72, 3) := by decide +kernel
theorem dX4_fill_53 : decode cX4_fill 53 = .ok (.if_icmp .ge 77, 3) := by decide +kernel
theorem dX4_fill_56 : decode cX4_fill 56 = .ok (.aload_n 0, 1) := by decide +kernel
theorem dX4_fill_57 : decode cX4_fill 57 = .ok (.getfield 11, 3) := by decide +kernel
theorem dX4_fill_60 : decode cX4_fill 60 = .ok (.iload 4, 2) := by decide +kernel
theorem dX4_fill_62 : decode cX4_fill 62 = .ok (.iaload, 1) := by decide +kernel
theorem dX4_fill_63 : decode cX4_fill 63 = .ok (.istore 5, 2) := by decide +kernel
theorem dX4_fill_65 : decode cX4_fill 65 = .ok (.aload_n 1, 1) := by decide +kernel
theorem dX4_fill_66 : decode cX4_fill 66 = .ok (.getfield 109, 3) := by decide +kernel
theorem dX4_fill_69 : decode cX4_fill 69 = .ok (.iload 5, 2) := by decide +kernel
theorem dX4_fill_71 : decode cX4_fill 71 = .ok (.aload_n 0, 1) := by decide +kernel
theorem dX4_fill_72 : decode cX4_fill 72 = .ok (.getfield 33, 3) := by decide +kernel
theorem dX4_fill_75 : decode cX4_fill 75 = .ok (.iload 4, 2) := by decide +kernel
theorem dX4_fill_77 : decode cX4_fill 77 = .ok (.invokevirtual 75, 3) := by decide +kernel
theorem dX4_fill_80 : decode cX4_fill 80 = .ok (.bastore, 1) := by decide +kernel
theorem dX4_fill_81 : decode cX4_fill 81 = .ok (.iconst 0, 1) := by decide +kernel
theorem dX4_fill_82 : decode cX4_fill 82 = .ok (.istore 6, 2) := by decide +kernel
theorem dX4_fill_84 : decode cX4_fill 84 = .ok (.iload 6, 2) := by decide +kernel
theorem dX4_fill_86 : decode cX4_fill 86 = .ok (.iload_n 3, 1) := by decide +kernel
theorem dX4_fill_87 : decode cX4_fill 87 = .ok (.if_icmp .ge 37, 3) := by decide +kernel
theorem dX4_fill_90 : decode cX4_fill 90 = .ok (.aload_n 1, 1) := by decide +kernel
theorem dX4_fill_91 : decode cX4_fill 91 = .ok (.getfield 113, 3) := by decide +kernel
theorem dX4_fill_94 : decode cX4_fill 94 = .ok (.iload 5, 2) := by decide +kernel
theorem dX4_fill_96 : decode cX4_fill 96 = .ok (.iload_n 3, 1) := by decide +kernel
theorem dX4_fill_97 : decode cX4_fill 97 = .ok (.imul, 1) := by decide +kernel
theorem dX4_fill_98 : decode cX4_fill 98 = .ok (.iload 6, 2) := by decide +kernel
theorem dX4_fill_100 : decode cX4_fill 100 = .ok (.iadd, 1) := by decide +kernel
theorem dX4_fill_101 : decode cX4_fill 101 = .ok (.aload_n 0, 1) := by decide +kernel
theorem dX4_fill_102 : decode cX4_fill 102 = .ok (.getfield 11, 3) := by decide +kernel
theorem dX4_fill_105 : decode cX4_fill 105 = .ok (.aload_n 0, 1) := by decide +kernel
theorem dX4_fill_106 : decode cX4_fill 106 = .ok (.getfield 33, 3) := by decide +kernel
theorem dX4_fill_109 : decode cX4_fill 109 = .ok (.iload 4, 2) := by decide +kernel
theorem dX4_fill_111 : decode cX4_fill 111 = .ok (.iload 6, 2) := by decide +kernel
theorem dX4_fill_113 : decode cX4_fill 113 = .ok (.invokevirtual 79, 3) := by decide +kernel
theorem dX4_fill_116 : decode cX4_fill 116 = .ok (.iaload, 1) := by decide +kernel
theorem dX4_fill_117 : decode cX4_fill 117 = .ok (.iastore, 1) := by decide +kernel
theorem dX4_fill_118 : decode cX4_fill 118 = .ok (.iinc 6 1, 3) := by decide +kernel
theorem dX4_fill_121 : decode cX4_fill 121 = .ok (.goto (-37), 3) := by decide +kernel
theorem dX4_fill_124 : decode cX4_fill 124 = .ok (.iinc 4 1, 3) := by decide +kernel
theorem dX4_fill_127 : decode cX4_fill 127 = .ok (.goto (-83), 3) := by decide +kernel
theorem dX4_fill_130 : decode cX4_fill 130 = .ok (.return_, 1) := by decide +kernel
