theorem dX8_init_0 : decode cX8_init 0 = .ok (.aload_n 0, 1) := by decide +kernel
theorem dX8_init_1 : decode cX8_init 1 = .ok (.invokespecial 3, 3) := by decide +kernel
theorem dX8_init_4 : decode cX8_init 4 = .ok (.aload_n 0, 1) := by decide +kernel
theorem dX8_init_5 : decode cX8_init 5 = .ok (.new 9, 3) := by decide +kernel
theorem dX8_init_8 : decode cX8_init 8 = .ok (.dup, 1) := by decide +kernel
theorem dX8_init_9 : decode cX8_init 9 = .ok (.invokespecial 11, 3) := by decide +kernel
theorem dX8_init_12 : decode cX8_init 12 = .ok (.putfield 12, 3) := by decide +kernel
theorem dX8_init_15 : decode cX8_init 15 = .ok (.aload_n 0, 1) := by decide +kernel
theorem dX8_init_16 : decode cX8_init 16 = .ok (.sipush 2814, 3) := by decide +kernel
theorem dX8_init_19 : decode cX8_init 19 = .ok (.newarray .long, 2) := by decide +kernel
theorem dX8_init_21 : decode cX8_init 21 = .ok (.putfield 18, 3) := by decide +kernel
theorem dX8_init_24 : decode cX8_init 24 = .ok (.aload_n 0, 1) := by decide +kernel
theorem dX8_init_25 : decode cX8_init 25 = .ok (.sipush 1024, 3) := by decide +kernel
theorem dX8_init_28 : decode cX8_init 28 = .ok (.newarray .int, 2) := by decide +kernel
theorem dX8_init_30 : decode cX8_init 30 = .ok (.putfield 22, 3) := by decide +kernel
theorem dX8_init_33 : decode cX8_init 33 = .ok (.aload_n 0, 1) := by decide +kernel
theorem dX8_init_34 : decode cX8_init 34 = .ok (.bipush 7, 2) := by decide +kernel
theorem dX8_init_36 : decode cX8_init 36 = .ok (.newarray .long, 2) := by decide +kernel
theorem dX8_init_38 : decode cX8_init 38 = .ok (.putfield 26, 3) := by decide +kernel
theorem dX8_init_41 : decode cX8_init 41 = .ok (.aload_n 0, 1) := by decide +kernel
theorem dX8_init_42 : decode cX8_init 42 = .ok (.bipush 7, 2) := by decide +kernel
theorem dX8_init_44 : decode cX8_init 44 = .ok (.newarray .long, 2) := by decide +kernel
theorem dX8_init_46 : decode cX8_init 46 = .ok (.putfield 29, 3) := by decide +kernel
theorem dX8_init_49 : decode cX8_init 49 = .ok (.aload_n 0, 1) := by decide +kernel
theorem dX8_init_50 : decode cX8_init 50 = .ok (.iconst 0, 1) := by decide +kernel
theorem dX8_init_51 : decode cX8_init 51 = .ok (.newarray .int, 2) := by decide +kernel
theorem dX8_init_53 : decode cX8_init 53 = .ok (.putfield 32, 3) := by decide +kernel
theorem dX8_init_56 : decode cX8_init 56 = .ok (.aload_n 0, 1) := by decide +kernel
theorem dX8_init_57 : decode cX8_init 57 = .ok (.aload_n 1, 1) := by decide +kernel
theorem dX8_init_58 : decode cX8_init 58 = .ok (.putfield 35, 3) := by decide +kernel
theorem dX8_init_61 : decode cX8_init 61 = .ok (.return_, 1) := by decide +kernel
theorem dX8_visitAll_0 : decode cX8_visitAll 0 = .ok (.aload_n 0, 1) := by decide +kernel
theorem dX8_visitAll_1 : decode cX8_visitAll 1 = .ok (.invokevirtual 39, 3) := by decide +kernel
theorem dX8_visitAll_4 : decode cX8_visitAll 4 = .ok (.iconst 1, 1) := by decide +kernel
theorem dX8_visitAll_5 : decode cX8_visitAll 5 = .ok (.istore_n 1, 1) := by decide +kernel
theorem dX8_visitAll_6 : decode cX8_visitAll 6 = .ok (.iload_n 1, 1) := by decide +kernel
theorem dX8_visitAll_7 : decode cX8_visitAll 7 = .ok (.aload_n 0, 1) := by decide +kernel
theorem dX8_visitAll_8 : decode cX8_visitAll 8 = .ok (.getfield 42, 3) := by decide +kernel
theorem dX8_visitAll_11 : decode cX8_visitAll 11 = .ok (.if_icmp .ge 33, 3) := by decide +kernel
theorem dX8_visitAll_14 : decode cX8_visitAll 14 = .ok (.iload_n 1, 1) := by decide +kernel
theorem dX8_visitAll_15 : decode cX8_visitAll 15 = .ok (.sipush 402, 3) := by decide +kernel
theorem dX8_visitAll_18 : decode cX8_visitAll 18 = .ok (.if_icmp .ge 26, 3) := by decide +kernel
theorem dX8_visitAll_21 : decode cX8_visitAll 21 = .ok (.aload_n 0, 1) := by decide +kernel
theorem dX8_visitAll_22 : decode cX8_visitAll 22 = .ok (.getfield 46, 3) := by decide +kernel
theorem dX8_visitAll_25 : decode cX8_visitAll 25 = .ok (.ifCond .ne 19, 3) := by decide +kernel
theorem dX8_visitAll_28 : decode cX8_visitAll 28 = .ok (.aload_n 0, 1) := by decide +kernel
theorem dX8_visitAll_29 : decode cX8_visitAll 29 = .ok (.iload_n 1, 1) := by decide +kernel
theorem dX8_visitAll_30 : decode cX8_visitAll 30 = .ok (.invokevirtual 50, 3) := by decide +kernel
theorem dX8_visitAll_33 : decode cX8_visitAll 33 = .ok (.aload_n 0, 1) := by decide +kernel
theorem dX8_visitAll_34 : decode cX8_visitAll 34 = .ok (.iload_n 1, 1) := by decide +kernel
theorem dX8_visitAll_35 : decode cX8_visitAll 35 = .ok (.invokevirtual 54, 3) := by decide +kernel
theorem dX8_visitAll_38 : decode cX8_visitAll 38 = .ok (.iinc 1 1, 3) := by decide +kernel
theorem dX8_visitAll_41 : decode cX8_visitAll 41 = .ok (.goto (-35), 3) := by decide +kernel
theorem dX8_visitAll_44 : decode cX8_visitAll 44 = .ok (.aload_n 0, 1) := by decide +kernel
theorem dX8_visitAll_45 : decode cX8_visitAll 45 = .ok (.getfield 46, 3) := by decide +kernel
theorem dX8_visitAll_48 : decode cX8_visitAll 48 = .ok (.ifCond .ne 7, 3) := by decide +kernel
theorem dX8_visitAll_51 : decode cX8_visitAll 51 = .ok (.iconst 1, 1) := by decide +kernel
theorem dX8_visitAll_52 : decode cX8_visitAll 52 = .ok (.goto 4, 3) := by decide +kernel
theorem dX8_visitAll_55 : decode cX8_visitAll 55 = .ok (.iconst 0, 1) := by decide +kernel
theorem dX8_visitAll_56 : decode cX8_visitAll 56 = .ok (.ireturn, 1) := by decide +kernel
theorem dX8_begin_0 : decode cX8_begin 0 = .ok (.aload_n 0, 1) := by decide +kernel
theorem dX8_begin_1 : decode cX8_begin 1 = .ok (.getfield 12, 3) := by decide +kernel
theorem dX8_begin_4 : decode cX8_begin 4 = .ok (.aload_n 0, 1) := by decide +kernel
theorem dX8_begin_5 : decode cX8_begin 5 = .ok (.getfield 35, 3) := by decide +kernel
theorem dX8_begin_8 : decode cX8_begin 8 = .ok (.getfield 57, 3) := by decide +kernel
theorem dX8_begin_11 : decode cX8_begin 11 = .ok (.invokevirtual 62, 3) := by decide +kernel
theorem dX8_begin_14 : decode cX8_begin 14 = .ok (.aload_n 0, 1) := by decide +kernel
theorem dX8_begin_15 : decode cX8_begin 15 = .ok (.sipush 402, 3) := by decide +kernel
theorem dX8_begin_18 : decode cX8_begin 18 = .ok (.aload_n 0, 1) := by decide +kernel
theorem dX8_begin_19 : decode cX8_begin 19 = .ok (.getfield 12, 3) := by decide +kernel
theorem dX8_begin_22 : decode cX8_begin 22 = .ok (.getfield 66, 3) := by decide +kernel
theorem dX8_begin_25 : decode cX8_begin 25 = .ok (.imul, 1) := by decide +kernel
theorem dX8_begin_26 : decode cX8_begin 26 = .ok (.aload_n 0, 1) := by decide +kernel
theorem dX8_begin_27 : decode cX8_begin 27 = .ok (.getfield 32, 3) := by decide +kernel
theorem dX8_begin_30 : decode cX8_begin 30 = .ok (.invokestatic 69, 3) := by decide +kernel
theorem dX8_begin_33 : decode cX8_begin 33 = .ok (.putfield 32, 3) := by decide +kernel
theorem dX8_begin_36 : decode cX8_begin 36 = .ok (.aload_n 0, 1) := by decide +kernel
theorem dX8_begin_37 : decode cX8_begin 37 = .ok (.getfield 32, 3) := by decide +kernel
theorem dX8_begin_40 : decode cX8_begin 40 = .ok (.iconst 0, 1) := by decide +kernel
theorem dX8_begin_41 : decode cX8_begin 41 = .ok (.aload_n 0, 1) := by decide +kernel
theorem dX8_begin_42 : decode cX8_begin 42 = .ok (.getfield 12, 3) := by decide +kernel
theorem dX8_begin_45 : decode cX8_begin 45 = .ok (.getfield 66, 3) := by decide +kernel
theorem dX8_begin_48 : decode cX8_begin 48 = .ok (.iconst 0, 1) := by decide +kernel
theorem dX8_begin_49 : decode cX8_begin 49 = .ok (.invokestatic 73, 3) := by decide +kernel
theorem dX8_begin_52 : decode cX8_begin 52 = .ok (.aload_n 0, 1) := by decide +kernel
theorem dX8_begin_53 : decode cX8_begin 53 = .ok (.getfield 22, 3) := by decide +kernel
theorem dX8_begin_56 : decode cX8_begin 56 = .ok (.iconst 0, 1) := by decide +kernel
theorem dX8_begin_57 : decode cX8_begin 57 = .ok (.invokestatic 79, 3) := by decide +kernel
theorem dX8_begin_60 : decode cX8_begin 60 = .ok (.aload_n 0, 1) := by decide +kernel
theorem dX8_begin_61 : decode cX8_begin 61 = .ok (.iconst 2, 1) := by decide +kernel
theorem dX8_begin_62 : decode cX8_begin 62 = .ok (.putfield 42, 3) := by decide +kernel
theorem dX8_begin_65 : decode cX8_begin 65 = .ok (.aload_n 0, 1) := by decide +kernel
theorem dX8_begin_66 : decode cX8_begin 66 = .ok (.iconst 0, 1) := by decide +kernel
theorem dX8_begin_67 : decode cX8_begin 67 = .ok (.putfield 82, 3) := by decide +kernel
theorem dX8_begin_70 : decode cX8_begin 70 = .ok (.aload_n 0, 1) := by decide +kernel
theorem dX8_begin_71 : decode cX8_begin 71 = .ok (.iconst 0, 1) := by decide +kernel
theorem dX8_begin_72 : decode cX8_begin 72 = .ok (.putfield 46, 3) := by decide +kernel
theorem dX8_begin_75 : decode cX8_begin 75 = .ok (.return_, 1) := by decide +kernel
theorem dX8_findReach_0 : decode cX8_findReach 0 = .ok (.aload_n 0, 1) := by decide +kernel
theorem dX8_findReach_1 : decode cX8_findReach 1 = .ok (.getfield 26, 3) := by decide +kernel
theorem dX8_findReach_4 : decode cX8_findReach 4 = .ok (.lconst 0, 1) := by decide +kernel
theorem dX8_findReach_5 : decode cX8_findReach 5 = .ok (.invokestatic 85, 3) := by decide +kernel
theorem dX8_findReach_8 : decode cX8_findReach 8 = .ok (.iload_n 1, 1) := by decide +kernel
theorem dX8_findReach_9 : decode cX8_findReach 9 = .ok (.iconst 1, 1) := by decide +kernel
theorem dX8_findReach_10 : decode cX8_findReach 10 = .ok (.if_icmp .ne 22, 3) := by decide +kernel
theorem dX8_findReach_13 : decode cX8_findReach 13 = .ok (.aload_n 0, 1) := by decide +kernel
theorem dX8_findReach_14 : decode cX8_findReach 14 = .ok (.getfield 26, 3) := by decide +kernel
theorem dX8_findReach_17 : decode cX8_findReach 17 = .ok (.iconst 0, 1) := by decide +kernel
theorem dX8_findReach_18 : decode cX8_findReach 18 = .ok (.aload_n 0, 1) := by decide +kernel
theorem dX8_findReach_19 : decode cX8_findReach 19 = .ok (.getfield 35, 3) := by decide +kernel
theorem dX8_findReach_22 : decode cX8_findReach 22 = .ok (.getfield 88, 3) := by decide +kernel
theorem dX8_findReach_25 : decode cX8_findReach 25 = .ok (.getfield 92, 3) := by decide +kernel
theorem dX8_findReach_28 : decode cX8_findReach 28 = .ok (.invokestatic 97, 3) := by decide +kernel
theorem dX8_findReach_31 : decode cX8_findReach 31 = .ok (.return_, 1) := by decide +kernel
theorem dX8_findReach_32 : decode cX8_findReach 32 = .ok (.iconst 0, 1) := by decide +kernel
theorem dX8_findReach_33 : decode cX8_findReach 33 = .ok (.istore_n 2, 1) := by decide +kernel
theorem dX8_findReach_34 : decode cX8_findReach 34 = .ok (.iload_n 2, 1) := by decide +kernel
theorem dX8_findReach_35 : decode cX8_findReach 35 = .ok (.aload_n 0, 1) := by decide +kernel
theorem dX8_findReach_36 : decode cX8_findReach 36 = .ok (.getfield 35, 3) := by decide +kernel
theorem dX8_findReach_39 : decode cX8_findReach 39 = .ok (.getfield 101, 3) := by decide +kernel
theorem dX8_findReach_42 : decode cX8_findReach 42 = .ok (.if_icmp .ge 29, 3) := by decide +kernel
theorem dX8_findReach_45 : decode cX8_findReach 45 = .ok (.aload_n 0, 1) := by decide +kernel
theorem dX8_findReach_46 : decode cX8_findReach 46 = .ok (.getfield 18, 3) := by decide +kernel
theorem dX8_findReach_49 : decode cX8_findReach 49 = .ok (.iload_n 1, 1) := by decide +kernel
theorem dX8_findReach_50 : decode cX8_findReach 50 = .ok (.bipush 7, 2) := by decide +kernel
theorem dX8_findReach_52 : decode cX8_findReach 52 = .ok (.imul, 1) := by decide +kernel
theorem dX8_findReach_53 : decode cX8_findReach 53 = .ok (.iload_n 2, 1) := by decide +kernel
theorem dX8_findReach_54 : decode cX8_findReach 54 = .ok (.invokestatic 102, 3) := by decide +kernel
theorem dX8_findReach_57 : decode cX8_findReach 57 = .ok (.ifCond .eq 8, 3) := by decide +kernel
theorem dX8_findReach_60 : decode cX8_findReach 60 = .ok (.aload_n 0, 1) := by decide +kernel
theorem dX8_findReach_61 : decode cX8_findReach 61 = .ok (.iload_n 2, 1) := by decide +kernel
theorem dX8_findReach_62 : decode cX8_findReach 62 = .ok (.invokevirtual 106, 3) := by decide +kernel
theorem dX8_findReach_65 : decode cX8_findReach 65 = .ok (.iinc 2 1, 3) := by decide +kernel
theorem dX8_findReach_68 : decode cX8_findReach 68 = .ok (.goto (-34), 3) := by decide +kernel
theorem dX8_findReach_71 : decode cX8_findReach 71 = .ok (.return_, 1) := by decide +kernel
theorem dX8_addFollowers_0 : decode cX8_addFollowers 0 = .ok (.iconst 0, 1) := by decide +kernel
theorem dX8_addFollowers_1 : decode cX8_addFollowers 1 = .ok (.istore_n 2, 1) := by decide +kernel
theorem dX8_addFollowers_2 : decode cX8_addFollowers 2 = .ok (.iload_n 2, 1) := by decide +kernel
theorem dX8_addFollowers_3 : decode cX8_addFollowers 3 = .ok (.bipush 7, 2) := by decide +kernel
theorem dX8_addFollowers_5 : decode cX8_addFollowers 5 = .ok (.if_icmp .ge 32, 3) := by decide +kernel
theorem dX8_addFollowers_8 : decode cX8_addFollowers 8 = .ok (.aload_n 0, 1) := by decide +kernel
theorem dX8_addFollowers_9 : decode cX8_addFollowers 9 = .ok (.getfield 26, 3) := by decide +kernel
theorem dX8_addFollowers_12 : decode cX8_addFollowers 12 = .ok (.iload_n 2, 1) := by decide +kernel
theorem dX8_addFollowers_13 : decode cX8_addFollowers 13 = .ok (.dup2, 1) := by decide +kernel
theorem dX8_addFollowers_14 : decode cX8_addFollowers 14 = .ok (.laload, 1) := by decide +kernel
theorem dX8_addFollowers_15 : decode cX8_addFollowers 15 = .ok (.aload_n 0, 1) := by decide +kernel
theorem dX8_addFollowers_16 : decode cX8_addFollowers 16 = .ok (.getfield 35, 3) := by decide +kernel
theorem dX8_addFollowers_19 : decode cX8_addFollowers 19 = .ok (.getfield 109, 3) := by decide +kernel
theorem dX8_addFollowers_22 : decode cX8_addFollowers 22 = .ok (.iload_n 1, 1) := by decide +kernel
theorem dX8_addFollowers_23 : decode cX8_addFollowers 23 = .ok (.bipush 7, 2) := by decide +kernel
theorem dX8_addFollowers_25 : decode cX8_addFollowers 25 = .ok (.imul, 1) := by decide +kernel
theorem dX8_addFollowers_26 : decode cX8_addFollowers 26 = .ok (.iload_n 2, 1) := by decide +kernel
theorem dX8_addFollowers_27 : decode cX8_addFollowers 27 = .ok (.iadd, 1) := by decide +kernel
theorem dX8_addFollowers_28 : decode cX8_addFollowers 28 = .ok (.laload, 1) := by decide +kernel
theorem dX8_addFollowers_29 : decode cX8_addFollowers 29 = .ok (.lor, 1) := by decide +kernel
theorem dX8_addFollowers_30 : decode cX8_addFollowers 30 = .ok (.lastore, 1) := by decide +kernel
theorem dX8_addFollowers_31 : decode cX8_addFollowers 31 = .ok (.iinc 2 1, 3) := by decide +kernel
theorem dX8_addFollowers_34 : decode cX8_addFollowers 34 = .ok (.goto (-32), 3) := by decide +kernel
theorem dX8_addFollowers_37 : decode cX8_addFollowers 37 = .ok (.return_, 1) := by decide +kernel
theorem dX8_visitFrom_0 : decode cX8_visitFrom 0 = .ok (.iconst 0, 1) := by decide +kernel
theorem dX8_visitFrom_1 : decode cX8_visitFrom 1 = .ok (.istore_n 2, 1) := by decide +kernel
theorem dX8_visitFrom_2 : decode cX8_visitFrom 2 = .ok (.iload_n 2, 1) := by decide +kernel
theorem dX8_visitFrom_3 : decode cX8_visitFrom 3 = .ok (.aload_n 0, 1) := by decide +kernel
theorem dX8_visitFrom_4 : decode cX8_visitFrom 4 = .ok (.getfield 12, 3) := by decide +kernel
theorem dX8_visitFrom_7 : decode cX8_visitFrom 7 = .ok (.getfield 66, 3) := by decide +kernel
theorem dX8_visitFrom_10 : decode cX8_visitFrom 10 = .ok (.if_icmp .ge 175, 3) := by decide +kernel
theorem dX8_visitFrom_13 : decode cX8_visitFrom 13 = .ok (.aload_n 0, 1) := by decide +kernel
theorem dX8_visitFrom_14 : decode cX8_visitFrom 14 = .ok (.getfield 46, 3) := by decide +kernel
theorem dX8_visitFrom_17 : decode cX8_visitFrom 17 = .ok (.ifCond .ne 168, 3) := by decide +kernel
theorem dX8_visitFrom_20 : decode cX8_visitFrom 20 = .ok (.lconst 0, 1) := by decide +kernel
theorem dX8_visitFrom_21 : decode cX8_visitFrom 21 = .ok (.lstore_n 3, 1) := by decide +kernel
theorem dX8_visitFrom_22 : decode cX8_visitFrom 22 = .ok (.iconst 0, 1) := by decide +kernel
theorem dX8_visitFrom_23 : decode cX8_visitFrom 23 = .ok (.istore 5, 2) := by decide +kernel
theorem dX8_visitFrom_25 : decode cX8_visitFrom 25 = .ok (.iload 5, 2) := by decide +kernel
theorem dX8_visitFrom_27 : decode cX8_visitFrom 27 = .ok (.bipush 7, 2) := by decide +kernel
theorem dX8_visitFrom_29 : decode cX8_visitFrom 29 = .ok (.if_icmp .ge 57, 3) := by decide +kernel
theorem dX8_visitFrom_32 : decode cX8_visitFrom 32 = .ok (.aload_n 0, 1) := by decide +kernel
theorem dX8_visitFrom_33 : decode cX8_visitFrom 33 = .ok (.getfield 29, 3) := by decide +kernel
theorem dX8_visitFrom_36 : decode cX8_visitFrom 36 = .ok (.iload 5, 2) := by decide +kernel
theorem dX8_visitFrom_38 : decode cX8_visitFrom 38 = .ok (.aload_n 0, 1) := by decide +kernel
theorem dX8_visitFrom_39 : decode cX8_visitFrom 39 = .ok (.getfield 26, 3) := by decide +kernel
theorem dX8_visitFrom_42 : decode cX8_visitFrom 42 = .ok (.iload 5, 2) := by decide +kernel
theorem dX8_visitFrom_44 : decode cX8_visitFrom 44 = .ok (.laload, 1) := by decide +kernel
theorem dX8_visitFrom_45 : decode cX8_visitFrom 45 = .ok (.aload_n 0, 1) := by decide +kernel
theorem dX8_visitFrom_46 : decode cX8_visitFrom 46 = .ok (.getfield 35, 3) := by decide +kernel
theorem dX8_visitFrom_49 : decode cX8_visitFrom 49 = .ok (.getfield 57, 3) := by decide +kernel
theorem dX8_visitFrom_52 : decode cX8_visitFrom 52 = .ok (.aload_n 0, 1) := by decide +kernel
theorem dX8_visitFrom_53 : decode cX8_visitFrom 53 = .ok (.getfield 12, 3) := by decide +kernel
theorem dX8_visitFrom_56 : decode cX8_visitFrom 56 = .ok (.getfield 112, 3) := by decide +kernel
theorem dX8_visitFrom_59 : decode cX8_visitFrom 59 = .ok (.iload_n 2, 1) := by decide +kernel
theorem dX8_visitFrom_60 : decode cX8_visitFrom 60 = .ok (.iaload, 1) := by decide +kernel
theorem dX8_visitFrom_61 : decode cX8_visitFrom 61 = .ok (.bipush 7, 2) := by decide +kernel
theorem dX8_visitFrom_63 : decode cX8_visitFrom 63 = .ok (.imul, 1) := by decide +kernel
theorem dX8_visitFrom_64 : decode cX8_visitFrom 64 = .ok (.iload 5, 2) := by decide +kernel
theorem dX8_visitFrom_66 : decode cX8_visitFrom 66 = .ok (.iadd, 1) := by decide +kernel
theorem dX8_visitFrom_67 : decode cX8_visitFrom 67 = .ok (.laload, 1) := by decide +kernel
theorem dX8_visitFrom_68 : decode cX8_visitFrom 68 = .ok (.land, 1) := by decide +kernel
theorem dX8_visitFrom_69 : decode cX8_visitFrom 69 = .ok (.lastore, 1) := by decide +kernel
theorem dX8_visitFrom_70 : decode cX8_visitFrom 70 = .ok (.lload_n 3, 1) := by decide +kernel
theorem dX8_visitFrom_71 : decode cX8_visitFrom 71 = .ok (.aload_n 0, 1) := by decide +kernel
theorem dX8_visitFrom_72 : decode cX8_visitFrom 72 = .ok (.getfield 29, 3) := by decide +kernel
theorem dX8_visitFrom_75 : decode cX8_visitFrom 75 = .ok (.iload 5, 2) := by decide +kernel
theorem dX8_visitFrom_77 : decode cX8_visitFrom 77 = .ok (.laload, 1) := by decide +kernel
theorem dX8_visitFrom_78 : decode cX8_visitFrom 78 = .ok (.lor, 1) := by decide +kernel
theorem dX8_visitFrom_79 : decode cX8_visitFrom 79 = .ok (.lstore_n 3, 1) := by decide +kernel
theorem dX8_visitFrom_80 : decode cX8_visitFrom 80 = .ok (.iinc 5 1, 3) := by decide +kernel
theorem dX8_visitFrom_83 : decode cX8_visitFrom 83 = .ok (.goto (-58), 3) := by decide +kernel
theorem dX8_visitFrom_86 : decode cX8_visitFrom 86 = .ok (.aload_n 0, 1) := by decide +kernel
theorem dX8_visitFrom_87 : decode cX8_visitFrom 87 = .ok (.getfield 32, 3) := by decide +kernel
theorem dX8_visitFrom_90 : decode cX8_visitFrom 90 = .ok (.iload_n 1, 1) := by decide +kernel
theorem dX8_visitFrom_91 : decode cX8_visitFrom 91 = .ok (.aload_n 0, 1) := by decide +kernel
theorem dX8_visitFrom_92 : decode cX8_visitFrom 92 = .ok (.getfield 12, 3) := by decide +kernel
theorem dX8_visitFrom_95 : decode cX8_visitFrom 95 = .ok (.getfield 66, 3) := by decide +kernel
theorem dX8_visitFrom_98 : decode cX8_visitFrom 98 = .ok (.imul, 1) := by decide +kernel
theorem dX8_visitFrom_99 : decode cX8_visitFrom 99 = .ok (.iload_n 2, 1) := by decide +kernel
theorem dX8_visitFrom_100 : decode cX8_visitFrom 100 = .ok (.iadd, 1) := by decide +kernel
theorem dX8_visitFrom_101 : decode cX8_visitFrom 101 = .ok (.lload_n 3, 1) := by decide +kernel
theorem dX8_visitFrom_102 : decode cX8_visitFrom 102 = .ok (.lconst 0, 1) := by decide +kernel
theorem dX8_visitFrom_103 : decode cX8_visitFrom 103 = .ok (.lcmp, 1) := by decide +kernel
theorem dX8_visitFrom_104 : decode cX8_visitFrom 104 = .ok (.ifCond .ne 7, 3) := by decide +kernel
theorem dX8_visitFrom_107 : decode cX8_visitFrom 107 = .ok (.iconst 0, 1) := by decide +kernel
theorem dX8_visitFrom_108 : decode cX8_visitFrom 108 = .ok (.goto 7, 3) := by decide +kernel
theorem dX8_visitFrom_111 : decode cX8_visitFrom 111 = .ok (.aload_n 0, 1) := by decide +kernel
theorem dX8_visitFrom_112 : decode cX8_visitFrom 112 = .ok (.invokevirtual 115, 3) := by decide +kernel
theorem dX8_visitFrom_115 : decode cX8_visitFrom 115 = .ok (.iastore, 1) := by decide +kernel
theorem dX8_visitFrom_116 : decode cX8_visitFrom 116 = .ok (.aload_n 0, 1) := by decide +kernel
theorem dX8_visitFrom_117 : decode cX8_visitFrom 117 = .ok (.aload_n 0, 1) := by decide +kernel
theorem dX8_visitFrom_118 : decode cX8_visitFrom 118 = .ok (.getfield 82, 3) := by decide +kernel
theorem dX8_visitFrom_121 : decode cX8_visitFrom 121 = .ok (.ifCond .ne 9, 3) := by decide +kernel
theorem dX8_visitFrom_124 : decode cX8_visitFrom 124 = .ok (.lload_n 3, 1) := by decide +kernel
theorem dX8_visitFrom_125 : decode cX8_visitFrom 125 = .ok (.lconst 0, 1) := by decide +kernel
theorem dX8_visitFrom_126 : decode cX8_visitFrom 126 = .ok (.lcmp, 1) := by decide +kernel
theorem dX8_visitFrom_127 : decode cX8_visitFrom 127 = .ok (.ifCond .ne 7, 3) := by decide +kernel
theorem dX8_visitFrom_130 : decode cX8_visitFrom 130 = .ok (.iconst 1, 1) := by decide +kernel
theorem dX8_visitFrom_131 : decode cX8_visitFrom 131 = .ok (.goto 4, 3) := by decide +kernel
theorem dX8_visitFrom_134 : decode cX8_visitFrom 134 = .ok (.iconst 0, 1) := by decide +kernel
theorem dX8_visitFrom_135 : decode cX8_visitFrom 135 = .ok (.putfield 82, 3) := by decide +kernel
theorem dX8_visitFrom_138 : decode cX8_visitFrom 138 = .ok (.aload_n 0, 1) := by decide +kernel
theorem dX8_visitFrom_139 : decode cX8_visitFrom 139 = .ok (.aload_n 0, 1) := by decide +kernel
theorem dX8_visitFrom_140 : decode cX8_visitFrom 140 = .ok (.getfield 46, 3) := by decide +kernel
theorem dX8_visitFrom_143 : decode cX8_visitFrom 143 = .ok (.ifCond .ne 28, 3) := by decide +kernel
theorem dX8_visitFrom_146 : decode cX8_visitFrom 146 = .ok (.aload_n 0, 1) := by decide +kernel
theorem dX8_visitFrom_147 : decode cX8_visitFrom 147 = .ok (.getfield 42, 3) := by decide +kernel
theorem dX8_visitFrom_150 : decode cX8_visitFrom 150 = .ok (.iconst 2, 1) := by decide +kernel
theorem dX8_visitFrom_151 : decode cX8_visitFrom 151 = .ok (.isub, 1) := by decide +kernel
theorem dX8_visitFrom_152 : decode cX8_visitFrom 152 = .ok (.aload_n 0, 1) := by decide +kernel
theorem dX8_visitFrom_153 : decode cX8_visitFrom 153 = .ok (.getfield 82, 3) := by decide +kernel
theorem dX8_visitFrom_156 : decode cX8_visitFrom 156 = .ok (.ifCond .eq 7, 3) := by decide +kernel
theorem dX8_visitFrom_159 : decode cX8_visitFrom 159 = .ok (.iconst 1, 1) := by decide +kernel
theorem dX8_visitFrom_160 : decode cX8_visitFrom 160 = .ok (.goto 4, 3) := by decide +kernel
theorem dX8_visitFrom_163 : decode cX8_visitFrom 163 = .ok (.iconst 0, 1) := by decide +kernel
theorem dX8_visitFrom_164 : decode cX8_visitFrom 164 = .ok (.iadd, 1) := by decide +kernel
theorem dX8_visitFrom_165 : decode cX8_visitFrom 165 = .ok (.sipush 400, 3) := by decide +kernel
theorem dX8_visitFrom_168 : decode cX8_visitFrom 168 = .ok (.if_icmp .le 7, 3) := by decide +kernel
theorem dX8_visitFrom_171 : decode cX8_visitFrom 171 = .ok (.iconst 1, 1) := by decide +kernel
theorem dX8_visitFrom_172 : decode cX8_visitFrom 172 = .ok (.goto 4, 3) := by decide +kernel
theorem dX8_visitFrom_175 : decode cX8_visitFrom 175 = .ok (.iconst 0, 1) := by decide +kernel
theorem dX8_visitFrom_176 : decode cX8_visitFrom 176 = .ok (.putfield 46, 3) := by decide +kernel
theorem dX8_visitFrom_179 : decode cX8_visitFrom 179 = .ok (.iinc 2 1, 3) := by decide +kernel
theorem dX8_visitFrom_182 : decode cX8_visitFrom 182 = .ok (.goto (-180), 3) := by decide +kernel
theorem dX8_visitFrom_185 : decode cX8_visitFrom 185 = .ok (.return_, 1) := by decide +kernel
theorem dX8_stateOfGoal_0 : decode cX8_stateOfGoal 0 = .ok (.aload_n 0, 1) := by decide +kernel
theorem dX8_stateOfGoal_1 : decode cX8_stateOfGoal 1 = .ok (.invokevirtual 119, 3) := by decide +kernel
theorem dX8_stateOfGoal_4 : decode cX8_stateOfGoal 4 = .ok (.istore_n 1, 1) := by decide +kernel
theorem dX8_stateOfGoal_5 : decode cX8_stateOfGoal 5 = .ok (.iconst 0, 1) := by decide +kernel
theorem dX8_stateOfGoal_6 : decode cX8_stateOfGoal 6 = .ok (.istore_n 2, 1) := by decide +kernel
theorem dX8_stateOfGoal_7 : decode cX8_stateOfGoal 7 = .ok (.iload_n 2, 1) := by decide +kernel
theorem dX8_stateOfGoal_8 : decode cX8_stateOfGoal 8 = .ok (.sipush 1024, 3) := by decide +kernel
theorem dX8_stateOfGoal_11 : decode cX8_stateOfGoal 11 = .ok (.if_icmp .ge 55, 3) := by decide +kernel
theorem dX8_stateOfGoal_14 : decode cX8_stateOfGoal 14 = .ok (.aload_n 0, 1) := by decide +kernel
theorem dX8_stateOfGoal_15 : decode cX8_stateOfGoal 15 = .ok (.getfield 22, 3) := by decide +kernel
theorem dX8_stateOfGoal_18 : decode cX8_stateOfGoal 18 = .ok (.iload_n 1, 1) := by decide +kernel
theorem dX8_stateOfGoal_19 : decode cX8_stateOfGoal 19 = .ok (.iaload, 1) := by decide +kernel
theorem dX8_stateOfGoal_20 : decode cX8_stateOfGoal 20 = .ok (.istore_n 3, 1) := by decide +kernel
theorem dX8_stateOfGoal_21 : decode cX8_stateOfGoal 21 = .ok (.iload_n 3, 1) := by decide +kernel
theorem dX8_stateOfGoal_22 : decode cX8_stateOfGoal 22 = .ok (.ifCond .ne 9, 3) := by decide +kernel
theorem dX8_stateOfGoal_25 : decode cX8_stateOfGoal 25 = .ok (.aload_n 0, 1) := by decide +kernel
theorem dX8_stateOfGoal_26 : decode cX8_stateOfGoal 26 = .ok (.iload_n 1, 1) := by decide +kernel
theorem dX8_stateOfGoal_27 : decode cX8_stateOfGoal 27 = .ok (.invokevirtual 122, 3) := by decide +kernel
theorem dX8_stateOfGoal_30 : decode cX8_stateOfGoal 30 = .ok (.ireturn, 1) := by decide +kernel
theorem dX8_stateOfGoal_31 : decode cX8_stateOfGoal 31 = .ok (.aload_n 0, 1) := by decide +kernel
theorem dX8_stateOfGoal_32 : decode cX8_stateOfGoal 32 = .ok (.getfield 18, 3) := by decide +kernel
theorem dX8_stateOfGoal_35 : decode cX8_stateOfGoal 35 = .ok (.iload_n 3, 1) := by decide +kernel
theorem dX8_stateOfGoal_36 : decode cX8_stateOfGoal 36 = .ok (.bipush 7, 2) := by decide +kernel
theorem dX8_stateOfGoal_38 : decode cX8_stateOfGoal 38 = .ok (.imul, 1) := by decide +kernel
theorem dX8_stateOfGoal_39 : decode cX8_stateOfGoal 39 = .ok (.aload_n 0, 1) := by decide +kernel
theorem dX8_stateOfGoal_40 : decode cX8_stateOfGoal 40 = .ok (.getfield 29, 3) := by decide +kernel
theorem dX8_stateOfGoal_43 : decode cX8_stateOfGoal 43 = .ok (.iconst 0, 1) := by decide +kernel
theorem dX8_stateOfGoal_44 : decode cX8_stateOfGoal 44 = .ok (.invokestatic 126, 3) := by decide +kernel
theorem dX8_stateOfGoal_47 : decode cX8_stateOfGoal 47 = .ok (.ifCond .eq 5, 3) := by decide +kernel
theorem dX8_stateOfGoal_50 : decode cX8_stateOfGoal 50 = .ok (.iload_n 3, 1) := by decide +kernel
theorem dX8_stateOfGoal_51 : decode cX8_stateOfGoal 51 = .ok (.ireturn, 1) := by decide +kernel
theorem dX8_stateOfGoal_52 : decode cX8_stateOfGoal 52 = .ok (.iload_n 1, 1) := by decide +kernel
theorem dX8_stateOfGoal_53 : decode cX8_stateOfGoal 53 = .ok (.iconst 1, 1) := by decide +kernel
theorem dX8_stateOfGoal_54 : decode cX8_stateOfGoal 54 = .ok (.iadd, 1) := by decide +kernel
theorem dX8_stateOfGoal_55 : decode cX8_stateOfGoal 55 = .ok (.sipush 1023, 3) := by decide +kernel
theorem dX8_stateOfGoal_58 : decode cX8_stateOfGoal 58 = .ok (.iand, 1) := by decide +kernel
theorem dX8_stateOfGoal_59 : decode cX8_stateOfGoal 59 = .ok (.istore_n 1, 1) := by decide +kernel
theorem dX8_stateOfGoal_60 : decode cX8_stateOfGoal 60 = .ok (.iinc 2 1, 3) := by decide +kernel
theorem dX8_stateOfGoal_63 : decode cX8_stateOfGoal 63 = .ok (.goto (-56), 3) := by decide +kernel
theorem dX8_stateOfGoal_66 : decode cX8_stateOfGoal 66 = .ok (.iconst 0, 1) := by decide +kernel
theorem dX8_stateOfGoal_67 : decode cX8_stateOfGoal 67 = .ok (.ireturn, 1) := by decide +kernel
theorem dX8_slotOfGoal_0 : decode cX8_slotOfGoal 0 = .ok (.lconst 0, 1) := by decide +kernel
theorem dX8_slotOfGoal_1 : decode cX8_slotOfGoal 1 = .ok (.lstore_n 1, 1) := by decide +kernel
theorem dX8_slotOfGoal_2 : decode cX8_slotOfGoal 2 = .ok (.iconst 0, 1) := by decide +kernel
theorem dX8_slotOfGoal_3 : decode cX8_slotOfGoal 3 = .ok (.istore_n 3, 1) := by decide +kernel
theorem dX8_slotOfGoal_4 : decode cX8_slotOfGoal 4 = .ok (.iload_n 3, 1) := by decide +kernel
theorem dX8_slotOfGoal_5 : decode cX8_slotOfGoal 5 = .ok (.bipush 7, 2) := by decide +kernel
theorem dX8_slotOfGoal_7 : decode cX8_slotOfGoal 7 = .ok (.if_icmp .ge 29, 3) := by decide +kernel
theorem dX8_slotOfGoal_10 : decode cX8_slotOfGoal 10 = .ok (.lload_n 1, 1) := by decide +kernel
theorem dX8_slotOfGoal_11 : decode cX8_slotOfGoal 11 = .ok (.aload_n 0, 1) := by decide +kernel
theorem dX8_slotOfGoal_12 : decode cX8_slotOfGoal 12 = .ok (.getfield 29, 3) := by decide +kernel
theorem dX8_slotOfGoal_15 : decode cX8_slotOfGoal 15 = .ok (.iload_n 3, 1) := by decide +kernel
theorem dX8_slotOfGoal_16 : decode cX8_slotOfGoal 16 = .ok (.laload, 1) := by decide +kernel
theorem dX8_slotOfGoal_17 : decode cX8_slotOfGoal 17 = .ok (.lxor, 1) := by decide +kernel
theorem dX8_slotOfGoal_18 : decode cX8_slotOfGoal 18 = .ok (.ldc2_w 130, 3) := by decide +kernel
theorem dX8_slotOfGoal_21 : decode cX8_slotOfGoal 21 = .ok (.lmul, 1) := by decide +kernel
theorem dX8_slotOfGoal_22 : decode cX8_slotOfGoal 22 = .ok (.lstore_n 1, 1) := by decide +kernel
theorem dX8_slotOfGoal_23 : decode cX8_slotOfGoal 23 = .ok (.lload_n 1, 1) := by decide +kernel
theorem dX8_slotOfGoal_24 : decode cX8_slotOfGoal 24 = .ok (.lload_n 1, 1) := by decide +kernel
theorem dX8_slotOfGoal_25 : decode cX8_slotOfGoal 25 = .ok (.bipush 32, 2) := by decide +kernel
theorem dX8_slotOfGoal_27 : decode cX8_slotOfGoal 27 = .ok (.lushr, 1) := by decide +kernel
theorem dX8_slotOfGoal_28 : decode cX8_slotOfGoal 28 = .ok (.lxor, 1) := by decide +kernel
theorem dX8_slotOfGoal_29 : decode cX8_slotOfGoal 29 = .ok (.lstore_n 1, 1) := by decide +kernel
theorem dX8_slotOfGoal_30 : decode cX8_slotOfGoal 30 = .ok (.iinc 3 1, 3) := by decide +kernel
theorem dX8_slotOfGoal_33 : decode cX8_slotOfGoal 33 = .ok (.goto (-29), 3) := by decide +kernel
theorem dX8_slotOfGoal_36 : decode cX8_slotOfGoal 36 = .ok (.lload_n 1, 1) := by decide +kernel
theorem dX8_slotOfGoal_37 : decode cX8_slotOfGoal 37 = .ok (.l2i, 1) := by decide +kernel
theorem dX8_slotOfGoal_38 : decode cX8_slotOfGoal 38 = .ok (.sipush 1023, 3) := by decide +kernel
theorem dX8_slotOfGoal_41 : decode cX8_slotOfGoal 41 = .ok (.iand, 1) := by decide +kernel
theorem dX8_slotOfGoal_42 : decode cX8_slotOfGoal 42 = .ok (.ireturn, 1) := by decide +kernel
theorem dX8_newState_0 : decode cX8_newState 0 = .ok (.aload_n 0, 1) := by decide +kernel
theorem dX8_newState_1 : decode cX8_newState 1 = .ok (.getfield 42, 3) := by decide +kernel
theorem dX8_newState_4 : decode cX8_newState 4 = .ok (.sipush 402, 3) := by decide +kernel
theorem dX8_newState_7 : decode cX8_newState 7 = .ok (.if_icmp .lt 10, 3) := by decide +kernel
theorem dX8_newState_10 : decode cX8_newState 10 = .ok (.aload_n 0, 1) := by decide +kernel
theorem dX8_newState_11 : decode cX8_newState 11 = .ok (.iconst 1, 1) := by decide +kernel
theorem dX8_newState_12 : decode cX8_newState 12 = .ok (.putfield 46, 3) := by decide +kernel
theorem dX8_newState_15 : decode cX8_newState 15 = .ok (.iconst 0, 1) := by decide +kernel
theorem dX8_newState_16 : decode cX8_newState 16 = .ok (.ireturn, 1) := by decide +kernel
theorem dX8_newState_17 : decode cX8_newState 17 = .ok (.aload_n 0, 1) := by decide +kernel
theorem dX8_newState_18 : decode cX8_newState 18 = .ok (.getfield 42, 3) := by decide +kernel
theorem dX8_newState_21 : decode cX8_newState 21 = .ok (.istore_n 2, 1) := by decide +kernel
theorem dX8_newState_22 : decode cX8_newState 22 = .ok (.aload_n 0, 1) := by decide +kernel
theorem dX8_newState_23 : decode cX8_newState 23 = .ok (.dup, 1) := by decide +kernel
theorem dX8_newState_24 : decode cX8_newState 24 = .ok (.getfield 42, 3) := by decide +kernel
theorem dX8_newState_27 : decode cX8_newState 27 = .ok (.iconst 1, 1) := by decide +kernel
theorem dX8_newState_28 : decode cX8_newState 28 = .ok (.iadd, 1) := by decide +kernel
theorem dX8_newState_29 : decode cX8_newState 29 = .ok (.putfield 42, 3) := by decide +kernel
theorem dX8_newState_32 : decode cX8_newState 32 = .ok (.aload_n 0, 1) := by decide +kernel
theorem dX8_newState_33 : decode cX8_newState 33 = .ok (.getfield 22, 3) := by decide +kernel
theorem dX8_newState_36 : decode cX8_newState 36 = .ok (.iload_n 1, 1) := by decide +kernel
theorem dX8_newState_37 : decode cX8_newState 37 = .ok (.iload_n 2, 1) := by decide +kernel
theorem dX8_newState_38 : decode cX8_newState 38 = .ok (.iastore, 1) := by decide +kernel
theorem dX8_newState_39 : decode cX8_newState 39 = .ok (.aload_n 0, 1) := by decide +kernel
theorem dX8_newState_40 : decode cX8_newState 40 = .ok (.getfield 29, 3) := by decide +kernel
theorem dX8_newState_43 : decode cX8_newState 43 = .ok (.iconst 0, 1) := by decide +kernel
theorem dX8_newState_44 : decode cX8_newState 44 = .ok (.aload_n 0, 1) := by decide +kernel
theorem dX8_newState_45 : decode cX8_newState 45 = .ok (.getfield 18, 3) := by decide +kernel
theorem dX8_newState_48 : decode cX8_newState 48 = .ok (.iload_n 2, 1) := by decide +kernel
theorem dX8_newState_49 : decode cX8_newState 49 = .ok (.bipush 7, 2) := by decide +kernel
theorem dX8_newState_51 : decode cX8_newState 51 = .ok (.imul, 1) := by decide +kernel
theorem dX8_newState_52 : decode cX8_newState 52 = .ok (.bipush 7, 2) := by decide +kernel
theorem dX8_newState_54 : decode cX8_newState 54 = .ok (.invokestatic 132, 3) := by decide +kernel
theorem dX8_newState_57 : decode cX8_newState 57 = .ok (.iload_n 2, 1) := by decide +kernel
theorem dX8_newState_58 : decode cX8_newState 58 = .ok (.ireturn, 1) := by decide +kernel
theorem dX8_stepOf_0 : decode cX8_stepOf 0 = .ok (.aload_n 0, 1) := by decide +kernel
theorem dX8_stepOf_1 : decode cX8_stepOf 1 = .ok (.getfield 32, 3) := by decide +kernel
theorem dX8_stepOf_4 : decode cX8_stepOf 4 = .ok (.iload_n 1, 1) := by decide +kernel
theorem dX8_stepOf_5 : decode cX8_stepOf 5 = .ok (.aload_n 0, 1) := by decide +kernel
theorem dX8_stepOf_6 : decode cX8_stepOf 6 = .ok (.getfield 12, 3) := by decide +kernel
theorem dX8_stepOf_9 : decode cX8_stepOf 9 = .ok (.getfield 66, 3) := by decide +kernel
theorem dX8_stepOf_12 : decode cX8_stepOf 12 = .ok (.imul, 1) := by decide +kernel
theorem dX8_stepOf_13 : decode cX8_stepOf 13 = .ok (.iload_n 2, 1) := by decide +kernel
theorem dX8_stepOf_14 : decode cX8_stepOf 14 = .ok (.iadd, 1) := by decide +kernel
theorem dX8_stepOf_15 : decode cX8_stepOf 15 = .ok (.iaload, 1) := by decide +kernel
theorem dX8_stepOf_16 : decode cX8_stepOf 16 = .ok (.ireturn, 1) := by decide +kernel
theorem dX8_accepts_0 : decode cX8_accepts 0 = .ok (.iconst 0, 1) := by decide +kernel
theorem dX8_accepts_1 : decode cX8_accepts 1 = .ok (.istore_n 2, 1) := by decide +kernel
theorem dX8_accepts_2 : decode cX8_accepts 2 = .ok (.iload_n 2, 1) := by decide +kernel
theorem dX8_accepts_3 : decode cX8_accepts 3 = .ok (.bipush 7, 2) := by decide +kernel
theorem dX8_accepts_5 : decode cX8_accepts 5 = .ok (.if_icmp .ge 40, 3) := by decide +kernel
theorem dX8_accepts_8 : decode cX8_accepts 8 = .ok (.aload_n 0, 1) := by decide +kernel
theorem dX8_accepts_9 : decode cX8_accepts 9 = .ok (.getfield 18, 3) := by decide +kernel
theorem dX8_accepts_12 : decode cX8_accepts 12 = .ok (.iload_n 1, 1) := by decide +kernel
theorem dX8_accepts_13 : decode cX8_accepts 13 = .ok (.bipush 7, 2) := by decide +kernel
theorem dX8_accepts_15 : decode cX8_accepts 15 = .ok (.imul, 1) := by decide +kernel
theorem dX8_accepts_16 : decode cX8_accepts 16 = .ok (.iload_n 2, 1) := by decide +kernel
theorem dX8_accepts_17 : decode cX8_accepts 17 = .ok (.iadd, 1) := by decide +kernel
theorem dX8_accepts_18 : decode cX8_accepts 18 = .ok (.laload, 1) := by decide +kernel
theorem dX8_accepts_19 : decode cX8_accepts 19 = .ok (.aload_n 0, 1) := by decide +kernel
theorem dX8_accepts_20 : decode cX8_accepts 20 = .ok (.getfield 35, 3) := by decide +kernel
theorem dX8_accepts_23 : decode cX8_accepts 23 = .ok (.getfield 88, 3) := by decide +kernel
theorem dX8_accepts_26 : decode cX8_accepts 26 = .ok (.getfield 138, 3) := by decide +kernel
theorem dX8_accepts_29 : decode cX8_accepts 29 = .ok (.iload_n 2, 1) := by decide +kernel
theorem dX8_accepts_30 : decode cX8_accepts 30 = .ok (.laload, 1) := by decide +kernel
theorem dX8_accepts_31 : decode cX8_accepts 31 = .ok (.land, 1) := by decide +kernel
theorem dX8_accepts_32 : decode cX8_accepts 32 = .ok (.lconst 0, 1) := by decide +kernel
theorem dX8_accepts_33 : decode cX8_accepts 33 = .ok (.lcmp, 1) := by decide +kernel
theorem dX8_accepts_34 : decode cX8_accepts 34 = .ok (.ifCond .eq 5, 3) := by decide +kernel
theorem dX8_accepts_37 : decode cX8_accepts 37 = .ok (.iconst 1, 1) := by decide +kernel
theorem dX8_accepts_38 : decode cX8_accepts 38 = .ok (.ireturn, 1) := by decide +kernel
theorem dX8_accepts_39 : decode cX8_accepts 39 = .ok (.iinc 2 1, 3) := by decide +kernel
theorem dX8_accepts_42 : decode cX8_accepts 42 = .ok (.goto (-40), 3) := by decide +kernel
theorem dX8_accepts_45 : decode cX8_accepts 45 = .ok (.iconst 0, 1) := by decide +kernel
theorem dX8_accepts_46 : decode cX8_accepts 46 = .ok (.ireturn, 1) := by decide +kernel
