theorem dX5_init_0 : decode cX5_init 0 = .ok (.aload_n 0, 1) := by decide +kernel
theorem dX5_init_1 : decode cX5_init 1 = .ok (.invokespecial 3, 3) := by decide +kernel
theorem dX5_init_4 : decode cX5_init 4 = .ok (.aload_n 0, 1) := by decide +kernel
theorem dX5_init_5 : decode cX5_init 5 = .ok (.sipush 896, 3) := by decide +kernel
theorem dX5_init_8 : decode cX5_init 8 = .ok (.newarray .long, 2) := by decide +kernel
theorem dX5_init_10 : decode cX5_init 10 = .ok (.putfield 9, 3) := by decide +kernel
theorem dX5_init_13 : decode cX5_init 13 = .ok (.aload_n 0, 1) := by decide +kernel
theorem dX5_init_14 : decode cX5_init 14 = .ok (.sipush 2800, 3) := by decide +kernel
theorem dX5_init_17 : decode cX5_init 17 = .ok (.newarray .long, 2) := by decide +kernel
theorem dX5_init_19 : decode cX5_init 19 = .ok (.putfield 15, 3) := by decide +kernel
theorem dX5_init_22 : decode cX5_init 22 = .ok (.aload_n 0, 1) := by decide +kernel
theorem dX5_init_23 : decode cX5_init 23 = .ok (.new 18, 3) := by decide +kernel
theorem dX5_init_26 : decode cX5_init 26 = .ok (.dup, 1) := by decide +kernel
theorem dX5_init_27 : decode cX5_init 27 = .ok (.invokespecial 20, 3) := by decide +kernel
theorem dX5_init_30 : decode cX5_init 30 = .ok (.putfield 21, 3) := by decide +kernel
theorem dX5_init_33 : decode cX5_init 33 = .ok (.return_, 1) := by decide +kernel
theorem dX5_clear_0 : decode cX5_clear 0 = .ok (.aload_n 0, 1) := by decide +kernel
theorem dX5_clear_1 : decode cX5_clear 1 = .ok (.getfield 9, 3) := by decide +kernel
theorem dX5_clear_4 : decode cX5_clear 4 = .ok (.lconst 0, 1) := by decide +kernel
theorem dX5_clear_5 : decode cX5_clear 5 = .ok (.invokestatic 25, 3) := by decide +kernel
theorem dX5_clear_8 : decode cX5_clear 8 = .ok (.aload_n 0, 1) := by decide +kernel
theorem dX5_clear_9 : decode cX5_clear 9 = .ok (.iconst 0, 1) := by decide +kernel
theorem dX5_clear_10 : decode cX5_clear 10 = .ok (.putfield 31, 3) := by decide +kernel
theorem dX5_clear_13 : decode cX5_clear 13 = .ok (.return_, 1) := by decide +kernel
theorem dX5_isFull_0 : decode cX5_isFull 0 = .ok (.aload_n 0, 1) := by decide +kernel
theorem dX5_isFull_1 : decode cX5_isFull 1 = .ok (.getfield 31, 3) := by decide +kernel
theorem dX5_isFull_4 : decode cX5_isFull 4 = .ok (.sipush 400, 3) := by decide +kernel
theorem dX5_isFull_7 : decode cX5_isFull 7 = .ok (.if_icmp .lt 7, 3) := by decide +kernel
theorem dX5_isFull_10 : decode cX5_isFull 10 = .ok (.iconst 1, 1) := by decide +kernel
theorem dX5_isFull_11 : decode cX5_isFull 11 = .ok (.goto 4, 3) := by decide +kernel
theorem dX5_isFull_14 : decode cX5_isFull 14 = .ok (.iconst 0, 1) := by decide +kernel
theorem dX5_isFull_15 : decode cX5_isFull 15 = .ok (.ireturn, 1) := by decide +kernel
theorem dX5_add_0 : decode cX5_add 0 = .ok (.aload_n 0, 1) := by decide +kernel
theorem dX5_add_1 : decode cX5_add 1 = .ok (.getfield 31, 3) := by decide +kernel
theorem dX5_add_4 : decode cX5_add 4 = .ok (.istore 5, 2) := by decide +kernel
theorem dX5_add_6 : decode cX5_add 6 = .ok (.aload_n 0, 1) := by decide +kernel
theorem dX5_add_7 : decode cX5_add 7 = .ok (.dup, 1) := by decide +kernel
theorem dX5_add_8 : decode cX5_add 8 = .ok (.getfield 31, 3) := by decide +kernel
theorem dX5_add_11 : decode cX5_add 11 = .ok (.iconst 1, 1) := by decide +kernel
theorem dX5_add_12 : decode cX5_add 12 = .ok (.iadd, 1) := by decide +kernel
theorem dX5_add_13 : decode cX5_add 13 = .ok (.putfield 31, 3) := by decide +kernel
theorem dX5_add_16 : decode cX5_add 16 = .ok (.aload_n 0, 1) := by decide +kernel
theorem dX5_add_17 : decode cX5_add 17 = .ok (.getfield 15, 3) := by decide +kernel
theorem dX5_add_20 : decode cX5_add 20 = .ok (.iload 5, 2) := by decide +kernel
theorem dX5_add_22 : decode cX5_add 22 = .ok (.bipush 7, 2) := by decide +kernel
theorem dX5_add_24 : decode cX5_add 24 = .ok (.imul, 1) := by decide +kernel
theorem dX5_add_25 : decode cX5_add 25 = .ok (.iload 5, 2) := by decide +kernel
theorem dX5_add_27 : decode cX5_add 27 = .ok (.iconst 1, 1) := by decide +kernel
theorem dX5_add_28 : decode cX5_add 28 = .ok (.iadd, 1) := by decide +kernel
theorem dX5_add_29 : decode cX5_add 29 = .ok (.bipush 7, 2) := by decide +kernel
theorem dX5_add_31 : decode cX5_add 31 = .ok (.imul, 1) := by decide +kernel
theorem dX5_add_32 : decode cX5_add 32 = .ok (.lconst 0, 1) := by decide +kernel
theorem dX5_add_33 : decode cX5_add 33 = .ok (.invokestatic 35, 3) := by decide +kernel
theorem dX5_add_36 : decode cX5_add 36 = .ok (.iconst 0, 1) := by decide +kernel
theorem dX5_add_37 : decode cX5_add 37 = .ok (.istore 6, 2) := by decide +kernel
theorem dX5_add_39 : decode cX5_add 39 = .ok (.iload 6, 2) := by decide +kernel
theorem dX5_add_41 : decode cX5_add 41 = .ok (.sipush 128, 3) := by decide +kernel
theorem dX5_add_44 : decode cX5_add 44 = .ok (.if_icmp .ge 48, 3) := by decide +kernel
theorem dX5_add_47 : decode cX5_add 47 = .ok (.iload 6, 2) := by decide +kernel
theorem dX5_add_49 : decode cX5_add 49 = .ok (.bipush 64, 2) := by decide +kernel
theorem dX5_add_51 : decode cX5_add 51 = .ok (.if_icmp .ge 7, 3) := by decide +kernel
theorem dX5_add_54 : decode cX5_add 54 = .ok (.lload_n 1, 1) := by decide +kernel
theorem dX5_add_55 : decode cX5_add 55 = .ok (.goto 4, 3) := by decide +kernel
theorem dX5_add_58 : decode cX5_add 58 = .ok (.lload_n 3, 1) := by decide +kernel
theorem dX5_add_59 : decode cX5_add 59 = .ok (.iload 6, 2) := by decide +kernel
theorem dX5_add_61 : decode cX5_add 61 = .ok (.bipush 63, 2) := by decide +kernel
theorem dX5_add_63 : decode cX5_add 63 = .ok (.iand, 1) := by decide +kernel
theorem dX5_add_64 : decode cX5_add 64 = .ok (.lushr, 1) := by decide +kernel
theorem dX5_add_65 : decode cX5_add 65 = .ok (.lconst 1, 1) := by decide +kernel
theorem dX5_add_66 : decode cX5_add 66 = .ok (.land, 1) := by decide +kernel
theorem dX5_add_67 : decode cX5_add 67 = .ok (.lconst 0, 1) := by decide +kernel
theorem dX5_add_68 : decode cX5_add 68 = .ok (.lcmp, 1) := by decide +kernel
theorem dX5_add_69 : decode cX5_add 69 = .ok (.ifCond .eq 17, 3) := by decide +kernel
theorem dX5_add_72 : decode cX5_add 72 = .ok (.aload_n 0, 1) := by decide +kernel
theorem dX5_add_73 : decode cX5_add 73 = .ok (.getfield 9, 3) := by decide +kernel
theorem dX5_add_76 : decode cX5_add 76 = .ok (.iload 6, 2) := by decide +kernel
theorem dX5_add_78 : decode cX5_add 78 = .ok (.bipush 7, 2) := by decide +kernel
theorem dX5_add_80 : decode cX5_add 80 = .ok (.imul, 1) := by decide +kernel
theorem dX5_add_81 : decode cX5_add 81 = .ok (.iload 5, 2) := by decide +kernel
theorem dX5_add_83 : decode cX5_add 83 = .ok (.invokestatic 38, 3) := by decide +kernel
theorem dX5_add_86 : decode cX5_add 86 = .ok (.iinc 6 1, 3) := by decide +kernel
theorem dX5_add_89 : decode cX5_add 89 = .ok (.goto (-50), 3) := by decide +kernel
theorem dX5_add_92 : decode cX5_add 92 = .ok (.iload 5, 2) := by decide +kernel
theorem dX5_add_94 : decode cX5_add 94 = .ok (.ireturn, 1) := by decide +kernel
theorem dX5_link_0 : decode cX5_link 0 = .ok (.iconst 0, 1) := by decide +kernel
theorem dX5_link_1 : decode cX5_link 1 = .ok (.istore_n 3, 1) := by decide +kernel
theorem dX5_link_2 : decode cX5_link 2 = .ok (.iload_n 3, 1) := by decide +kernel
theorem dX5_link_3 : decode cX5_link 3 = .ok (.aload_n 0, 1) := by decide +kernel
theorem dX5_link_4 : decode cX5_link 4 = .ok (.getfield 31, 3) := by decide +kernel
theorem dX5_link_7 : decode cX5_link 7 = .ok (.if_icmp .ge 30, 3) := by decide +kernel
theorem dX5_link_10 : decode cX5_link 10 = .ok (.aload_n 1, 1) := by decide +kernel
theorem dX5_link_11 : decode cX5_link 11 = .ok (.iconst 0, 1) := by decide +kernel
theorem dX5_link_12 : decode cX5_link 12 = .ok (.iload_n 3, 1) := by decide +kernel
theorem dX5_link_13 : decode cX5_link 13 = .ok (.invokestatic 42, 3) := by decide +kernel
theorem dX5_link_16 : decode cX5_link 16 = .ok (.ifCond .eq 15, 3) := by decide +kernel
theorem dX5_link_19 : decode cX5_link 19 = .ok (.aload_n 0, 1) := by decide +kernel
theorem dX5_link_20 : decode cX5_link 20 = .ok (.getfield 15, 3) := by decide +kernel
theorem dX5_link_23 : decode cX5_link 23 = .ok (.iload_n 3, 1) := by decide +kernel
theorem dX5_link_24 : decode cX5_link 24 = .ok (.bipush 7, 2) := by decide +kernel
theorem dX5_link_26 : decode cX5_link 26 = .ok (.imul, 1) := by decide +kernel
theorem dX5_link_27 : decode cX5_link 27 = .ok (.aload_n 2, 1) := by decide +kernel
theorem dX5_link_28 : decode cX5_link 28 = .ok (.invokestatic 46, 3) := by decide +kernel
theorem dX5_link_31 : decode cX5_link 31 = .ok (.iinc 3 1, 3) := by decide +kernel
theorem dX5_link_34 : decode cX5_link 34 = .ok (.goto (-32), 3) := by decide +kernel
theorem dX5_link_37 : decode cX5_link 37 = .ok (.return_, 1) := by decide +kernel
