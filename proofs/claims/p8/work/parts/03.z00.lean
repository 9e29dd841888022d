theorem dX0_init_0 : decode cX0_init 0 = .ok (.aload_n 0, 1) := by decide +kernel
theorem dX0_init_1 : decode cX0_init 1 = .ok (.invokespecial 3, 3) := by decide +kernel
theorem dX0_init_4 : decode cX0_init 4 = .ok (.aload_n 0, 1) := by decide +kernel
theorem dX0_init_5 : decode cX0_init 5 = .ok (.sipush 128, 3) := by decide +kernel
theorem dX0_init_8 : decode cX0_init 8 = .ok (.newarray .int, 2) := by decide +kernel
theorem dX0_init_10 : decode cX0_init 10 = .ok (.putfield 9, 3) := by decide +kernel
theorem dX0_init_13 : decode cX0_init 13 = .ok (.aload_n 0, 1) := by decide +kernel
theorem dX0_init_14 : decode cX0_init 14 = .ok (.sipush 128, 3) := by decide +kernel
theorem dX0_init_17 : decode cX0_init 17 = .ok (.newarray .int, 2) := by decide +kernel
theorem dX0_init_19 : decode cX0_init 19 = .ok (.putfield 15, 3) := by decide +kernel
theorem dX0_init_22 : decode cX0_init 22 = .ok (.aload_n 0, 1) := by decide +kernel
theorem dX0_init_23 : decode cX0_init 23 = .ok (.sipush 201, 3) := by decide +kernel
theorem dX0_init_26 : decode cX0_init 26 = .ok (.newarray .boolean, 2) := by decide +kernel
theorem dX0_init_28 : decode cX0_init 28 = .ok (.putfield 20, 3) := by decide +kernel
theorem dX0_init_31 : decode cX0_init 31 = .ok (.aload_n 0, 1) := by decide +kernel
theorem dX0_init_32 : decode cX0_init 32 = .ok (.iconst 1, 1) := by decide +kernel
theorem dX0_init_33 : decode cX0_init 33 = .ok (.newarray .int, 2) := by decide +kernel
theorem dX0_init_35 : decode cX0_init 35 = .ok (.putfield 24, 3) := by decide +kernel
theorem dX0_init_38 : decode cX0_init 38 = .ok (.aload_n 0, 1) := by decide +kernel
theorem dX0_init_39 : decode cX0_init 39 = .ok (.iconst 1, 1) := by decide +kernel
theorem dX0_init_40 : decode cX0_init 40 = .ok (.putfield 27, 3) := by decide +kernel
theorem dX0_init_43 : decode cX0_init 43 = .ok (.aload_n 0, 1) := by decide +kernel
theorem dX0_init_44 : decode cX0_init 44 = .ok (.iconst 1, 1) := by decide +kernel
theorem dX0_init_45 : decode cX0_init 45 = .ok (.putfield 31, 3) := by decide +kernel
theorem dX0_init_48 : decode cX0_init 48 = .ok (.aload_n 0, 1) := by decide +kernel
theorem dX0_init_49 : decode cX0_init 49 = .ok (.iconst 0, 1) := by decide +kernel
theorem dX0_init_50 : decode cX0_init 50 = .ok (.putfield 34, 3) := by decide +kernel
theorem dX0_init_53 : decode cX0_init 53 = .ok (.aload_n 0, 1) := by decide +kernel
theorem dX0_init_54 : decode cX0_init 54 = .ok (.iconst 1, 1) := by decide +kernel
theorem dX0_init_55 : decode cX0_init 55 = .ok (.putfield 37, 3) := by decide +kernel
theorem dX0_init_58 : decode cX0_init 58 = .ok (.aload_n 0, 1) := by decide +kernel
theorem dX0_init_59 : decode cX0_init 59 = .ok (.getfield 15, 3) := by decide +kernel
theorem dX0_init_62 : decode cX0_init 62 = .ok (.iconst 0, 1) := by decide +kernel
theorem dX0_init_63 : decode cX0_init 63 = .ok (.sipush 128, 3) := by decide +kernel
theorem dX0_init_66 : decode cX0_init 66 = .ok (.iastore, 1) := by decide +kernel
theorem dX0_init_67 : decode cX0_init 67 = .ok (.return_, 1) := by decide +kernel
theorem dX0_reshape_0 : decode cX0_reshape 0 = .ok (.aload_n 1, 1) := by decide +kernel
theorem dX0_reshape_1 : decode cX0_reshape 1 = .ok (.getfield 41, 3) := by decide +kernel
theorem dX0_reshape_4 : decode cX0_reshape 4 = .ok (.iconst 0, 1) := by decide +kernel
theorem dX0_reshape_5 : decode cX0_reshape 5 = .ok (.aload_n 0, 1) := by decide +kernel
theorem dX0_reshape_6 : decode cX0_reshape 6 = .ok (.getfield 9, 3) := by decide +kernel
theorem dX0_reshape_9 : decode cX0_reshape 9 = .ok (.iconst 0, 1) := by decide +kernel
theorem dX0_reshape_10 : decode cX0_reshape 10 = .ok (.sipush 128, 3) := by decide +kernel
theorem dX0_reshape_13 : decode cX0_reshape 13 = .ok (.invokestatic 44, 3) := by decide +kernel
theorem dX0_reshape_16 : decode cX0_reshape 16 = .ok (.aload_n 1, 1) := by decide +kernel
theorem dX0_reshape_17 : decode cX0_reshape 17 = .ok (.getfield 50, 3) := by decide +kernel
theorem dX0_reshape_20 : decode cX0_reshape 20 = .ok (.iconst 0, 1) := by decide +kernel
theorem dX0_reshape_21 : decode cX0_reshape 21 = .ok (.aload_n 0, 1) := by decide +kernel
theorem dX0_reshape_22 : decode cX0_reshape 22 = .ok (.getfield 15, 3) := by decide +kernel
theorem dX0_reshape_25 : decode cX0_reshape 25 = .ok (.iconst 0, 1) := by decide +kernel
theorem dX0_reshape_26 : decode cX0_reshape 26 = .ok (.sipush 128, 3) := by decide +kernel
theorem dX0_reshape_29 : decode cX0_reshape 29 = .ok (.invokestatic 44, 3) := by decide +kernel
theorem dX0_reshape_32 : decode cX0_reshape 32 = .ok (.aload_n 0, 1) := by decide +kernel
theorem dX0_reshape_33 : decode cX0_reshape 33 = .ok (.aload_n 1, 1) := by decide +kernel
theorem dX0_reshape_34 : decode cX0_reshape 34 = .ok (.getfield 51, 3) := by decide +kernel
theorem dX0_reshape_37 : decode cX0_reshape 37 = .ok (.putfield 27, 3) := by decide +kernel
theorem dX0_reshape_40 : decode cX0_reshape 40 = .ok (.aload_n 0, 1) := by decide +kernel
theorem dX0_reshape_41 : decode cX0_reshape 41 = .ok (.iload_n 2, 1) := by decide +kernel
theorem dX0_reshape_42 : decode cX0_reshape 42 = .ok (.putfield 31, 3) := by decide +kernel
theorem dX0_reshape_45 : decode cX0_reshape 45 = .ok (.aload_n 0, 1) := by decide +kernel
theorem dX0_reshape_46 : decode cX0_reshape 46 = .ok (.aload_n 0, 1) := by decide +kernel
theorem dX0_reshape_47 : decode cX0_reshape 47 = .ok (.getfield 31, 3) := by decide +kernel
theorem dX0_reshape_50 : decode cX0_reshape 50 = .ok (.aload_n 0, 1) := by decide +kernel
theorem dX0_reshape_51 : decode cX0_reshape 51 = .ok (.getfield 27, 3) := by decide +kernel
theorem dX0_reshape_54 : decode cX0_reshape 54 = .ok (.imul, 1) := by decide +kernel
theorem dX0_reshape_55 : decode cX0_reshape 55 = .ok (.aload_n 0, 1) := by decide +kernel
theorem dX0_reshape_56 : decode cX0_reshape 56 = .ok (.getfield 24, 3) := by decide +kernel
theorem dX0_reshape_59 : decode cX0_reshape 59 = .ok (.invokestatic 54, 3) := by decide +kernel
theorem dX0_reshape_62 : decode cX0_reshape 62 = .ok (.putfield 24, 3) := by decide +kernel
theorem dX0_reshape_65 : decode cX0_reshape 65 = .ok (.return_, 1) := by decide +kernel
theorem dX0_liveStates_0 : decode cX0_liveStates 0 = .ok (.aload_n 0, 1) := by decide +kernel
theorem dX0_liveStates_1 : decode cX0_liveStates 1 = .ok (.getfield 31, 3) := by decide +kernel
theorem dX0_liveStates_4 : decode cX0_liveStates 4 = .ok (.iconst 1, 1) := by decide +kernel
theorem dX0_liveStates_5 : decode cX0_liveStates 5 = .ok (.isub, 1) := by decide +kernel
theorem dX0_liveStates_6 : decode cX0_liveStates 6 = .ok (.ireturn, 1) := by decide +kernel
theorem dX0_stepOf_0 : decode cX0_stepOf 0 = .ok (.aload_n 0, 1) := by decide +kernel
theorem dX0_stepOf_1 : decode cX0_stepOf 1 = .ok (.getfield 24, 3) := by decide +kernel
theorem dX0_stepOf_4 : decode cX0_stepOf 4 = .ok (.iload_n 1, 1) := by decide +kernel
theorem dX0_stepOf_5 : decode cX0_stepOf 5 = .ok (.aload_n 0, 1) := by decide +kernel
theorem dX0_stepOf_6 : decode cX0_stepOf 6 = .ok (.getfield 27, 3) := by decide +kernel
theorem dX0_stepOf_9 : decode cX0_stepOf 9 = .ok (.imul, 1) := by decide +kernel
theorem dX0_stepOf_10 : decode cX0_stepOf 10 = .ok (.aload_n 0, 1) := by decide +kernel
theorem dX0_stepOf_11 : decode cX0_stepOf 11 = .ok (.getfield 9, 3) := by decide +kernel
theorem dX0_stepOf_14 : decode cX0_stepOf 14 = .ok (.iload_n 2, 1) := by decide +kernel
theorem dX0_stepOf_15 : decode cX0_stepOf 15 = .ok (.iaload, 1) := by decide +kernel
theorem dX0_stepOf_16 : decode cX0_stepOf 16 = .ok (.iadd, 1) := by decide +kernel
theorem dX0_stepOf_17 : decode cX0_stepOf 17 = .ok (.iaload, 1) := by decide +kernel
theorem dX0_stepOf_18 : decode cX0_stepOf 18 = .ok (.ireturn, 1) := by decide +kernel
theorem dX0_hasText_0 : decode cX0_hasText 0 = .ok (.aload_n 1, 1) := by decide +kernel
theorem dX0_hasText_1 : decode cX0_hasText 1 = .ok (.getfield 58, 3) := by decide +kernel
theorem dX0_hasText_4 : decode cX0_hasText 4 = .ok (.ifCond .ne 8, 3) := by decide +kernel
theorem dX0_hasText_7 : decode cX0_hasText 7 = .ok (.aload_n 0, 1) := by decide +kernel
theorem dX0_hasText_8 : decode cX0_hasText 8 = .ok (.getfield 37, 3) := by decide +kernel
theorem dX0_hasText_11 : decode cX0_hasText 11 = .ok (.ireturn, 1) := by decide +kernel
theorem dX0_hasText_12 : decode cX0_hasText 12 = .ok (.aload_n 0, 1) := by decide +kernel
theorem dX0_hasText_13 : decode cX0_hasText 13 = .ok (.getfield 34, 3) := by decide +kernel
theorem dX0_hasText_16 : decode cX0_hasText 16 = .ok (.istore_n 2, 1) := by decide +kernel
theorem dX0_hasText_17 : decode cX0_hasText 17 = .ok (.iconst 0, 1) := by decide +kernel
theorem dX0_hasText_18 : decode cX0_hasText 18 = .ok (.istore_n 3, 1) := by decide +kernel
theorem dX0_hasText_19 : decode cX0_hasText 19 = .ok (.iload_n 3, 1) := by decide +kernel
theorem dX0_hasText_20 : decode cX0_hasText 20 = .ok (.aload_n 1, 1) := by decide +kernel
theorem dX0_hasText_21 : decode cX0_hasText 21 = .ok (.getfield 58, 3) := by decide +kernel
theorem dX0_hasText_24 : decode cX0_hasText 24 = .ok (.if_icmp .ge 39, 3) := by decide +kernel
theorem dX0_hasText_27 : decode cX0_hasText 27 = .ok (.aload_n 1, 1) := by decide +kernel
theorem dX0_hasText_28 : decode cX0_hasText 28 = .ok (.iload_n 3, 1) := by decide +kernel
theorem dX0_hasText_29 : decode cX0_hasText 29 = .ok (.invokevirtual 63, 3) := by decide +kernel
theorem dX0_hasText_32 : decode cX0_hasText 32 = .ok (.istore 4, 2) := by decide +kernel
theorem dX0_hasText_34 : decode cX0_hasText 34 = .ok (.iload 4, 2) := by decide +kernel
theorem dX0_hasText_36 : decode cX0_hasText 36 = .ok (.ifCond .lt 11, 3) := by decide +kernel
theorem dX0_hasText_39 : decode cX0_hasText 39 = .ok (.iload 4, 2) := by decide +kernel
theorem dX0_hasText_41 : decode cX0_hasText 41 = .ok (.sipush 128, 3) := by decide +kernel
theorem dX0_hasText_44 : decode cX0_hasText 44 = .ok (.if_icmp .lt 5, 3) := by decide +kernel
theorem dX0_hasText_47 : decode cX0_hasText 47 = .ok (.iconst 0, 1) := by decide +kernel
theorem dX0_hasText_48 : decode cX0_hasText 48 = .ok (.ireturn, 1) := by decide +kernel
theorem dX0_hasText_49 : decode cX0_hasText 49 = .ok (.aload_n 0, 1) := by decide +kernel
theorem dX0_hasText_50 : decode cX0_hasText 50 = .ok (.iload_n 2, 1) := by decide +kernel
theorem dX0_hasText_51 : decode cX0_hasText 51 = .ok (.iload 4, 2) := by decide +kernel
theorem dX0_hasText_53 : decode cX0_hasText 53 = .ok (.invokevirtual 67, 3) := by decide +kernel
theorem dX0_hasText_56 : decode cX0_hasText 56 = .ok (.istore_n 2, 1) := by decide +kernel
theorem dX0_hasText_57 : decode cX0_hasText 57 = .ok (.iinc 3 1, 3) := by decide +kernel
theorem dX0_hasText_60 : decode cX0_hasText 60 = .ok (.goto (-41), 3) := by decide +kernel
theorem dX0_hasText_63 : decode cX0_hasText 63 = .ok (.aload_n 0, 1) := by decide +kernel
theorem dX0_hasText_64 : decode cX0_hasText 64 = .ok (.getfield 20, 3) := by decide +kernel
theorem dX0_hasText_67 : decode cX0_hasText 67 = .ok (.iload_n 2, 1) := by decide +kernel
theorem dX0_hasText_68 : decode cX0_hasText 68 = .ok (.baload, 1) := by decide +kernel
theorem dX0_hasText_69 : decode cX0_hasText 69 = .ok (.ireturn, 1) := by decide +kernel
