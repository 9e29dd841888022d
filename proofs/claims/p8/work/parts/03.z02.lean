theorem dX2_init_0 : decode cX2_init 0 = .ok (.aload_n 0, 1) := by decide +kernel
theorem dX2_init_1 : decode cX2_init 1 = .ok (.invokespecial 3, 3) := by decide +kernel
theorem dX2_init_4 : decode cX2_init 4 = .ok (.aload_n 0, 1) := by decide +kernel
theorem dX2_init_5 : decode cX2_init 5 = .ok (.bipush 7, 2) := by decide +kernel
theorem dX2_init_7 : decode cX2_init 7 = .ok (.newarray .long, 2) := by decide +kernel
theorem dX2_init_9 : decode cX2_init 9 = .ok (.putfield 9, 3) := by decide +kernel
theorem dX2_init_12 : decode cX2_init 12 = .ok (.aload_n 0, 1) := by decide +kernel
theorem dX2_init_13 : decode cX2_init 13 = .ok (.bipush 7, 2) := by decide +kernel
theorem dX2_init_15 : decode cX2_init 15 = .ok (.newarray .long, 2) := by decide +kernel
theorem dX2_init_17 : decode cX2_init 17 = .ok (.putfield 15, 3) := by decide +kernel
theorem dX2_init_20 : decode cX2_init 20 = .ok (.return_, 1) := by decide +kernel
theorem dX2_becomeNoText_0 : decode cX2_becomeNoText 0 = .ok (.aload_n 0, 1) := by decide +kernel
theorem dX2_becomeNoText_1 : decode cX2_becomeNoText 1 = .ok (.getfield 9, 3) := by decide +kernel
theorem dX2_becomeNoText_4 : decode cX2_becomeNoText 4 = .ok (.lconst 0, 1) := by decide +kernel
theorem dX2_becomeNoText_5 : decode cX2_becomeNoText 5 = .ok (.invokestatic 18, 3) := by decide +kernel
theorem dX2_becomeNoText_8 : decode cX2_becomeNoText 8 = .ok (.aload_n 0, 1) := by decide +kernel
theorem dX2_becomeNoText_9 : decode cX2_becomeNoText 9 = .ok (.getfield 15, 3) := by decide +kernel
theorem dX2_becomeNoText_12 : decode cX2_becomeNoText 12 = .ok (.lconst 0, 1) := by decide +kernel
theorem dX2_becomeNoText_13 : decode cX2_becomeNoText 13 = .ok (.invokestatic 18, 3) := by decide +kernel
theorem dX2_becomeNoText_16 : decode cX2_becomeNoText 16 = .ok (.aload_n 0, 1) := by decide +kernel
theorem dX2_becomeNoText_17 : decode cX2_becomeNoText 17 = .ok (.iconst 0, 1) := by decide +kernel
theorem dX2_becomeNoText_18 : decode cX2_becomeNoText 18 = .ok (.putfield 24, 3) := by decide +kernel
theorem dX2_becomeNoText_21 : decode cX2_becomeNoText 21 = .ok (.return_, 1) := by decide +kernel
theorem dX2_becomeEmptyText_0 : decode cX2_becomeEmptyText 0 = .ok (.aload_n 0, 1) := by decide +kernel
theorem dX2_becomeEmptyText_1 : decode cX2_becomeEmptyText 1 = .ok (.invokevirtual 28, 3) := by decide +kernel
theorem dX2_becomeEmptyText_4 : decode cX2_becomeEmptyText 4 = .ok (.aload_n 0, 1) := by decide +kernel
theorem dX2_becomeEmptyText_5 : decode cX2_becomeEmptyText 5 = .ok (.iconst 1, 1) := by decide +kernel
theorem dX2_becomeEmptyText_6 : decode cX2_becomeEmptyText 6 = .ok (.putfield 24, 3) := by decide +kernel
theorem dX2_becomeEmptyText_9 : decode cX2_becomeEmptyText 9 = .ok (.return_, 1) := by decide +kernel
theorem dX2_becomePlace_0 : decode cX2_becomePlace 0 = .ok (.aload_n 0, 1) := by decide +kernel
theorem dX2_becomePlace_1 : decode cX2_becomePlace 1 = .ok (.invokevirtual 28, 3) := by decide +kernel
theorem dX2_becomePlace_4 : decode cX2_becomePlace 4 = .ok (.aload_n 0, 1) := by decide +kernel
theorem dX2_becomePlace_5 : decode cX2_becomePlace 5 = .ok (.getfield 9, 3) := by decide +kernel
theorem dX2_becomePlace_8 : decode cX2_becomePlace 8 = .ok (.iconst 0, 1) := by decide +kernel
theorem dX2_becomePlace_9 : decode cX2_becomePlace 9 = .ok (.iload_n 1, 1) := by decide +kernel
theorem dX2_becomePlace_10 : decode cX2_becomePlace 10 = .ok (.invokestatic 31, 3) := by decide +kernel
theorem dX2_becomePlace_13 : decode cX2_becomePlace 13 = .ok (.aload_n 0, 1) := by decide +kernel
theorem dX2_becomePlace_14 : decode cX2_becomePlace 14 = .ok (.getfield 15, 3) := by decide +kernel
theorem dX2_becomePlace_17 : decode cX2_becomePlace 17 = .ok (.iconst 0, 1) := by decide +kernel
theorem dX2_becomePlace_18 : decode cX2_becomePlace 18 = .ok (.iload_n 1, 1) := by decide +kernel
theorem dX2_becomePlace_19 : decode cX2_becomePlace 19 = .ok (.invokestatic 31, 3) := by decide +kernel
theorem dX2_becomePlace_22 : decode cX2_becomePlace 22 = .ok (.return_, 1) := by decide +kernel
theorem dX2_become_0 : decode cX2_become 0 = .ok (.aload_n 1, 1) := by decide +kernel
theorem dX2_become_1 : decode cX2_become 1 = .ok (.getfield 9, 3) := by decide +kernel
theorem dX2_become_4 : decode cX2_become 4 = .ok (.iconst 0, 1) := by decide +kernel
theorem dX2_become_5 : decode cX2_become 5 = .ok (.aload_n 0, 1) := by decide +kernel
theorem dX2_become_6 : decode cX2_become 6 = .ok (.getfield 9, 3) := by decide +kernel
theorem dX2_become_9 : decode cX2_become 9 = .ok (.iconst 0, 1) := by decide +kernel
theorem dX2_become_10 : decode cX2_become 10 = .ok (.bipush 7, 2) := by decide +kernel
theorem dX2_become_12 : decode cX2_become 12 = .ok (.invokestatic 35, 3) := by decide +kernel
theorem dX2_become_15 : decode cX2_become 15 = .ok (.aload_n 1, 1) := by decide +kernel
theorem dX2_become_16 : decode cX2_become 16 = .ok (.getfield 15, 3) := by decide +kernel
theorem dX2_become_19 : decode cX2_become 19 = .ok (.iconst 0, 1) := by decide +kernel
theorem dX2_become_20 : decode cX2_become 20 = .ok (.aload_n 0, 1) := by decide +kernel
theorem dX2_become_21 : decode cX2_become 21 = .ok (.getfield 15, 3) := by decide +kernel
theorem dX2_become_24 : decode cX2_become 24 = .ok (.iconst 0, 1) := by decide +kernel
theorem dX2_become_25 : decode cX2_become 25 = .ok (.bipush 7, 2) := by decide +kernel
theorem dX2_become_27 : decode cX2_become 27 = .ok (.invokestatic 35, 3) := by decide +kernel
theorem dX2_become_30 : decode cX2_become 30 = .ok (.aload_n 0, 1) := by decide +kernel
theorem dX2_become_31 : decode cX2_become 31 = .ok (.aload_n 1, 1) := by decide +kernel
theorem dX2_become_32 : decode cX2_become 32 = .ok (.getfield 24, 3) := by decide +kernel
theorem dX2_become_35 : decode cX2_become 35 = .ok (.putfield 24, 3) := by decide +kernel
theorem dX2_become_38 : decode cX2_become 38 = .ok (.return_, 1) := by decide +kernel
theorem dX2_addChoice_0 : decode cX2_addChoice 0 = .ok (.aload_n 0, 1) := by decide +kernel
theorem dX2_addChoice_1 : decode cX2_addChoice 1 = .ok (.getfield 9, 3) := by decide +kernel
theorem dX2_addChoice_4 : decode cX2_addChoice 4 = .ok (.iconst 0, 1) := by decide +kernel
theorem dX2_addChoice_5 : decode cX2_addChoice 5 = .ok (.aload_n 1, 1) := by decide +kernel
theorem dX2_addChoice_6 : decode cX2_addChoice 6 = .ok (.getfield 9, 3) := by decide +kernel
theorem dX2_addChoice_9 : decode cX2_addChoice 9 = .ok (.invokestatic 41, 3) := by decide +kernel
theorem dX2_addChoice_12 : decode cX2_addChoice 12 = .ok (.aload_n 0, 1) := by decide +kernel
theorem dX2_addChoice_13 : decode cX2_addChoice 13 = .ok (.getfield 15, 3) := by decide +kernel
theorem dX2_addChoice_16 : decode cX2_addChoice 16 = .ok (.iconst 0, 1) := by decide +kernel
theorem dX2_addChoice_17 : decode cX2_addChoice 17 = .ok (.aload_n 1, 1) := by decide +kernel
theorem dX2_addChoice_18 : decode cX2_addChoice 18 = .ok (.getfield 15, 3) := by decide +kernel
theorem dX2_addChoice_21 : decode cX2_addChoice 21 = .ok (.invokestatic 41, 3) := by decide +kernel
theorem dX2_addChoice_24 : decode cX2_addChoice 24 = .ok (.aload_n 0, 1) := by decide +kernel
theorem dX2_addChoice_25 : decode cX2_addChoice 25 = .ok (.aload_n 0, 1) := by decide +kernel
theorem dX2_addChoice_26 : decode cX2_addChoice 26 = .ok (.getfield 24, 3) := by decide +kernel
theorem dX2_addChoice_29 : decode cX2_addChoice 29 = .ok (.ifCond .ne 10, 3) := by decide +kernel
theorem dX2_addChoice_32 : decode cX2_addChoice 32 = .ok (.aload_n 1, 1) := by decide +kernel
theorem dX2_addChoice_33 : decode cX2_addChoice 33 = .ok (.getfield 24, 3) := by decide +kernel
theorem dX2_addChoice_36 : decode cX2_addChoice 36 = .ok (.ifCond .eq 7, 3) := by decide +kernel
theorem dX2_addChoice_39 : decode cX2_addChoice 39 = .ok (.iconst 1, 1) := by decide +kernel
theorem dX2_addChoice_40 : decode cX2_addChoice 40 = .ok (.goto 4, 3) := by decide +kernel
theorem dX2_addChoice_43 : decode cX2_addChoice 43 = .ok (.iconst 0, 1) := by decide +kernel
theorem dX2_addChoice_44 : decode cX2_addChoice 44 = .ok (.putfield 24, 3) := by decide +kernel
theorem dX2_addChoice_47 : decode cX2_addChoice 47 = .ok (.return_, 1) := by decide +kernel
theorem dX2_append_0 : decode cX2_append 0 = .ok (.aload_n 0, 1) := by decide +kernel
theorem dX2_append_1 : decode cX2_append 1 = .ok (.getfield 24, 3) := by decide +kernel
theorem dX2_append_4 : decode cX2_append 4 = .ok (.ifCond .eq 15, 3) := by decide +kernel
theorem dX2_append_7 : decode cX2_append 7 = .ok (.aload_n 0, 1) := by decide +kernel
theorem dX2_append_8 : decode cX2_append 8 = .ok (.getfield 9, 3) := by decide +kernel
theorem dX2_append_11 : decode cX2_append 11 = .ok (.iconst 0, 1) := by decide +kernel
theorem dX2_append_12 : decode cX2_append 12 = .ok (.aload_n 1, 1) := by decide +kernel
theorem dX2_append_13 : decode cX2_append 13 = .ok (.getfield 9, 3) := by decide +kernel
theorem dX2_append_16 : decode cX2_append 16 = .ok (.invokestatic 41, 3) := by decide +kernel
theorem dX2_append_19 : decode cX2_append 19 = .ok (.aload_n 1, 1) := by decide +kernel
theorem dX2_append_20 : decode cX2_append 20 = .ok (.getfield 24, 3) := by decide +kernel
theorem dX2_append_23 : decode cX2_append 23 = .ok (.ifCond .ne 11, 3) := by decide +kernel
theorem dX2_append_26 : decode cX2_append 26 = .ok (.aload_n 0, 1) := by decide +kernel
theorem dX2_append_27 : decode cX2_append 27 = .ok (.getfield 15, 3) := by decide +kernel
theorem dX2_append_30 : decode cX2_append 30 = .ok (.lconst 0, 1) := by decide +kernel
theorem dX2_append_31 : decode cX2_append 31 = .ok (.invokestatic 18, 3) := by decide +kernel
theorem dX2_append_34 : decode cX2_append 34 = .ok (.aload_n 0, 1) := by decide +kernel
theorem dX2_append_35 : decode cX2_append 35 = .ok (.getfield 15, 3) := by decide +kernel
theorem dX2_append_38 : decode cX2_append 38 = .ok (.iconst 0, 1) := by decide +kernel
theorem dX2_append_39 : decode cX2_append 39 = .ok (.aload_n 1, 1) := by decide +kernel
theorem dX2_append_40 : decode cX2_append 40 = .ok (.getfield 15, 3) := by decide +kernel
theorem dX2_append_43 : decode cX2_append 43 = .ok (.invokestatic 41, 3) := by decide +kernel
theorem dX2_append_46 : decode cX2_append 46 = .ok (.aload_n 0, 1) := by decide +kernel
theorem dX2_append_47 : decode cX2_append 47 = .ok (.aload_n 0, 1) := by decide +kernel
theorem dX2_append_48 : decode cX2_append 48 = .ok (.getfield 24, 3) := by decide +kernel
theorem dX2_append_51 : decode cX2_append 51 = .ok (.ifCond .eq 14, 3) := by decide +kernel
theorem dX2_append_54 : decode cX2_append 54 = .ok (.aload_n 1, 1) := by decide +kernel
theorem dX2_append_55 : decode cX2_append 55 = .ok (.getfield 24, 3) := by decide +kernel
theorem dX2_append_58 : decode cX2_append 58 = .ok (.ifCond .eq 7, 3) := by decide +kernel
theorem dX2_append_61 : decode cX2_append 61 = .ok (.iconst 1, 1) := by decide +kernel
theorem dX2_append_62 : decode cX2_append 62 = .ok (.goto 4, 3) := by decide +kernel
theorem dX2_append_65 : decode cX2_append 65 = .ok (.iconst 0, 1) := by decide +kernel
theorem dX2_append_66 : decode cX2_append 66 = .ok (.putfield 24, 3) := by decide +kernel
theorem dX2_append_69 : decode cX2_append 69 = .ok (.return_, 1) := by decide +kernel
