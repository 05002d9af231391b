theorem dX0_init_0 : decode cX0_init 0 = .ok (.aload_n 0, 1) := by decide +kernel
theorem dX0_init_1 : decode cX0_init 1 = .ok (.invokespecial 3, 3) := by decide +kernel
theorem dX0_init_4 : decode cX0_init 4 = .ok (.aload_n 0, 1) := by decide +kernel
theorem dX0_init_5 : decode cX0_init 5 = .ok (.iconst 0, 1) := by decide +kernel
theorem dX0_init_6 : decode cX0_init 6 = .ok (.putfield 9, 3) := by decide +kernel
theorem dX0_init_9 : decode cX0_init 9 = .ok (.aload_n 0, 1) := by decide +kernel
theorem dX0_init_10 : decode cX0_init 10 = .ok (.bipush 120, 2) := by decide +kernel
theorem dX0_init_12 : decode cX0_init 12 = .ok (.newarray .int, 2) := by decide +kernel
theorem dX0_init_14 : decode cX0_init 14 = .ok (.putfield 15, 3) := by decide +kernel
theorem dX0_init_17 : decode cX0_init 17 = .ok (.aload_n 0, 1) := by decide +kernel
theorem dX0_init_18 : decode cX0_init 18 = .ok (.bipush 120, 2) := by decide +kernel
theorem dX0_init_20 : decode cX0_init 20 = .ok (.newarray .int, 2) := by decide +kernel
theorem dX0_init_22 : decode cX0_init 22 = .ok (.putfield 19, 3) := by decide +kernel
theorem dX0_init_25 : decode cX0_init 25 = .ok (.return_, 1) := by decide +kernel
theorem dX0_size_0 : decode cX0_size 0 = .ok (.aload_n 0, 1) := by decide +kernel
theorem dX0_size_1 : decode cX0_size 1 = .ok (.getfield 9, 3) := by decide +kernel
theorem dX0_size_4 : decode cX0_size 4 = .ok (.ireturn, 1) := by decide +kernel
theorem dX0_append_0 : decode cX0_append 0 = .ok (.aload_n 0, 1) := by decide +kernel
theorem dX0_append_1 : decode cX0_append 1 = .ok (.getfield 9, 3) := by decide +kernel
theorem dX0_append_4 : decode cX0_append 4 = .ok (.iconst 4, 1) := by decide +kernel
theorem dX0_append_5 : decode cX0_append 5 = .ok (.if_icmp .lt 5, 3) := by decide +kernel
theorem dX0_append_8 : decode cX0_append 8 = .ok (.iconst (-1), 1) := by decide +kernel
theorem dX0_append_9 : decode cX0_append 9 = .ok (.ireturn, 1) := by decide +kernel
theorem dX0_append_10 : decode cX0_append 10 = .ok (.aload_n 0, 1) := by decide +kernel
theorem dX0_append_11 : decode cX0_append 11 = .ok (.dup, 1) := by decide +kernel
theorem dX0_append_12 : decode cX0_append 12 = .ok (.getfield 9, 3) := by decide +kernel
theorem dX0_append_15 : decode cX0_append 15 = .ok (.iconst 1, 1) := by decide +kernel
theorem dX0_append_16 : decode cX0_append 16 = .ok (.iadd, 1) := by decide +kernel
theorem dX0_append_17 : decode cX0_append 17 = .ok (.putfield 9, 3) := by decide +kernel
theorem dX0_append_20 : decode cX0_append 20 = .ok (.aload_n 0, 1) := by decide +kernel
theorem dX0_append_21 : decode cX0_append 21 = .ok (.getfield 9, 3) := by decide +kernel
theorem dX0_append_24 : decode cX0_append 24 = .ok (.iconst 1, 1) := by decide +kernel
theorem dX0_append_25 : decode cX0_append 25 = .ok (.isub, 1) := by decide +kernel
theorem dX0_append_26 : decode cX0_append 26 = .ok (.ireturn, 1) := by decide +kernel
theorem dX0_knows_0 : decode cX0_knows 0 = .ok (.aload_n 0, 1) := by decide +kernel
theorem dX0_knows_1 : decode cX0_knows 1 = .ok (.iload_n 1, 1) := by decide +kernel
theorem dX0_knows_2 : decode cX0_knows 2 = .ok (.iload_n 2, 1) := by decide +kernel
theorem dX0_knows_3 : decode cX0_knows 3 = .ok (.invokevirtual 22, 3) := by decide +kernel
theorem dX0_knows_6 : decode cX0_knows 6 = .ok (.ifCond .le 7, 3) := by decide +kernel
theorem dX0_knows_9 : decode cX0_knows 9 = .ok (.iconst 1, 1) := by decide +kernel
theorem dX0_knows_10 : decode cX0_knows 10 = .ok (.goto 4, 3) := by decide +kernel
theorem dX0_knows_13 : decode cX0_knows 13 = .ok (.iconst 0, 1) := by decide +kernel
theorem dX0_knows_14 : decode cX0_knows 14 = .ok (.ireturn, 1) := by decide +kernel
theorem dX0_versionCount_0 : decode cX0_versionCount 0 = .ok (.aload_n 0, 1) := by decide +kernel
theorem dX0_versionCount_1 : decode cX0_versionCount 1 = .ok (.getfield 15, 3) := by decide +kernel
theorem dX0_versionCount_4 : decode cX0_versionCount 4 = .ok (.iload_n 1, 1) := by decide +kernel
theorem dX0_versionCount_5 : decode cX0_versionCount 5 = .ok (.bipush 30, 2) := by decide +kernel
theorem dX0_versionCount_7 : decode cX0_versionCount 7 = .ok (.imul, 1) := by decide +kernel
theorem dX0_versionCount_8 : decode cX0_versionCount 8 = .ok (.iload_n 2, 1) := by decide +kernel
theorem dX0_versionCount_9 : decode cX0_versionCount 9 = .ok (.iadd, 1) := by decide +kernel
theorem dX0_versionCount_10 : decode cX0_versionCount 10 = .ok (.iaload, 1) := by decide +kernel
theorem dX0_versionCount_11 : decode cX0_versionCount 11 = .ok (.ireturn, 1) := by decide +kernel
theorem dX0_major_0 : decode cX0_major 0 = .ok (.aload_n 0, 1) := by decide +kernel
theorem dX0_major_1 : decode cX0_major 1 = .ok (.getfield 19, 3) := by decide +kernel
theorem dX0_major_4 : decode cX0_major 4 = .ok (.iload_n 1, 1) := by decide +kernel
theorem dX0_major_5 : decode cX0_major 5 = .ok (.bipush 30, 2) := by decide +kernel
theorem dX0_major_7 : decode cX0_major 7 = .ok (.imul, 1) := by decide +kernel
theorem dX0_major_8 : decode cX0_major 8 = .ok (.iload_n 2, 1) := by decide +kernel
theorem dX0_major_9 : decode cX0_major 9 = .ok (.iadd, 1) := by decide +kernel
theorem dX0_major_10 : decode cX0_major 10 = .ok (.iaload, 1) := by decide +kernel
theorem dX0_major_11 : decode cX0_major 11 = .ok (.ireturn, 1) := by decide +kernel
theorem dX0_learn_0 : decode cX0_learn 0 = .ok (.aload_n 0, 1) := by decide +kernel
theorem dX0_learn_1 : decode cX0_learn 1 = .ok (.getfield 15, 3) := by decide +kernel
theorem dX0_learn_4 : decode cX0_learn 4 = .ok (.iload_n 1, 1) := by decide +kernel
theorem dX0_learn_5 : decode cX0_learn 5 = .ok (.bipush 30, 2) := by decide +kernel
theorem dX0_learn_7 : decode cX0_learn 7 = .ok (.imul, 1) := by decide +kernel
theorem dX0_learn_8 : decode cX0_learn 8 = .ok (.iload_n 2, 1) := by decide +kernel
theorem dX0_learn_9 : decode cX0_learn 9 = .ok (.iadd, 1) := by decide +kernel
theorem dX0_learn_10 : decode cX0_learn 10 = .ok (.iload_n 3, 1) := by decide +kernel
theorem dX0_learn_11 : decode cX0_learn 11 = .ok (.iastore, 1) := by decide +kernel
theorem dX0_learn_12 : decode cX0_learn 12 = .ok (.aload_n 0, 1) := by decide +kernel
theorem dX0_learn_13 : decode cX0_learn 13 = .ok (.getfield 19, 3) := by decide +kernel
theorem dX0_learn_16 : decode cX0_learn 16 = .ok (.iload_n 1, 1) := by decide +kernel
theorem dX0_learn_17 : decode cX0_learn 17 = .ok (.bipush 30, 2) := by decide +kernel
theorem dX0_learn_19 : decode cX0_learn 19 = .ok (.imul, 1) := by decide +kernel
theorem dX0_learn_20 : decode cX0_learn 20 = .ok (.iload_n 2, 1) := by decide +kernel
theorem dX0_learn_21 : decode cX0_learn 21 = .ok (.iadd, 1) := by decide +kernel
theorem dX0_learn_22 : decode cX0_learn 22 = .ok (.iload 4, 2) := by decide +kernel
theorem dX0_learn_24 : decode cX0_learn 24 = .ok (.iastore, 1) := by decide +kernel
theorem dX0_learn_25 : decode cX0_learn 25 = .ok (.return_, 1) := by decide +kernel
theorem dX1_init_0 : decode cX1_init 0 = .ok (.aload_n 0, 1) := by decide +kernel
theorem dX1_init_1 : decode cX1_init 1 = .ok (.invokespecial 3, 3) := by decide +kernel
theorem dX1_init_4 : decode cX1_init 4 = .ok (.aload_n 0, 1) := by decide +kernel
theorem dX1_init_5 : decode cX1_init 5 = .ok (.iconst 0, 1) := by decide +kernel
theorem dX1_init_6 : decode cX1_init 6 = .ok (.putfield 9, 3) := by decide +kernel
theorem dX1_init_9 : decode cX1_init 9 = .ok (.aload_n 0, 1) := by decide +kernel
theorem dX1_init_10 : decode cX1_init 10 = .ok (.bipush 30, 2) := by decide +kernel
theorem dX1_init_12 : decode cX1_init 12 = .ok (.newarray .int, 2) := by decide +kernel
theorem dX1_init_14 : decode cX1_init 14 = .ok (.putfield 15, 3) := by decide +kernel
theorem dX1_init_17 : decode cX1_init 17 = .ok (.aload_n 0, 1) := by decide +kernel
theorem dX1_init_18 : decode cX1_init 18 = .ok (.bipush 30, 2) := by decide +kernel
theorem dX1_init_20 : decode cX1_init 20 = .ok (.newarray .int, 2) := by decide +kernel
theorem dX1_init_22 : decode cX1_init 22 = .ok (.putfield 19, 3) := by decide +kernel
theorem dX1_init_25 : decode cX1_init 25 = .ok (.aload_n 0, 1) := by decide +kernel
theorem dX1_init_26 : decode cX1_init 26 = .ok (.bipush 30, 2) := by decide +kernel
theorem dX1_init_28 : decode cX1_init 28 = .ok (.newarray .int, 2) := by decide +kernel
theorem dX1_init_30 : decode cX1_init 30 = .ok (.putfield 22, 3) := by decide +kernel
theorem dX1_init_33 : decode cX1_init 33 = .ok (.aload_n 0, 1) := by decide +kernel
theorem dX1_init_34 : decode cX1_init 34 = .ok (.bipush 30, 2) := by decide +kernel
theorem dX1_init_36 : decode cX1_init 36 = .ok (.newarray .int, 2) := by decide +kernel
theorem dX1_init_38 : decode cX1_init 38 = .ok (.putfield 25, 3) := by decide +kernel
theorem dX1_init_41 : decode cX1_init 41 = .ok (.aload_n 0, 1) := by decide +kernel
theorem dX1_init_42 : decode cX1_init 42 = .ok (.bipush 30, 2) := by decide +kernel
theorem dX1_init_44 : decode cX1_init 44 = .ok (.newarray .int, 2) := by decide +kernel
theorem dX1_init_46 : decode cX1_init 46 = .ok (.putfield 28, 3) := by decide +kernel
theorem dX1_init_49 : decode cX1_init 49 = .ok (.aload_n 0, 1) := by decide +kernel
theorem dX1_init_50 : decode cX1_init 50 = .ok (.bipush 120, 2) := by decide +kernel
theorem dX1_init_52 : decode cX1_init 52 = .ok (.newarray .long, 2) := by decide +kernel
theorem dX1_init_54 : decode cX1_init 54 = .ok (.putfield 31, 3) := by decide +kernel
theorem dX1_init_57 : decode cX1_init 57 = .ok (.aload_n 0, 1) := by decide +kernel
theorem dX1_init_58 : decode cX1_init 58 = .ok (.bipush 30, 2) := by decide +kernel
theorem dX1_init_60 : decode cX1_init 60 = .ok (.newarray .int, 2) := by decide +kernel
theorem dX1_init_62 : decode cX1_init 62 = .ok (.putfield 35, 3) := by decide +kernel
theorem dX1_init_65 : decode cX1_init 65 = .ok (.aload_n 0, 1) := by decide +kernel
theorem dX1_init_66 : decode cX1_init 66 = .ok (.bipush 30, 2) := by decide +kernel
theorem dX1_init_68 : decode cX1_init 68 = .ok (.newarray .int, 2) := by decide +kernel
theorem dX1_init_70 : decode cX1_init 70 = .ok (.putfield 38, 3) := by decide +kernel
theorem dX1_init_73 : decode cX1_init 73 = .ok (.aload_n 0, 1) := by decide +kernel
theorem dX1_init_74 : decode cX1_init 74 = .ok (.sipush 6000, 3) := by decide +kernel
theorem dX1_init_77 : decode cX1_init 77 = .ok (.newarray .int, 2) := by decide +kernel
theorem dX1_init_79 : decode cX1_init 79 = .ok (.putfield 41, 3) := by decide +kernel
theorem dX1_init_82 : decode cX1_init 82 = .ok (.aload_n 0, 1) := by decide +kernel
theorem dX1_init_83 : decode cX1_init 83 = .ok (.sipush 1000, 3) := by decide +kernel
theorem dX1_init_86 : decode cX1_init 86 = .ok (.newarray .int, 2) := by decide +kernel
theorem dX1_init_88 : decode cX1_init 88 = .ok (.putfield 44, 3) := by decide +kernel
theorem dX1_init_91 : decode cX1_init 91 = .ok (.return_, 1) := by decide +kernel
theorem dX1_size_0 : decode cX1_size 0 = .ok (.aload_n 0, 1) := by decide +kernel
theorem dX1_size_1 : decode cX1_size 1 = .ok (.getfield 9, 3) := by decide +kernel
theorem dX1_size_4 : decode cX1_size 4 = .ok (.ireturn, 1) := by decide +kernel
theorem dX1_time_0 : decode cX1_time 0 = .ok (.aload_n 0, 1) := by decide +kernel
theorem dX1_time_1 : decode cX1_time 1 = .ok (.getfield 19, 3) := by decide +kernel
theorem dX1_time_4 : decode cX1_time 4 = .ok (.iload_n 1, 1) := by decide +kernel
theorem dX1_time_5 : decode cX1_time 5 = .ok (.iaload, 1) := by decide +kernel
theorem dX1_time_6 : decode cX1_time 6 = .ok (.ireturn, 1) := by decide +kernel
theorem dX1_tellers_0 : decode cX1_tellers 0 = .ok (.aload_n 0, 1) := by decide +kernel
theorem dX1_tellers_1 : decode cX1_tellers 1 = .ok (.getfield 22, 3) := by decide +kernel
theorem dX1_tellers_4 : decode cX1_tellers 4 = .ok (.iload_n 1, 1) := by decide +kernel
theorem dX1_tellers_5 : decode cX1_tellers 5 = .ok (.iaload, 1) := by decide +kernel
theorem dX1_tellers_6 : decode cX1_tellers 6 = .ok (.ireturn, 1) := by decide +kernel
theorem dX1_versionCount_0 : decode cX1_versionCount 0 = .ok (.aload_n 0, 1) := by decide +kernel
theorem dX1_versionCount_1 : decode cX1_versionCount 1 = .ok (.getfield 25, 3) := by decide +kernel
theorem dX1_versionCount_4 : decode cX1_versionCount 4 = .ok (.iload_n 1, 1) := by decide +kernel
theorem dX1_versionCount_5 : decode cX1_versionCount 5 = .ok (.iaload, 1) := by decide +kernel
theorem dX1_versionCount_6 : decode cX1_versionCount 6 = .ok (.ireturn, 1) := by decide +kernel
theorem dX1_major_0 : decode cX1_major 0 = .ok (.aload_n 0, 1) := by decide +kernel
theorem dX1_major_1 : decode cX1_major 1 = .ok (.getfield 28, 3) := by decide +kernel
theorem dX1_major_4 : decode cX1_major 4 = .ok (.iload_n 1, 1) := by decide +kernel
theorem dX1_major_5 : decode cX1_major 5 = .ok (.iaload, 1) := by decide +kernel
theorem dX1_major_6 : decode cX1_major 6 = .ok (.ireturn, 1) := by decide +kernel
theorem dX1_keepsTitle_0 : decode cX1_keepsTitle 0 = .ok (.aload_n 0, 1) := by decide +kernel
theorem dX1_keepsTitle_1 : decode cX1_keepsTitle 1 = .ok (.getfield 25, 3) := by decide +kernel
theorem dX1_keepsTitle_4 : decode cX1_keepsTitle 4 = .ok (.iload_n 1, 1) := by decide +kernel
theorem dX1_keepsTitle_5 : decode cX1_keepsTitle 5 = .ok (.iaload, 1) := by decide +kernel
theorem dX1_keepsTitle_6 : decode cX1_keepsTitle 6 = .ok (.istore_n 3, 1) := by decide +kernel
theorem dX1_keepsTitle_7 : decode cX1_keepsTitle 7 = .ok (.iload_n 2, 1) := by decide +kernel
theorem dX1_keepsTitle_8 : decode cX1_keepsTitle 8 = .ok (.ifCond .lt 19, 3) := by decide +kernel
theorem dX1_keepsTitle_11 : decode cX1_keepsTitle 11 = .ok (.iload_n 2, 1) := by decide +kernel
theorem dX1_keepsTitle_12 : decode cX1_keepsTitle 12 = .ok (.iload_n 3, 1) := by decide +kernel
theorem dX1_keepsTitle_13 : decode cX1_keepsTitle 13 = .ok (.if_icmp .ge 14, 3) := by decide +kernel
theorem dX1_keepsTitle_16 : decode cX1_keepsTitle 16 = .ok (.iload_n 2, 1) := by decide +kernel
theorem dX1_keepsTitle_17 : decode cX1_keepsTitle 17 = .ok (.iload_n 3, 1) := by decide +kernel
theorem dX1_keepsTitle_18 : decode cX1_keepsTitle 18 = .ok (.iconst 4, 1) := by decide +kernel
theorem dX1_keepsTitle_19 : decode cX1_keepsTitle 19 = .ok (.isub, 1) := by decide +kernel
theorem dX1_keepsTitle_20 : decode cX1_keepsTitle 20 = .ok (.if_icmp .lt 7, 3) := by decide +kernel
theorem dX1_keepsTitle_23 : decode cX1_keepsTitle 23 = .ok (.iconst 1, 1) := by decide +kernel
theorem dX1_keepsTitle_24 : decode cX1_keepsTitle 24 = .ok (.goto 4, 3) := by decide +kernel
theorem dX1_keepsTitle_27 : decode cX1_keepsTitle 27 = .ok (.iconst 0, 1) := by decide +kernel
theorem dX1_keepsTitle_28 : decode cX1_keepsTitle 28 = .ok (.ireturn, 1) := by decide +kernel
theorem dX1_titleAt_0 : decode cX1_titleAt 0 = .ok (.aload_n 0, 1) := by decide +kernel
theorem dX1_titleAt_1 : decode cX1_titleAt 1 = .ok (.getfield 31, 3) := by decide +kernel
theorem dX1_titleAt_4 : decode cX1_titleAt 4 = .ok (.iload_n 1, 1) := by decide +kernel
theorem dX1_titleAt_5 : decode cX1_titleAt 5 = .ok (.iload_n 2, 1) := by decide +kernel
theorem dX1_titleAt_6 : decode cX1_titleAt 6 = .ok (.invokestatic 47, 3) := by decide +kernel
theorem dX1_titleAt_9 : decode cX1_titleAt 9 = .ok (.laload, 1) := by decide +kernel
theorem dX1_titleAt_10 : decode cX1_titleAt 10 = .ok (.lreturn, 1) := by decide +kernel
theorem dX1_latestTitle_0 : decode cX1_latestTitle 0 = .ok (.aload_n 0, 1) := by decide +kernel
theorem dX1_latestTitle_1 : decode cX1_latestTitle 1 = .ok (.iload_n 1, 1) := by decide +kernel
theorem dX1_latestTitle_2 : decode cX1_latestTitle 2 = .ok (.aload_n 0, 1) := by decide +kernel
theorem dX1_latestTitle_3 : decode cX1_latestTitle 3 = .ok (.getfield 25, 3) := by decide +kernel
theorem dX1_latestTitle_6 : decode cX1_latestTitle 6 = .ok (.iload_n 1, 1) := by decide +kernel
theorem dX1_latestTitle_7 : decode cX1_latestTitle 7 = .ok (.iaload, 1) := by decide +kernel
theorem dX1_latestTitle_8 : decode cX1_latestTitle 8 = .ok (.iconst 1, 1) := by decide +kernel
theorem dX1_latestTitle_9 : decode cX1_latestTitle 9 = .ok (.isub, 1) := by decide +kernel
theorem dX1_latestTitle_10 : decode cX1_latestTitle 10 = .ok (.invokevirtual 51, 3) := by decide +kernel
theorem dX1_latestTitle_13 : decode cX1_latestTitle 13 = .ok (.lreturn, 1) := by decide +kernel
theorem dX1_placeOfTitle_0 : decode cX1_placeOfTitle 0 = .ok (.iload_n 0, 1) := by decide +kernel
theorem dX1_placeOfTitle_1 : decode cX1_placeOfTitle 1 = .ok (.iconst 4, 1) := by decide +kernel
theorem dX1_placeOfTitle_2 : decode cX1_placeOfTitle 2 = .ok (.imul, 1) := by decide +kernel
theorem dX1_placeOfTitle_3 : decode cX1_placeOfTitle 3 = .ok (.iload_n 1, 1) := by decide +kernel
theorem dX1_placeOfTitle_4 : decode cX1_placeOfTitle 4 = .ok (.iconst 4, 1) := by decide +kernel
theorem dX1_placeOfTitle_5 : decode cX1_placeOfTitle 5 = .ok (.invokestatic 55, 3) := by decide +kernel
theorem dX1_placeOfTitle_8 : decode cX1_placeOfTitle 8 = .ok (.iadd, 1) := by decide +kernel
theorem dX1_placeOfTitle_9 : decode cX1_placeOfTitle 9 = .ok (.ireturn, 1) := by decide +kernel
theorem dX1_ownerOfPair_0 : decode cX1_ownerOfPair 0 = .ok (.iload_n 1, 1) := by decide +kernel
theorem dX1_ownerOfPair_1 : decode cX1_ownerOfPair 1 = .ok (.ifCond .lt 20, 3) := by decide +kernel
theorem dX1_ownerOfPair_4 : decode cX1_ownerOfPair 4 = .ok (.iload_n 1, 1) := by decide +kernel
theorem dX1_ownerOfPair_5 : decode cX1_ownerOfPair 5 = .ok (.bipush 6, 2) := by decide +kernel
theorem dX1_ownerOfPair_7 : decode cX1_ownerOfPair 7 = .ok (.if_icmp .ge 14, 3) := by decide +kernel
theorem dX1_ownerOfPair_10 : decode cX1_ownerOfPair 10 = .ok (.iload_n 2, 1) := by decide +kernel
theorem dX1_ownerOfPair_11 : decode cX1_ownerOfPair 11 = .ok (.ifCond .lt 10, 3) := by decide +kernel
theorem dX1_ownerOfPair_14 : decode cX1_ownerOfPair 14 = .ok (.iload_n 2, 1) := by decide +kernel
theorem dX1_ownerOfPair_15 : decode cX1_ownerOfPair 15 = .ok (.sipush 1000, 3) := by decide +kernel
theorem dX1_ownerOfPair_18 : decode cX1_ownerOfPair 18 = .ok (.if_icmp .lt 5, 3) := by decide +kernel
theorem dX1_ownerOfPair_21 : decode cX1_ownerOfPair 21 = .ok (.iconst (-1), 1) := by decide +kernel
theorem dX1_ownerOfPair_22 : decode cX1_ownerOfPair 22 = .ok (.ireturn, 1) := by decide +kernel
theorem dX1_ownerOfPair_23 : decode cX1_ownerOfPair 23 = .ok (.aload_n 0, 1) := by decide +kernel
theorem dX1_ownerOfPair_24 : decode cX1_ownerOfPair 24 = .ok (.getfield 41, 3) := by decide +kernel
theorem dX1_ownerOfPair_27 : decode cX1_ownerOfPair 27 = .ok (.iload_n 1, 1) := by decide +kernel
theorem dX1_ownerOfPair_28 : decode cX1_ownerOfPair 28 = .ok (.sipush 1000, 3) := by decide +kernel
theorem dX1_ownerOfPair_31 : decode cX1_ownerOfPair 31 = .ok (.imul, 1) := by decide +kernel
theorem dX1_ownerOfPair_32 : decode cX1_ownerOfPair 32 = .ok (.iload_n 2, 1) := by decide +kernel
theorem dX1_ownerOfPair_33 : decode cX1_ownerOfPair 33 = .ok (.iadd, 1) := by decide +kernel
theorem dX1_ownerOfPair_34 : decode cX1_ownerOfPair 34 = .ok (.iaload, 1) := by decide +kernel
theorem dX1_ownerOfPair_35 : decode cX1_ownerOfPair 35 = .ok (.iconst 1, 1) := by decide +kernel
theorem dX1_ownerOfPair_36 : decode cX1_ownerOfPair 36 = .ok (.isub, 1) := by decide +kernel
theorem dX1_ownerOfPair_37 : decode cX1_ownerOfPair 37 = .ok (.ireturn, 1) := by decide +kernel
theorem dX1_ownerOfLink_0 : decode cX1_ownerOfLink 0 = .ok (.iload_n 1, 1) := by decide +kernel
theorem dX1_ownerOfLink_1 : decode cX1_ownerOfLink 1 = .ok (.ifCond .lt 10, 3) := by decide +kernel
theorem dX1_ownerOfLink_4 : decode cX1_ownerOfLink 4 = .ok (.iload_n 1, 1) := by decide +kernel
theorem dX1_ownerOfLink_5 : decode cX1_ownerOfLink 5 = .ok (.sipush 1000, 3) := by decide +kernel
theorem dX1_ownerOfLink_8 : decode cX1_ownerOfLink 8 = .ok (.if_icmp .lt 5, 3) := by decide +kernel
theorem dX1_ownerOfLink_11 : decode cX1_ownerOfLink 11 = .ok (.iconst (-1), 1) := by decide +kernel
theorem dX1_ownerOfLink_12 : decode cX1_ownerOfLink 12 = .ok (.ireturn, 1) := by decide +kernel
theorem dX1_ownerOfLink_13 : decode cX1_ownerOfLink 13 = .ok (.aload_n 0, 1) := by decide +kernel
theorem dX1_ownerOfLink_14 : decode cX1_ownerOfLink 14 = .ok (.getfield 44, 3) := by decide +kernel
theorem dX1_ownerOfLink_17 : decode cX1_ownerOfLink 17 = .ok (.iload_n 1, 1) := by decide +kernel
theorem dX1_ownerOfLink_18 : decode cX1_ownerOfLink 18 = .ok (.iaload, 1) := by decide +kernel
theorem dX1_ownerOfLink_19 : decode cX1_ownerOfLink 19 = .ok (.iconst 1, 1) := by decide +kernel
theorem dX1_ownerOfLink_20 : decode cX1_ownerOfLink 20 = .ok (.isub, 1) := by decide +kernel
theorem dX1_ownerOfLink_21 : decode cX1_ownerOfLink 21 = .ok (.ireturn, 1) := by decide +kernel
theorem dX1_mostAlike_0 : decode cX1_mostAlike 0 = .ok (.iconst (-1), 1) := by decide +kernel
theorem dX1_mostAlike_1 : decode cX1_mostAlike 1 = .ok (.istore 5, 2) := by decide +kernel
theorem dX1_mostAlike_3 : decode cX1_mostAlike 3 = .ok (.iload 4, 2) := by decide +kernel
theorem dX1_mostAlike_5 : decode cX1_mostAlike 5 = .ok (.iconst 1, 1) := by decide +kernel
theorem dX1_mostAlike_6 : decode cX1_mostAlike 6 = .ok (.isub, 1) := by decide +kernel
theorem dX1_mostAlike_7 : decode cX1_mostAlike 7 = .ok (.istore 6, 2) := by decide +kernel
theorem dX1_mostAlike_9 : decode cX1_mostAlike 9 = .ok (.iconst 0, 1) := by decide +kernel
theorem dX1_mostAlike_10 : decode cX1_mostAlike 10 = .ok (.istore 7, 2) := by decide +kernel
theorem dX1_mostAlike_12 : decode cX1_mostAlike 12 = .ok (.iload 7, 2) := by decide +kernel
theorem dX1_mostAlike_14 : decode cX1_mostAlike 14 = .ok (.aload_n 0, 1) := by decide +kernel
theorem dX1_mostAlike_15 : decode cX1_mostAlike 15 = .ok (.getfield 9, 3) := by decide +kernel
theorem dX1_mostAlike_18 : decode cX1_mostAlike 18 = .ok (.if_icmp .ge 47, 3) := by decide +kernel
theorem dX1_mostAlike_21 : decode cX1_mostAlike 21 = .ok (.lload_n 1, 1) := by decide +kernel
theorem dX1_mostAlike_22 : decode cX1_mostAlike 22 = .ok (.aload_n 0, 1) := by decide +kernel
theorem dX1_mostAlike_23 : decode cX1_mostAlike 23 = .ok (.iload 7, 2) := by decide +kernel
theorem dX1_mostAlike_25 : decode cX1_mostAlike 25 = .ok (.invokevirtual 60, 3) := by decide +kernel
theorem dX1_mostAlike_28 : decode cX1_mostAlike 28 = .ok (.invokestatic 64, 3) := by decide +kernel
theorem dX1_mostAlike_31 : decode cX1_mostAlike 31 = .ok (.istore 8, 2) := by decide +kernel
theorem dX1_mostAlike_33 : decode cX1_mostAlike 33 = .ok (.aload_n 0, 1) := by decide +kernel
theorem dX1_mostAlike_34 : decode cX1_mostAlike 34 = .ok (.getfield 15, 3) := by decide +kernel
theorem dX1_mostAlike_37 : decode cX1_mostAlike 37 = .ok (.iload 7, 2) := by decide +kernel
theorem dX1_mostAlike_39 : decode cX1_mostAlike 39 = .ok (.iaload, 1) := by decide +kernel
theorem dX1_mostAlike_40 : decode cX1_mostAlike 40 = .ok (.iload_n 3, 1) := by decide +kernel
theorem dX1_mostAlike_41 : decode cX1_mostAlike 41 = .ok (.if_icmp .lt 18, 3) := by decide +kernel
theorem dX1_mostAlike_44 : decode cX1_mostAlike 44 = .ok (.iload 8, 2) := by decide +kernel
theorem dX1_mostAlike_46 : decode cX1_mostAlike 46 = .ok (.iload 6, 2) := by decide +kernel
theorem dX1_mostAlike_48 : decode cX1_mostAlike 48 = .ok (.if_icmp .le 11, 3) := by decide +kernel
theorem dX1_mostAlike_51 : decode cX1_mostAlike 51 = .ok (.iload 7, 2) := by decide +kernel
theorem dX1_mostAlike_53 : decode cX1_mostAlike 53 = .ok (.istore 5, 2) := by decide +kernel
theorem dX1_mostAlike_55 : decode cX1_mostAlike 55 = .ok (.iload 8, 2) := by decide +kernel
theorem dX1_mostAlike_57 : decode cX1_mostAlike 57 = .ok (.istore 6, 2) := by decide +kernel
theorem dX1_mostAlike_59 : decode cX1_mostAlike 59 = .ok (.iinc 7 1, 3) := by decide +kernel
theorem dX1_mostAlike_62 : decode cX1_mostAlike 62 = .ok (.goto (-50), 3) := by decide +kernel
theorem dX1_mostAlike_65 : decode cX1_mostAlike 65 = .ok (.iload 5, 2) := by decide +kernel
theorem dX1_mostAlike_67 : decode cX1_mostAlike 67 = .ok (.ireturn, 1) := by decide +kernel
theorem dX1_append_0 : decode cX1_append 0 = .ok (.aload_n 0, 1) := by decide +kernel
theorem dX1_append_1 : decode cX1_append 1 = .ok (.getfield 9, 3) := by decide +kernel
theorem dX1_append_4 : decode cX1_append 4 = .ok (.bipush 30, 2) := by decide +kernel
theorem dX1_append_6 : decode cX1_append 6 = .ok (.if_icmp .lt 5, 3) := by decide +kernel
theorem dX1_append_9 : decode cX1_append 9 = .ok (.iconst (-1), 1) := by decide +kernel
theorem dX1_append_10 : decode cX1_append 10 = .ok (.ireturn, 1) := by decide +kernel
theorem dX1_append_11 : decode cX1_append 11 = .ok (.aload_n 0, 1) := by decide +kernel
theorem dX1_append_12 : decode cX1_append 12 = .ok (.getfield 9, 3) := by decide +kernel
theorem dX1_append_15 : decode cX1_append 15 = .ok (.istore 5, 2) := by decide +kernel
theorem dX1_append_17 : decode cX1_append 17 = .ok (.aload_n 0, 1) := by decide +kernel
theorem dX1_append_18 : decode cX1_append 18 = .ok (.getfield 15, 3) := by decide +kernel
theorem dX1_append_21 : decode cX1_append 21 = .ok (.iload 5, 2) := by decide +kernel
theorem dX1_append_23 : decode cX1_append 23 = .ok (.iload_n 3, 1) := by decide +kernel
theorem dX1_append_24 : decode cX1_append 24 = .ok (.iastore, 1) := by decide +kernel
theorem dX1_append_25 : decode cX1_append 25 = .ok (.aload_n 0, 1) := by decide +kernel
theorem dX1_append_26 : decode cX1_append 26 = .ok (.getfield 19, 3) := by decide +kernel
theorem dX1_append_29 : decode cX1_append 29 = .ok (.iload 5, 2) := by decide +kernel
theorem dX1_append_31 : decode cX1_append 31 = .ok (.iload 4, 2) := by decide +kernel
theorem dX1_append_33 : decode cX1_append 33 = .ok (.iastore, 1) := by decide +kernel
theorem dX1_append_34 : decode cX1_append 34 = .ok (.aload_n 0, 1) := by decide +kernel
theorem dX1_append_35 : decode cX1_append 35 = .ok (.getfield 31, 3) := by decide +kernel
theorem dX1_append_38 : decode cX1_append 38 = .ok (.iload 5, 2) := by decide +kernel
theorem dX1_append_40 : decode cX1_append 40 = .ok (.iconst 0, 1) := by decide +kernel
theorem dX1_append_41 : decode cX1_append 41 = .ok (.invokestatic 47, 3) := by decide +kernel
theorem dX1_append_44 : decode cX1_append 44 = .ok (.lload_n 1, 1) := by decide +kernel
theorem dX1_append_45 : decode cX1_append 45 = .ok (.lastore, 1) := by decide +kernel
theorem dX1_append_46 : decode cX1_append 46 = .ok (.aload_n 0, 1) := by decide +kernel
theorem dX1_append_47 : decode cX1_append 47 = .ok (.getfield 25, 3) := by decide +kernel
theorem dX1_append_50 : decode cX1_append 50 = .ok (.iload 5, 2) := by decide +kernel
theorem dX1_append_52 : decode cX1_append 52 = .ok (.iconst 1, 1) := by decide +kernel
theorem dX1_append_53 : decode cX1_append 53 = .ok (.iastore, 1) := by decide +kernel
theorem dX1_append_54 : decode cX1_append 54 = .ok (.aload_n 0, 1) := by decide +kernel
theorem dX1_append_55 : decode cX1_append 55 = .ok (.iload 5, 2) := by decide +kernel
theorem dX1_append_57 : decode cX1_append 57 = .ok (.invokevirtual 68, 3) := by decide +kernel
theorem dX1_append_60 : decode cX1_append 60 = .ok (.aload_n 0, 1) := by decide +kernel
theorem dX1_append_61 : decode cX1_append 61 = .ok (.dup, 1) := by decide +kernel
theorem dX1_append_62 : decode cX1_append 62 = .ok (.getfield 9, 3) := by decide +kernel
theorem dX1_append_65 : decode cX1_append 65 = .ok (.iconst 1, 1) := by decide +kernel
theorem dX1_append_66 : decode cX1_append 66 = .ok (.iadd, 1) := by decide +kernel
theorem dX1_append_67 : decode cX1_append 67 = .ok (.putfield 9, 3) := by decide +kernel
theorem dX1_append_70 : decode cX1_append 70 = .ok (.iload 5, 2) := by decide +kernel
theorem dX1_append_72 : decode cX1_append 72 = .ok (.ireturn, 1) := by decide +kernel
theorem dX1_keepInOrder_0 : decode cX1_keepInOrder 0 = .ok (.aload_n 0, 1) := by decide +kernel
theorem dX1_keepInOrder_1 : decode cX1_keepInOrder 1 = .ok (.getfield 9, 3) := by decide +kernel
theorem dX1_keepInOrder_4 : decode cX1_keepInOrder 4 = .ok (.istore_n 2, 1) := by decide +kernel
theorem dX1_keepInOrder_5 : decode cX1_keepInOrder 5 = .ok (.iload_n 2, 1) := by decide +kernel
theorem dX1_keepInOrder_6 : decode cX1_keepInOrder 6 = .ok (.ifCond .le 39, 3) := by decide +kernel
theorem dX1_keepInOrder_9 : decode cX1_keepInOrder 9 = .ok (.aload_n 0, 1) := by decide +kernel
theorem dX1_keepInOrder_10 : decode cX1_keepInOrder 10 = .ok (.iload_n 1, 1) := by decide +kernel
theorem dX1_keepInOrder_11 : decode cX1_keepInOrder 11 = .ok (.aload_n 0, 1) := by decide +kernel
theorem dX1_keepInOrder_12 : decode cX1_keepInOrder 12 = .ok (.getfield 35, 3) := by decide +kernel
theorem dX1_keepInOrder_15 : decode cX1_keepInOrder 15 = .ok (.iload_n 2, 1) := by decide +kernel
theorem dX1_keepInOrder_16 : decode cX1_keepInOrder 16 = .ok (.iconst 1, 1) := by decide +kernel
theorem dX1_keepInOrder_17 : decode cX1_keepInOrder 17 = .ok (.isub, 1) := by decide +kernel
theorem dX1_keepInOrder_18 : decode cX1_keepInOrder 18 = .ok (.iaload, 1) := by decide +kernel
theorem dX1_keepInOrder_19 : decode cX1_keepInOrder 19 = .ok (.invokevirtual 72, 3) := by decide +kernel
theorem dX1_keepInOrder_22 : decode cX1_keepInOrder 22 = .ok (.ifCond .eq 23, 3) := by decide +kernel
theorem dX1_keepInOrder_25 : decode cX1_keepInOrder 25 = .ok (.aload_n 0, 1) := by decide +kernel
theorem dX1_keepInOrder_26 : decode cX1_keepInOrder 26 = .ok (.getfield 35, 3) := by decide +kernel
theorem dX1_keepInOrder_29 : decode cX1_keepInOrder 29 = .ok (.iload_n 2, 1) := by decide +kernel
theorem dX1_keepInOrder_30 : decode cX1_keepInOrder 30 = .ok (.aload_n 0, 1) := by decide +kernel
theorem dX1_keepInOrder_31 : decode cX1_keepInOrder 31 = .ok (.getfield 35, 3) := by decide +kernel
theorem dX1_keepInOrder_34 : decode cX1_keepInOrder 34 = .ok (.iload_n 2, 1) := by decide +kernel
theorem dX1_keepInOrder_35 : decode cX1_keepInOrder 35 = .ok (.iconst 1, 1) := by decide +kernel
theorem dX1_keepInOrder_36 : decode cX1_keepInOrder 36 = .ok (.isub, 1) := by decide +kernel
theorem dX1_keepInOrder_37 : decode cX1_keepInOrder 37 = .ok (.iaload, 1) := by decide +kernel
theorem dX1_keepInOrder_38 : decode cX1_keepInOrder 38 = .ok (.iastore, 1) := by decide +kernel
theorem dX1_keepInOrder_39 : decode cX1_keepInOrder 39 = .ok (.iinc 2 (-1), 3) := by decide +kernel
theorem dX1_keepInOrder_42 : decode cX1_keepInOrder 42 = .ok (.goto (-37), 3) := by decide +kernel
theorem dX1_keepInOrder_45 : decode cX1_keepInOrder 45 = .ok (.aload_n 0, 1) := by decide +kernel
theorem dX1_keepInOrder_46 : decode cX1_keepInOrder 46 = .ok (.getfield 35, 3) := by decide +kernel
theorem dX1_keepInOrder_49 : decode cX1_keepInOrder 49 = .ok (.iload_n 2, 1) := by decide +kernel
theorem dX1_keepInOrder_50 : decode cX1_keepInOrder 50 = .ok (.iload_n 1, 1) := by decide +kernel
theorem dX1_keepInOrder_51 : decode cX1_keepInOrder 51 = .ok (.iastore, 1) := by decide +kernel
theorem dX1_keepInOrder_52 : decode cX1_keepInOrder 52 = .ok (.return_, 1) := by decide +kernel
theorem dX1_renew_0 : decode cX1_renew 0 = .ok (.aload_n 0, 1) := by decide +kernel
theorem dX1_renew_1 : decode cX1_renew 1 = .ok (.iload_n 1, 1) := by decide +kernel
theorem dX1_renew_2 : decode cX1_renew 2 = .ok (.invokevirtual 60, 3) := by decide +kernel
theorem dX1_renew_5 : decode cX1_renew 5 = .ok (.lstore 5, 2) := by decide +kernel
theorem dX1_renew_7 : decode cX1_renew 7 = .ok (.lload_n 2, 1) := by decide +kernel
theorem dX1_renew_8 : decode cX1_renew 8 = .ok (.lload 5, 2) := by decide +kernel
theorem dX1_renew_10 : decode cX1_renew 10 = .ok (.lcmp, 1) := by decide +kernel
theorem dX1_renew_11 : decode cX1_renew 11 = .ok (.ifCond .ne 4, 3) := by decide +kernel
theorem dX1_renew_14 : decode cX1_renew 14 = .ok (.return_, 1) := by decide +kernel
theorem dX1_renew_15 : decode cX1_renew 15 = .ok (.aload_n 0, 1) := by decide +kernel
theorem dX1_renew_16 : decode cX1_renew 16 = .ok (.getfield 25, 3) := by decide +kernel
theorem dX1_renew_19 : decode cX1_renew 19 = .ok (.iload_n 1, 1) := by decide +kernel
theorem dX1_renew_20 : decode cX1_renew 20 = .ok (.iaload, 1) := by decide +kernel
theorem dX1_renew_21 : decode cX1_renew 21 = .ok (.istore 7, 2) := by decide +kernel
theorem dX1_renew_23 : decode cX1_renew 23 = .ok (.aload_n 0, 1) := by decide +kernel
theorem dX1_renew_24 : decode cX1_renew 24 = .ok (.getfield 31, 3) := by decide +kernel
theorem dX1_renew_27 : decode cX1_renew 27 = .ok (.iload_n 1, 1) := by decide +kernel
theorem dX1_renew_28 : decode cX1_renew 28 = .ok (.iload 7, 2) := by decide +kernel
theorem dX1_renew_30 : decode cX1_renew 30 = .ok (.invokestatic 47, 3) := by decide +kernel
theorem dX1_renew_33 : decode cX1_renew 33 = .ok (.lload_n 2, 1) := by decide +kernel
theorem dX1_renew_34 : decode cX1_renew 34 = .ok (.lastore, 1) := by decide +kernel
theorem dX1_renew_35 : decode cX1_renew 35 = .ok (.aload_n 0, 1) := by decide +kernel
theorem dX1_renew_36 : decode cX1_renew 36 = .ok (.getfield 25, 3) := by decide +kernel
theorem dX1_renew_39 : decode cX1_renew 39 = .ok (.iload_n 1, 1) := by decide +kernel
theorem dX1_renew_40 : decode cX1_renew 40 = .ok (.iload 7, 2) := by decide +kernel
theorem dX1_renew_42 : decode cX1_renew 42 = .ok (.iconst 1, 1) := by decide +kernel
theorem dX1_renew_43 : decode cX1_renew 43 = .ok (.iadd, 1) := by decide +kernel
theorem dX1_renew_44 : decode cX1_renew 44 = .ok (.iastore, 1) := by decide +kernel
theorem dX1_renew_45 : decode cX1_renew 45 = .ok (.lload_n 2, 1) := by decide +kernel
theorem dX1_renew_46 : decode cX1_renew 46 = .ok (.lload 5, 2) := by decide +kernel
theorem dX1_renew_48 : decode cX1_renew 48 = .ok (.invokestatic 64, 3) := by decide +kernel
theorem dX1_renew_51 : decode cX1_renew 51 = .ok (.iload 4, 2) := by decide +kernel
theorem dX1_renew_53 : decode cX1_renew 53 = .ok (.if_icmp .ge 11, 3) := by decide +kernel
theorem dX1_renew_56 : decode cX1_renew 56 = .ok (.aload_n 0, 1) := by decide +kernel
theorem dX1_renew_57 : decode cX1_renew 57 = .ok (.getfield 28, 3) := by decide +kernel
theorem dX1_renew_60 : decode cX1_renew 60 = .ok (.iload_n 1, 1) := by decide +kernel
theorem dX1_renew_61 : decode cX1_renew 61 = .ok (.iload 7, 2) := by decide +kernel
theorem dX1_renew_63 : decode cX1_renew 63 = .ok (.iastore, 1) := by decide +kernel
theorem dX1_renew_64 : decode cX1_renew 64 = .ok (.return_, 1) := by decide +kernel
theorem dX1_addTeller_0 : decode cX1_addTeller 0 = .ok (.aload_n 0, 1) := by decide +kernel
theorem dX1_addTeller_1 : decode cX1_addTeller 1 = .ok (.getfield 22, 3) := by decide +kernel
theorem dX1_addTeller_4 : decode cX1_addTeller 4 = .ok (.iload_n 1, 1) := by decide +kernel
theorem dX1_addTeller_5 : decode cX1_addTeller 5 = .ok (.dup2, 1) := by decide +kernel
theorem dX1_addTeller_6 : decode cX1_addTeller 6 = .ok (.iaload, 1) := by decide +kernel
theorem dX1_addTeller_7 : decode cX1_addTeller 7 = .ok (.iconst 1, 1) := by decide +kernel
theorem dX1_addTeller_8 : decode cX1_addTeller 8 = .ok (.iload_n 2, 1) := by decide +kernel
theorem dX1_addTeller_9 : decode cX1_addTeller 9 = .ok (.ishl, 1) := by decide +kernel
theorem dX1_addTeller_10 : decode cX1_addTeller 10 = .ok (.ior, 1) := by decide +kernel
theorem dX1_addTeller_11 : decode cX1_addTeller 11 = .ok (.iastore, 1) := by decide +kernel
theorem dX1_addTeller_12 : decode cX1_addTeller 12 = .ok (.return_, 1) := by decide +kernel
theorem dX1_claimPair_0 : decode cX1_claimPair 0 = .ok (.iload_n 3, 1) := by decide +kernel
theorem dX1_claimPair_1 : decode cX1_claimPair 1 = .ok (.iconst (-1), 1) := by decide +kernel
theorem dX1_claimPair_2 : decode cX1_claimPair 2 = .ok (.if_icmp .eq 28, 3) := by decide +kernel
theorem dX1_claimPair_5 : decode cX1_claimPair 5 = .ok (.aload_n 0, 1) := by decide +kernel
theorem dX1_claimPair_6 : decode cX1_claimPair 6 = .ok (.iload_n 2, 1) := by decide +kernel
theorem dX1_claimPair_7 : decode cX1_claimPair 7 = .ok (.iload_n 3, 1) := by decide +kernel
theorem dX1_claimPair_8 : decode cX1_claimPair 8 = .ok (.invokevirtual 76, 3) := by decide +kernel
theorem dX1_claimPair_11 : decode cX1_claimPair 11 = .ok (.iconst (-1), 1) := by decide +kernel
theorem dX1_claimPair_12 : decode cX1_claimPair 12 = .ok (.if_icmp .ne 18, 3) := by decide +kernel
theorem dX1_claimPair_15 : decode cX1_claimPair 15 = .ok (.aload_n 0, 1) := by decide +kernel
theorem dX1_claimPair_16 : decode cX1_claimPair 16 = .ok (.getfield 41, 3) := by decide +kernel
theorem dX1_claimPair_19 : decode cX1_claimPair 19 = .ok (.iload_n 2, 1) := by decide +kernel
theorem dX1_claimPair_20 : decode cX1_claimPair 20 = .ok (.sipush 1000, 3) := by decide +kernel
theorem dX1_claimPair_23 : decode cX1_claimPair 23 = .ok (.imul, 1) := by decide +kernel
theorem dX1_claimPair_24 : decode cX1_claimPair 24 = .ok (.iload_n 3, 1) := by decide +kernel
theorem dX1_claimPair_25 : decode cX1_claimPair 25 = .ok (.iadd, 1) := by decide +kernel
theorem dX1_claimPair_26 : decode cX1_claimPair 26 = .ok (.iload_n 1, 1) := by decide +kernel
theorem dX1_claimPair_27 : decode cX1_claimPair 27 = .ok (.iconst 1, 1) := by decide +kernel
theorem dX1_claimPair_28 : decode cX1_claimPair 28 = .ok (.iadd, 1) := by decide +kernel
theorem dX1_claimPair_29 : decode cX1_claimPair 29 = .ok (.iastore, 1) := by decide +kernel
theorem dX1_claimPair_30 : decode cX1_claimPair 30 = .ok (.return_, 1) := by decide +kernel
theorem dX1_claimLink_0 : decode cX1_claimLink 0 = .ok (.iload_n 2, 1) := by decide +kernel
theorem dX1_claimLink_1 : decode cX1_claimLink 1 = .ok (.iconst (-1), 1) := by decide +kernel
theorem dX1_claimLink_2 : decode cX1_claimLink 2 = .ok (.if_icmp .eq 21, 3) := by decide +kernel
theorem dX1_claimLink_5 : decode cX1_claimLink 5 = .ok (.aload_n 0, 1) := by decide +kernel
theorem dX1_claimLink_6 : decode cX1_claimLink 6 = .ok (.iload_n 2, 1) := by decide +kernel
theorem dX1_claimLink_7 : decode cX1_claimLink 7 = .ok (.invokevirtual 79, 3) := by decide +kernel
theorem dX1_claimLink_10 : decode cX1_claimLink 10 = .ok (.iconst (-1), 1) := by decide +kernel
theorem dX1_claimLink_11 : decode cX1_claimLink 11 = .ok (.if_icmp .ne 12, 3) := by decide +kernel
theorem dX1_claimLink_14 : decode cX1_claimLink 14 = .ok (.aload_n 0, 1) := by decide +kernel
theorem dX1_claimLink_15 : decode cX1_claimLink 15 = .ok (.getfield 44, 3) := by decide +kernel
theorem dX1_claimLink_18 : decode cX1_claimLink 18 = .ok (.iload_n 2, 1) := by decide +kernel
theorem dX1_claimLink_19 : decode cX1_claimLink 19 = .ok (.iload_n 1, 1) := by decide +kernel
theorem dX1_claimLink_20 : decode cX1_claimLink 20 = .ok (.iconst 1, 1) := by decide +kernel
theorem dX1_claimLink_21 : decode cX1_claimLink 21 = .ok (.iadd, 1) := by decide +kernel
theorem dX1_claimLink_22 : decode cX1_claimLink 22 = .ok (.iastore, 1) := by decide +kernel
theorem dX1_claimLink_23 : decode cX1_claimLink 23 = .ok (.return_, 1) := by decide +kernel
theorem dX1_keptOrder_0 : decode cX1_keptOrder 0 = .ok (.aload_n 0, 1) := by decide +kernel
theorem dX1_keptOrder_1 : decode cX1_keptOrder 1 = .ok (.getfield 35, 3) := by decide +kernel
theorem dX1_keptOrder_4 : decode cX1_keptOrder 4 = .ok (.areturn, 1) := by decide +kernel
theorem dX1_orderAnew_0 : decode cX1_orderAnew 0 = .ok (.iconst 0, 1) := by decide +kernel
theorem dX1_orderAnew_1 : decode cX1_orderAnew 1 = .ok (.istore_n 1, 1) := by decide +kernel
theorem dX1_orderAnew_2 : decode cX1_orderAnew 2 = .ok (.iload_n 1, 1) := by decide +kernel
theorem dX1_orderAnew_3 : decode cX1_orderAnew 3 = .ok (.aload_n 0, 1) := by decide +kernel
theorem dX1_orderAnew_4 : decode cX1_orderAnew 4 = .ok (.getfield 9, 3) := by decide +kernel
theorem dX1_orderAnew_7 : decode cX1_orderAnew 7 = .ok (.if_icmp .ge 16, 3) := by decide +kernel
theorem dX1_orderAnew_10 : decode cX1_orderAnew 10 = .ok (.aload_n 0, 1) := by decide +kernel
theorem dX1_orderAnew_11 : decode cX1_orderAnew 11 = .ok (.getfield 38, 3) := by decide +kernel
theorem dX1_orderAnew_14 : decode cX1_orderAnew 14 = .ok (.iload_n 1, 1) := by decide +kernel
theorem dX1_orderAnew_15 : decode cX1_orderAnew 15 = .ok (.iload_n 1, 1) := by decide +kernel
theorem dX1_orderAnew_16 : decode cX1_orderAnew 16 = .ok (.iastore, 1) := by decide +kernel
theorem dX1_orderAnew_17 : decode cX1_orderAnew 17 = .ok (.iinc 1 1, 3) := by decide +kernel
theorem dX1_orderAnew_20 : decode cX1_orderAnew 20 = .ok (.goto (-18), 3) := by decide +kernel
theorem dX1_orderAnew_23 : decode cX1_orderAnew 23 = .ok (.iconst 0, 1) := by decide +kernel
theorem dX1_orderAnew_24 : decode cX1_orderAnew 24 = .ok (.istore_n 1, 1) := by decide +kernel
theorem dX1_orderAnew_25 : decode cX1_orderAnew 25 = .ok (.iload_n 1, 1) := by decide +kernel
theorem dX1_orderAnew_26 : decode cX1_orderAnew 26 = .ok (.aload_n 0, 1) := by decide +kernel
theorem dX1_orderAnew_27 : decode cX1_orderAnew 27 = .ok (.getfield 9, 3) := by decide +kernel
theorem dX1_orderAnew_30 : decode cX1_orderAnew 30 = .ok (.if_icmp .ge 76, 3) := by decide +kernel
theorem dX1_orderAnew_33 : decode cX1_orderAnew 33 = .ok (.iload_n 1, 1) := by decide +kernel
theorem dX1_orderAnew_34 : decode cX1_orderAnew 34 = .ok (.istore_n 2, 1) := by decide +kernel
theorem dX1_orderAnew_35 : decode cX1_orderAnew 35 = .ok (.iload_n 1, 1) := by decide +kernel
theorem dX1_orderAnew_36 : decode cX1_orderAnew 36 = .ok (.iconst 1, 1) := by decide +kernel
theorem dX1_orderAnew_37 : decode cX1_orderAnew 37 = .ok (.iadd, 1) := by decide +kernel
theorem dX1_orderAnew_38 : decode cX1_orderAnew 38 = .ok (.istore_n 3, 1) := by decide +kernel
theorem dX1_orderAnew_39 : decode cX1_orderAnew 39 = .ok (.iload_n 3, 1) := by decide +kernel
theorem dX1_orderAnew_40 : decode cX1_orderAnew 40 = .ok (.aload_n 0, 1) := by decide +kernel
theorem dX1_orderAnew_41 : decode cX1_orderAnew 41 = .ok (.getfield 9, 3) := by decide +kernel
theorem dX1_orderAnew_44 : decode cX1_orderAnew 44 = .ok (.if_icmp .ge 30, 3) := by decide +kernel
theorem dX1_orderAnew_47 : decode cX1_orderAnew 47 = .ok (.aload_n 0, 1) := by decide +kernel
theorem dX1_orderAnew_48 : decode cX1_orderAnew 48 = .ok (.aload_n 0, 1) := by decide +kernel
theorem dX1_orderAnew_49 : decode cX1_orderAnew 49 = .ok (.getfield 38, 3) := by decide +kernel
theorem dX1_orderAnew_52 : decode cX1_orderAnew 52 = .ok (.iload_n 3, 1) := by decide +kernel
theorem dX1_orderAnew_53 : decode cX1_orderAnew 53 = .ok (.iaload, 1) := by decide +kernel
theorem dX1_orderAnew_54 : decode cX1_orderAnew 54 = .ok (.aload_n 0, 1) := by decide +kernel
theorem dX1_orderAnew_55 : decode cX1_orderAnew 55 = .ok (.getfield 38, 3) := by decide +kernel
theorem dX1_orderAnew_58 : decode cX1_orderAnew 58 = .ok (.iload_n 2, 1) := by decide +kernel
theorem dX1_orderAnew_59 : decode cX1_orderAnew 59 = .ok (.iaload, 1) := by decide +kernel
theorem dX1_orderAnew_60 : decode cX1_orderAnew 60 = .ok (.invokevirtual 72, 3) := by decide +kernel
theorem dX1_orderAnew_63 : decode cX1_orderAnew 63 = .ok (.ifCond .eq 5, 3) := by decide +kernel
theorem dX1_orderAnew_66 : decode cX1_orderAnew 66 = .ok (.iload_n 3, 1) := by decide +kernel
theorem dX1_orderAnew_67 : decode cX1_orderAnew 67 = .ok (.istore_n 2, 1) := by decide +kernel
theorem dX1_orderAnew_68 : decode cX1_orderAnew 68 = .ok (.iinc 3 1, 3) := by decide +kernel
theorem dX1_orderAnew_71 : decode cX1_orderAnew 71 = .ok (.goto (-32), 3) := by decide +kernel
theorem dX1_orderAnew_74 : decode cX1_orderAnew 74 = .ok (.aload_n 0, 1) := by decide +kernel
theorem dX1_orderAnew_75 : decode cX1_orderAnew 75 = .ok (.getfield 38, 3) := by decide +kernel
theorem dX1_orderAnew_78 : decode cX1_orderAnew 78 = .ok (.iload_n 2, 1) := by decide +kernel
theorem dX1_orderAnew_79 : decode cX1_orderAnew 79 = .ok (.iaload, 1) := by decide +kernel
theorem dX1_orderAnew_80 : decode cX1_orderAnew 80 = .ok (.istore_n 3, 1) := by decide +kernel
theorem dX1_orderAnew_81 : decode cX1_orderAnew 81 = .ok (.aload_n 0, 1) := by decide +kernel
theorem dX1_orderAnew_82 : decode cX1_orderAnew 82 = .ok (.getfield 38, 3) := by decide +kernel
theorem dX1_orderAnew_85 : decode cX1_orderAnew 85 = .ok (.iload_n 2, 1) := by decide +kernel
theorem dX1_orderAnew_86 : decode cX1_orderAnew 86 = .ok (.aload_n 0, 1) := by decide +kernel
theorem dX1_orderAnew_87 : decode cX1_orderAnew 87 = .ok (.getfield 38, 3) := by decide +kernel
theorem dX1_orderAnew_90 : decode cX1_orderAnew 90 = .ok (.iload_n 1, 1) := by decide +kernel
theorem dX1_orderAnew_91 : decode cX1_orderAnew 91 = .ok (.iaload, 1) := by decide +kernel
theorem dX1_orderAnew_92 : decode cX1_orderAnew 92 = .ok (.iastore, 1) := by decide +kernel
theorem dX1_orderAnew_93 : decode cX1_orderAnew 93 = .ok (.aload_n 0, 1) := by decide +kernel
theorem dX1_orderAnew_94 : decode cX1_orderAnew 94 = .ok (.getfield 38, 3) := by decide +kernel
theorem dX1_orderAnew_97 : decode cX1_orderAnew 97 = .ok (.iload_n 1, 1) := by decide +kernel
theorem dX1_orderAnew_98 : decode cX1_orderAnew 98 = .ok (.iload_n 3, 1) := by decide +kernel
theorem dX1_orderAnew_99 : decode cX1_orderAnew 99 = .ok (.iastore, 1) := by decide +kernel
theorem dX1_orderAnew_100 : decode cX1_orderAnew 100 = .ok (.iinc 1 1, 3) := by decide +kernel
theorem dX1_orderAnew_103 : decode cX1_orderAnew 103 = .ok (.goto (-78), 3) := by decide +kernel
theorem dX1_orderAnew_106 : decode cX1_orderAnew 106 = .ok (.aload_n 0, 1) := by decide +kernel
theorem dX1_orderAnew_107 : decode cX1_orderAnew 107 = .ok (.getfield 38, 3) := by decide +kernel
theorem dX1_orderAnew_110 : decode cX1_orderAnew 110 = .ok (.areturn, 1) := by decide +kernel
theorem dX1_isAhead_0 : decode cX1_isAhead 0 = .ok (.aload_n 0, 1) := by decide +kernel
theorem dX1_isAhead_1 : decode cX1_isAhead 1 = .ok (.getfield 19, 3) := by decide +kernel
theorem dX1_isAhead_4 : decode cX1_isAhead 4 = .ok (.iload_n 1, 1) := by decide +kernel
theorem dX1_isAhead_5 : decode cX1_isAhead 5 = .ok (.iaload, 1) := by decide +kernel
theorem dX1_isAhead_6 : decode cX1_isAhead 6 = .ok (.aload_n 0, 1) := by decide +kernel
theorem dX1_isAhead_7 : decode cX1_isAhead 7 = .ok (.getfield 19, 3) := by decide +kernel
theorem dX1_isAhead_10 : decode cX1_isAhead 10 = .ok (.iload_n 2, 1) := by decide +kernel
theorem dX1_isAhead_11 : decode cX1_isAhead 11 = .ok (.iaload, 1) := by decide +kernel
theorem dX1_isAhead_12 : decode cX1_isAhead 12 = .ok (.if_icmp .eq 24, 3) := by decide +kernel
theorem dX1_isAhead_15 : decode cX1_isAhead 15 = .ok (.aload_n 0, 1) := by decide +kernel
theorem dX1_isAhead_16 : decode cX1_isAhead 16 = .ok (.getfield 19, 3) := by decide +kernel
theorem dX1_isAhead_19 : decode cX1_isAhead 19 = .ok (.iload_n 1, 1) := by decide +kernel
theorem dX1_isAhead_20 : decode cX1_isAhead 20 = .ok (.iaload, 1) := by decide +kernel
theorem dX1_isAhead_21 : decode cX1_isAhead 21 = .ok (.aload_n 0, 1) := by decide +kernel
theorem dX1_isAhead_22 : decode cX1_isAhead 22 = .ok (.getfield 19, 3) := by decide +kernel
theorem dX1_isAhead_25 : decode cX1_isAhead 25 = .ok (.iload_n 2, 1) := by decide +kernel
theorem dX1_isAhead_26 : decode cX1_isAhead 26 = .ok (.iaload, 1) := by decide +kernel
theorem dX1_isAhead_27 : decode cX1_isAhead 27 = .ok (.if_icmp .le 7, 3) := by decide +kernel
theorem dX1_isAhead_30 : decode cX1_isAhead 30 = .ok (.iconst 1, 1) := by decide +kernel
theorem dX1_isAhead_31 : decode cX1_isAhead 31 = .ok (.goto 4, 3) := by decide +kernel
theorem dX1_isAhead_34 : decode cX1_isAhead 34 = .ok (.iconst 0, 1) := by decide +kernel
theorem dX1_isAhead_35 : decode cX1_isAhead 35 = .ok (.ireturn, 1) := by decide +kernel
theorem dX1_isAhead_36 : decode cX1_isAhead 36 = .ok (.iload_n 1, 1) := by decide +kernel
theorem dX1_isAhead_37 : decode cX1_isAhead 37 = .ok (.iload_n 2, 1) := by decide +kernel
theorem dX1_isAhead_38 : decode cX1_isAhead 38 = .ok (.if_icmp .le 7, 3) := by decide +kernel
theorem dX1_isAhead_41 : decode cX1_isAhead 41 = .ok (.iconst 1, 1) := by decide +kernel
theorem dX1_isAhead_42 : decode cX1_isAhead 42 = .ok (.goto 4, 3) := by decide +kernel
theorem dX1_isAhead_45 : decode cX1_isAhead 45 = .ok (.iconst 0, 1) := by decide +kernel
theorem dX1_isAhead_46 : decode cX1_isAhead 46 = .ok (.ireturn, 1) := by decide +kernel
theorem dX2_init_0 : decode cX2_init 0 = .ok (.aload_n 0, 1) := by decide +kernel
theorem dX2_init_1 : decode cX2_init 1 = .ok (.invokespecial 3, 3) := by decide +kernel
theorem dX2_init_4 : decode cX2_init 4 = .ok (.aload_n 0, 1) := by decide +kernel
theorem dX2_init_5 : decode cX2_init 5 = .ok (.sipush 150, 3) := by decide +kernel
theorem dX2_init_8 : decode cX2_init 8 = .ok (.newarray .int, 2) := by decide +kernel
theorem dX2_init_10 : decode cX2_init 10 = .ok (.putfield 9, 3) := by decide +kernel
theorem dX2_init_13 : decode cX2_init 13 = .ok (.aload_n 0, 1) := by decide +kernel
theorem dX2_init_14 : decode cX2_init 14 = .ok (.sipush 150, 3) := by decide +kernel
theorem dX2_init_17 : decode cX2_init 17 = .ok (.newarray .int, 2) := by decide +kernel
theorem dX2_init_19 : decode cX2_init 19 = .ok (.putfield 15, 3) := by decide +kernel
theorem dX2_init_22 : decode cX2_init 22 = .ok (.aload_n 0, 1) := by decide +kernel
theorem dX2_init_23 : decode cX2_init 23 = .ok (.sipush 150, 3) := by decide +kernel
theorem dX2_init_26 : decode cX2_init 26 = .ok (.newarray .int, 2) := by decide +kernel
theorem dX2_init_28 : decode cX2_init 28 = .ok (.putfield 18, 3) := by decide +kernel
theorem dX2_init_31 : decode cX2_init 31 = .ok (.return_, 1) := by decide +kernel
theorem dX2_put_0 : decode cX2_put 0 = .ok (.iload_n 1, 1) := by decide +kernel
theorem dX2_put_1 : decode cX2_put 1 = .ok (.bipush 30, 2) := by decide +kernel
theorem dX2_put_3 : decode cX2_put 3 = .ok (.imul, 1) := by decide +kernel
theorem dX2_put_4 : decode cX2_put 4 = .ok (.iload_n 2, 1) := by decide +kernel
theorem dX2_put_5 : decode cX2_put 5 = .ok (.iadd, 1) := by decide +kernel
theorem dX2_put_6 : decode cX2_put 6 = .ok (.istore 6, 2) := by decide +kernel
theorem dX2_put_8 : decode cX2_put 8 = .ok (.aload_n 0, 1) := by decide +kernel
theorem dX2_put_9 : decode cX2_put 9 = .ok (.getfield 9, 3) := by decide +kernel
theorem dX2_put_12 : decode cX2_put 12 = .ok (.iload 6, 2) := by decide +kernel
theorem dX2_put_14 : decode cX2_put 14 = .ok (.iload_n 3, 1) := by decide +kernel
theorem dX2_put_15 : decode cX2_put 15 = .ok (.ifCond .eq 7, 3) := by decide +kernel
theorem dX2_put_18 : decode cX2_put 18 = .ok (.iconst 2, 1) := by decide +kernel
theorem dX2_put_19 : decode cX2_put 19 = .ok (.goto 4, 3) := by decide +kernel
theorem dX2_put_22 : decode cX2_put 22 = .ok (.iconst 1, 1) := by decide +kernel
theorem dX2_put_23 : decode cX2_put 23 = .ok (.iastore, 1) := by decide +kernel
theorem dX2_put_24 : decode cX2_put 24 = .ok (.aload_n 0, 1) := by decide +kernel
theorem dX2_put_25 : decode cX2_put 25 = .ok (.getfield 15, 3) := by decide +kernel
theorem dX2_put_28 : decode cX2_put 28 = .ok (.iload 6, 2) := by decide +kernel
theorem dX2_put_30 : decode cX2_put 30 = .ok (.iload 4, 2) := by decide +kernel
theorem dX2_put_32 : decode cX2_put 32 = .ok (.iastore, 1) := by decide +kernel
theorem dX2_put_33 : decode cX2_put 33 = .ok (.aload_n 0, 1) := by decide +kernel
theorem dX2_put_34 : decode cX2_put 34 = .ok (.getfield 18, 3) := by decide +kernel
theorem dX2_put_37 : decode cX2_put 37 = .ok (.iload 6, 2) := by decide +kernel
theorem dX2_put_39 : decode cX2_put 39 = .ok (.iload 5, 2) := by decide +kernel
theorem dX2_put_41 : decode cX2_put 41 = .ok (.iastore, 1) := by decide +kernel
theorem dX2_put_42 : decode cX2_put 42 = .ok (.return_, 1) := by decide +kernel
theorem dX2_copy_0 : decode cX2_copy 0 = .ok (.iload_n 1, 1) := by decide +kernel
theorem dX2_copy_1 : decode cX2_copy 1 = .ok (.bipush 30, 2) := by decide +kernel
theorem dX2_copy_3 : decode cX2_copy 3 = .ok (.imul, 1) := by decide +kernel
theorem dX2_copy_4 : decode cX2_copy 4 = .ok (.iload_n 3, 1) := by decide +kernel
theorem dX2_copy_5 : decode cX2_copy 5 = .ok (.iadd, 1) := by decide +kernel
theorem dX2_copy_6 : decode cX2_copy 6 = .ok (.istore 4, 2) := by decide +kernel
theorem dX2_copy_8 : decode cX2_copy 8 = .ok (.iload_n 2, 1) := by decide +kernel
theorem dX2_copy_9 : decode cX2_copy 9 = .ok (.bipush 30, 2) := by decide +kernel
theorem dX2_copy_11 : decode cX2_copy 11 = .ok (.imul, 1) := by decide +kernel
theorem dX2_copy_12 : decode cX2_copy 12 = .ok (.iload_n 3, 1) := by decide +kernel
theorem dX2_copy_13 : decode cX2_copy 13 = .ok (.iadd, 1) := by decide +kernel
theorem dX2_copy_14 : decode cX2_copy 14 = .ok (.istore 5, 2) := by decide +kernel
theorem dX2_copy_16 : decode cX2_copy 16 = .ok (.aload_n 0, 1) := by decide +kernel
theorem dX2_copy_17 : decode cX2_copy 17 = .ok (.getfield 9, 3) := by decide +kernel
theorem dX2_copy_20 : decode cX2_copy 20 = .ok (.iload 5, 2) := by decide +kernel
theorem dX2_copy_22 : decode cX2_copy 22 = .ok (.aload_n 0, 1) := by decide +kernel
theorem dX2_copy_23 : decode cX2_copy 23 = .ok (.getfield 9, 3) := by decide +kernel
theorem dX2_copy_26 : decode cX2_copy 26 = .ok (.iload 4, 2) := by decide +kernel
theorem dX2_copy_28 : decode cX2_copy 28 = .ok (.iaload, 1) := by decide +kernel
theorem dX2_copy_29 : decode cX2_copy 29 = .ok (.iastore, 1) := by decide +kernel
theorem dX2_copy_30 : decode cX2_copy 30 = .ok (.aload_n 0, 1) := by decide +kernel
theorem dX2_copy_31 : decode cX2_copy 31 = .ok (.getfield 15, 3) := by decide +kernel
theorem dX2_copy_34 : decode cX2_copy 34 = .ok (.iload 5, 2) := by decide +kernel
theorem dX2_copy_36 : decode cX2_copy 36 = .ok (.aload_n 0, 1) := by decide +kernel
theorem dX2_copy_37 : decode cX2_copy 37 = .ok (.getfield 15, 3) := by decide +kernel
theorem dX2_copy_40 : decode cX2_copy 40 = .ok (.iload 4, 2) := by decide +kernel
theorem dX2_copy_42 : decode cX2_copy 42 = .ok (.iaload, 1) := by decide +kernel
theorem dX2_copy_43 : decode cX2_copy 43 = .ok (.iastore, 1) := by decide +kernel
theorem dX2_copy_44 : decode cX2_copy 44 = .ok (.aload_n 0, 1) := by decide +kernel
theorem dX2_copy_45 : decode cX2_copy 45 = .ok (.getfield 18, 3) := by decide +kernel
theorem dX2_copy_48 : decode cX2_copy 48 = .ok (.iload 5, 2) := by decide +kernel
theorem dX2_copy_50 : decode cX2_copy 50 = .ok (.aload_n 0, 1) := by decide +kernel
theorem dX2_copy_51 : decode cX2_copy 51 = .ok (.getfield 18, 3) := by decide +kernel
theorem dX2_copy_54 : decode cX2_copy 54 = .ok (.iload 4, 2) := by decide +kernel
theorem dX2_copy_56 : decode cX2_copy 56 = .ok (.iaload, 1) := by decide +kernel
theorem dX2_copy_57 : decode cX2_copy 57 = .ok (.iastore, 1) := by decide +kernel
theorem dX2_copy_58 : decode cX2_copy 58 = .ok (.return_, 1) := by decide +kernel
theorem dX2_saysRead_0 : decode cX2_saysRead 0 = .ok (.iload_n 1, 1) := by decide +kernel
theorem dX2_saysRead_1 : decode cX2_saysRead 1 = .ok (.bipush 30, 2) := by decide +kernel
theorem dX2_saysRead_3 : decode cX2_saysRead 3 = .ok (.imul, 1) := by decide +kernel
theorem dX2_saysRead_4 : decode cX2_saysRead 4 = .ok (.iload_n 2, 1) := by decide +kernel
theorem dX2_saysRead_5 : decode cX2_saysRead 5 = .ok (.iadd, 1) := by decide +kernel
theorem dX2_saysRead_6 : decode cX2_saysRead 6 = .ok (.istore 4, 2) := by decide +kernel
theorem dX2_saysRead_8 : decode cX2_saysRead 8 = .ok (.aload_n 0, 1) := by decide +kernel
theorem dX2_saysRead_9 : decode cX2_saysRead 9 = .ok (.getfield 9, 3) := by decide +kernel
theorem dX2_saysRead_12 : decode cX2_saysRead 12 = .ok (.iload 4, 2) := by decide +kernel
theorem dX2_saysRead_14 : decode cX2_saysRead 14 = .ok (.iaload, 1) := by decide +kernel
theorem dX2_saysRead_15 : decode cX2_saysRead 15 = .ok (.iconst 2, 1) := by decide +kernel
theorem dX2_saysRead_16 : decode cX2_saysRead 16 = .ok (.if_icmp .ne 18, 3) := by decide +kernel
theorem dX2_saysRead_19 : decode cX2_saysRead 19 = .ok (.aload_n 0, 1) := by decide +kernel
theorem dX2_saysRead_20 : decode cX2_saysRead 20 = .ok (.getfield 18, 3) := by decide +kernel
theorem dX2_saysRead_23 : decode cX2_saysRead 23 = .ok (.iload 4, 2) := by decide +kernel
theorem dX2_saysRead_25 : decode cX2_saysRead 25 = .ok (.iaload, 1) := by decide +kernel
theorem dX2_saysRead_26 : decode cX2_saysRead 26 = .ok (.iload_n 3, 1) := by decide +kernel
theorem dX2_saysRead_27 : decode cX2_saysRead 27 = .ok (.if_icmp .lt 7, 3) := by decide +kernel
theorem dX2_saysRead_30 : decode cX2_saysRead 30 = .ok (.iconst 1, 1) := by decide +kernel
theorem dX2_saysRead_31 : decode cX2_saysRead 31 = .ok (.goto 4, 3) := by decide +kernel
theorem dX2_saysRead_34 : decode cX2_saysRead 34 = .ok (.iconst 0, 1) := by decide +kernel
theorem dX2_saysRead_35 : decode cX2_saysRead 35 = .ok (.ireturn, 1) := by decide +kernel
theorem dX2_beats_0 : decode cX2_beats 0 = .ok (.iload_n 1, 1) := by decide +kernel
theorem dX2_beats_1 : decode cX2_beats 1 = .ok (.bipush 30, 2) := by decide +kernel
theorem dX2_beats_3 : decode cX2_beats 3 = .ok (.imul, 1) := by decide +kernel
theorem dX2_beats_4 : decode cX2_beats 4 = .ok (.iload_n 3, 1) := by decide +kernel
theorem dX2_beats_5 : decode cX2_beats 5 = .ok (.iadd, 1) := by decide +kernel
theorem dX2_beats_6 : decode cX2_beats 6 = .ok (.istore 4, 2) := by decide +kernel
theorem dX2_beats_8 : decode cX2_beats 8 = .ok (.iload_n 2, 1) := by decide +kernel
theorem dX2_beats_9 : decode cX2_beats 9 = .ok (.bipush 30, 2) := by decide +kernel
theorem dX2_beats_11 : decode cX2_beats 11 = .ok (.imul, 1) := by decide +kernel
theorem dX2_beats_12 : decode cX2_beats 12 = .ok (.iload_n 3, 1) := by decide +kernel
theorem dX2_beats_13 : decode cX2_beats 13 = .ok (.iadd, 1) := by decide +kernel
theorem dX2_beats_14 : decode cX2_beats 14 = .ok (.istore 5, 2) := by decide +kernel
theorem dX2_beats_16 : decode cX2_beats 16 = .ok (.aload_n 0, 1) := by decide +kernel
theorem dX2_beats_17 : decode cX2_beats 17 = .ok (.getfield 9, 3) := by decide +kernel
theorem dX2_beats_20 : decode cX2_beats 20 = .ok (.iload 4, 2) := by decide +kernel
theorem dX2_beats_22 : decode cX2_beats 22 = .ok (.iaload, 1) := by decide +kernel
theorem dX2_beats_23 : decode cX2_beats 23 = .ok (.ifCond .eq 13, 3) := by decide +kernel
theorem dX2_beats_26 : decode cX2_beats 26 = .ok (.aload_n 0, 1) := by decide +kernel
theorem dX2_beats_27 : decode cX2_beats 27 = .ok (.getfield 9, 3) := by decide +kernel
theorem dX2_beats_30 : decode cX2_beats 30 = .ok (.iload 5, 2) := by decide +kernel
theorem dX2_beats_32 : decode cX2_beats 32 = .ok (.iaload, 1) := by decide +kernel
theorem dX2_beats_33 : decode cX2_beats 33 = .ok (.ifCond .ne 19, 3) := by decide +kernel
theorem dX2_beats_36 : decode cX2_beats 36 = .ok (.aload_n 0, 1) := by decide +kernel
theorem dX2_beats_37 : decode cX2_beats 37 = .ok (.getfield 9, 3) := by decide +kernel
theorem dX2_beats_40 : decode cX2_beats 40 = .ok (.iload 4, 2) := by decide +kernel
theorem dX2_beats_42 : decode cX2_beats 42 = .ok (.iaload, 1) := by decide +kernel
theorem dX2_beats_43 : decode cX2_beats 43 = .ok (.ifCond .eq 7, 3) := by decide +kernel
theorem dX2_beats_46 : decode cX2_beats 46 = .ok (.iconst 1, 1) := by decide +kernel
theorem dX2_beats_47 : decode cX2_beats 47 = .ok (.goto 4, 3) := by decide +kernel
theorem dX2_beats_50 : decode cX2_beats 50 = .ok (.iconst 0, 1) := by decide +kernel
theorem dX2_beats_51 : decode cX2_beats 51 = .ok (.ireturn, 1) := by decide +kernel
theorem dX2_beats_52 : decode cX2_beats 52 = .ok (.aload_n 0, 1) := by decide +kernel
theorem dX2_beats_53 : decode cX2_beats 53 = .ok (.getfield 15, 3) := by decide +kernel
theorem dX2_beats_56 : decode cX2_beats 56 = .ok (.iload 4, 2) := by decide +kernel
theorem dX2_beats_58 : decode cX2_beats 58 = .ok (.iaload, 1) := by decide +kernel
theorem dX2_beats_59 : decode cX2_beats 59 = .ok (.aload_n 0, 1) := by decide +kernel
theorem dX2_beats_60 : decode cX2_beats 60 = .ok (.getfield 15, 3) := by decide +kernel
theorem dX2_beats_63 : decode cX2_beats 63 = .ok (.iload 5, 2) := by decide +kernel
theorem dX2_beats_65 : decode cX2_beats 65 = .ok (.iaload, 1) := by decide +kernel
theorem dX2_beats_66 : decode cX2_beats 66 = .ok (.if_icmp .eq 26, 3) := by decide +kernel
theorem dX2_beats_69 : decode cX2_beats 69 = .ok (.aload_n 0, 1) := by decide +kernel
theorem dX2_beats_70 : decode cX2_beats 70 = .ok (.getfield 15, 3) := by decide +kernel
theorem dX2_beats_73 : decode cX2_beats 73 = .ok (.iload 4, 2) := by decide +kernel
theorem dX2_beats_75 : decode cX2_beats 75 = .ok (.iaload, 1) := by decide +kernel
theorem dX2_beats_76 : decode cX2_beats 76 = .ok (.aload_n 0, 1) := by decide +kernel
theorem dX2_beats_77 : decode cX2_beats 77 = .ok (.getfield 15, 3) := by decide +kernel
theorem dX2_beats_80 : decode cX2_beats 80 = .ok (.iload 5, 2) := by decide +kernel
theorem dX2_beats_82 : decode cX2_beats 82 = .ok (.iaload, 1) := by decide +kernel
theorem dX2_beats_83 : decode cX2_beats 83 = .ok (.if_icmp .le 7, 3) := by decide +kernel
theorem dX2_beats_86 : decode cX2_beats 86 = .ok (.iconst 1, 1) := by decide +kernel
theorem dX2_beats_87 : decode cX2_beats 87 = .ok (.goto 4, 3) := by decide +kernel
theorem dX2_beats_90 : decode cX2_beats 90 = .ok (.iconst 0, 1) := by decide +kernel
theorem dX2_beats_91 : decode cX2_beats 91 = .ok (.ireturn, 1) := by decide +kernel
theorem dX2_beats_92 : decode cX2_beats 92 = .ok (.aload_n 0, 1) := by decide +kernel
theorem dX2_beats_93 : decode cX2_beats 93 = .ok (.getfield 9, 3) := by decide +kernel
theorem dX2_beats_96 : decode cX2_beats 96 = .ok (.iload 4, 2) := by decide +kernel
theorem dX2_beats_98 : decode cX2_beats 98 = .ok (.iaload, 1) := by decide +kernel
theorem dX2_beats_99 : decode cX2_beats 99 = .ok (.aload_n 0, 1) := by decide +kernel
theorem dX2_beats_100 : decode cX2_beats 100 = .ok (.getfield 9, 3) := by decide +kernel
theorem dX2_beats_103 : decode cX2_beats 103 = .ok (.iload 5, 2) := by decide +kernel
theorem dX2_beats_105 : decode cX2_beats 105 = .ok (.iaload, 1) := by decide +kernel
theorem dX2_beats_106 : decode cX2_beats 106 = .ok (.if_icmp .eq 20, 3) := by decide +kernel
theorem dX2_beats_109 : decode cX2_beats 109 = .ok (.aload_n 0, 1) := by decide +kernel
theorem dX2_beats_110 : decode cX2_beats 110 = .ok (.getfield 9, 3) := by decide +kernel
theorem dX2_beats_113 : decode cX2_beats 113 = .ok (.iload 4, 2) := by decide +kernel
theorem dX2_beats_115 : decode cX2_beats 115 = .ok (.iaload, 1) := by decide +kernel
theorem dX2_beats_116 : decode cX2_beats 116 = .ok (.iconst 2, 1) := by decide +kernel
theorem dX2_beats_117 : decode cX2_beats 117 = .ok (.if_icmp .ne 7, 3) := by decide +kernel
theorem dX2_beats_120 : decode cX2_beats 120 = .ok (.iconst 1, 1) := by decide +kernel
theorem dX2_beats_121 : decode cX2_beats 121 = .ok (.goto 4, 3) := by decide +kernel
theorem dX2_beats_124 : decode cX2_beats 124 = .ok (.iconst 0, 1) := by decide +kernel
theorem dX2_beats_125 : decode cX2_beats 125 = .ok (.ireturn, 1) := by decide +kernel
theorem dX2_beats_126 : decode cX2_beats 126 = .ok (.aload_n 0, 1) := by decide +kernel
theorem dX2_beats_127 : decode cX2_beats 127 = .ok (.getfield 18, 3) := by decide +kernel
theorem dX2_beats_130 : decode cX2_beats 130 = .ok (.iload 4, 2) := by decide +kernel
theorem dX2_beats_132 : decode cX2_beats 132 = .ok (.iaload, 1) := by decide +kernel
theorem dX2_beats_133 : decode cX2_beats 133 = .ok (.aload_n 0, 1) := by decide +kernel
theorem dX2_beats_134 : decode cX2_beats 134 = .ok (.getfield 18, 3) := by decide +kernel
theorem dX2_beats_137 : decode cX2_beats 137 = .ok (.iload 5, 2) := by decide +kernel
theorem dX2_beats_139 : decode cX2_beats 139 = .ok (.iaload, 1) := by decide +kernel
theorem dX2_beats_140 : decode cX2_beats 140 = .ok (.if_icmp .lt 7, 3) := by decide +kernel
theorem dX2_beats_143 : decode cX2_beats 143 = .ok (.iconst 1, 1) := by decide +kernel
theorem dX2_beats_144 : decode cX2_beats 144 = .ok (.goto 4, 3) := by decide +kernel
theorem dX2_beats_147 : decode cX2_beats 147 = .ok (.iconst 0, 1) := by decide +kernel
theorem dX2_beats_148 : decode cX2_beats 148 = .ok (.ireturn, 1) := by decide +kernel
theorem dX3_init_0 : decode cX3_init 0 = .ok (.aload_n 0, 1) := by decide +kernel
theorem dX3_init_1 : decode cX3_init 1 = .ok (.invokespecial 3, 3) := by decide +kernel
theorem dX3_init_4 : decode cX3_init 4 = .ok (.aload_n 0, 1) := by decide +kernel
theorem dX3_init_5 : decode cX3_init 5 = .ok (.iconst 0, 1) := by decide +kernel
theorem dX3_init_6 : decode cX3_init 6 = .ok (.putfield 9, 3) := by decide +kernel
theorem dX3_init_9 : decode cX3_init 9 = .ok (.aload_n 0, 1) := by decide +kernel
theorem dX3_init_10 : decode cX3_init 10 = .ok (.iconst 4, 1) := by decide +kernel
theorem dX3_init_11 : decode cX3_init 11 = .ok (.newarray .int, 2) := by decide +kernel
theorem dX3_init_13 : decode cX3_init 13 = .ok (.putfield 15, 3) := by decide +kernel
theorem dX3_init_16 : decode cX3_init 16 = .ok (.aload_n 0, 1) := by decide +kernel
theorem dX3_init_17 : decode cX3_init 17 = .ok (.iconst 4, 1) := by decide +kernel
theorem dX3_init_18 : decode cX3_init 18 = .ok (.newarray .int, 2) := by decide +kernel
theorem dX3_init_20 : decode cX3_init 20 = .ok (.putfield 19, 3) := by decide +kernel
theorem dX3_init_23 : decode cX3_init 23 = .ok (.return_, 1) := by decide +kernel
theorem dX3_size_0 : decode cX3_size 0 = .ok (.aload_n 0, 1) := by decide +kernel
theorem dX3_size_1 : decode cX3_size 1 = .ok (.getfield 9, 3) := by decide +kernel
theorem dX3_size_4 : decode cX3_size 4 = .ok (.ireturn, 1) := by decide +kernel
theorem dX3_append_0 : decode cX3_append 0 = .ok (.aload_n 0, 1) := by decide +kernel
theorem dX3_append_1 : decode cX3_append 1 = .ok (.getfield 9, 3) := by decide +kernel
theorem dX3_append_4 : decode cX3_append 4 = .ok (.iconst 4, 1) := by decide +kernel
theorem dX3_append_5 : decode cX3_append 5 = .ok (.if_icmp .lt 5, 3) := by decide +kernel
theorem dX3_append_8 : decode cX3_append 8 = .ok (.iconst (-1), 1) := by decide +kernel
theorem dX3_append_9 : decode cX3_append 9 = .ok (.ireturn, 1) := by decide +kernel
theorem dX3_append_10 : decode cX3_append 10 = .ok (.aload_n 0, 1) := by decide +kernel
theorem dX3_append_11 : decode cX3_append 11 = .ok (.getfield 15, 3) := by decide +kernel
theorem dX3_append_14 : decode cX3_append 14 = .ok (.aload_n 0, 1) := by decide +kernel
theorem dX3_append_15 : decode cX3_append 15 = .ok (.getfield 9, 3) := by decide +kernel
theorem dX3_append_18 : decode cX3_append 18 = .ok (.iload_n 1, 1) := by decide +kernel
theorem dX3_append_19 : decode cX3_append 19 = .ok (.iastore, 1) := by decide +kernel
theorem dX3_append_20 : decode cX3_append 20 = .ok (.aload_n 0, 1) := by decide +kernel
theorem dX3_append_21 : decode cX3_append 21 = .ok (.getfield 19, 3) := by decide +kernel
theorem dX3_append_24 : decode cX3_append 24 = .ok (.aload_n 0, 1) := by decide +kernel
theorem dX3_append_25 : decode cX3_append 25 = .ok (.getfield 9, 3) := by decide +kernel
theorem dX3_append_28 : decode cX3_append 28 = .ok (.iload_n 2, 1) := by decide +kernel
theorem dX3_append_29 : decode cX3_append 29 = .ok (.iastore, 1) := by decide +kernel
theorem dX3_append_30 : decode cX3_append 30 = .ok (.aload_n 0, 1) := by decide +kernel
theorem dX3_append_31 : decode cX3_append 31 = .ok (.dup, 1) := by decide +kernel
theorem dX3_append_32 : decode cX3_append 32 = .ok (.getfield 9, 3) := by decide +kernel
theorem dX3_append_35 : decode cX3_append 35 = .ok (.iconst 1, 1) := by decide +kernel
theorem dX3_append_36 : decode cX3_append 36 = .ok (.iadd, 1) := by decide +kernel
theorem dX3_append_37 : decode cX3_append 37 = .ok (.putfield 9, 3) := by decide +kernel
theorem dX3_append_40 : decode cX3_append 40 = .ok (.aload_n 0, 1) := by decide +kernel
theorem dX3_append_41 : decode cX3_append 41 = .ok (.getfield 9, 3) := by decide +kernel
theorem dX3_append_44 : decode cX3_append 44 = .ok (.iconst 1, 1) := by decide +kernel
theorem dX3_append_45 : decode cX3_append 45 = .ok (.isub, 1) := by decide +kernel
theorem dX3_append_46 : decode cX3_append 46 = .ok (.ireturn, 1) := by decide +kernel
theorem dX3_takes_0 : decode cX3_takes 0 = .ok (.iload_n 3, 1) := by decide +kernel
theorem dX3_takes_1 : decode cX3_takes 1 = .ok (.sipush 256, 3) := by decide +kernel
theorem dX3_takes_4 : decode cX3_takes 4 = .ok (.iand, 1) := by decide +kernel
theorem dX3_takes_5 : decode cX3_takes 5 = .ok (.ifCond .ne 31, 3) := by decide +kernel
theorem dX3_takes_8 : decode cX3_takes 8 = .ok (.iload_n 2, 1) := by decide +kernel
theorem dX3_takes_9 : decode cX3_takes 9 = .ok (.aload_n 0, 1) := by decide +kernel
theorem dX3_takes_10 : decode cX3_takes 10 = .ok (.getfield 15, 3) := by decide +kernel
theorem dX3_takes_13 : decode cX3_takes 13 = .ok (.iload_n 1, 1) := by decide +kernel
theorem dX3_takes_14 : decode cX3_takes 14 = .ok (.iaload, 1) := by decide +kernel
theorem dX3_takes_15 : decode cX3_takes 15 = .ok (.iand, 1) := by decide +kernel
theorem dX3_takes_16 : decode cX3_takes 16 = .ok (.ifCond .eq 20, 3) := by decide +kernel
theorem dX3_takes_19 : decode cX3_takes 19 = .ok (.iload_n 3, 1) := by decide +kernel
theorem dX3_takes_20 : decode cX3_takes 20 = .ok (.aload_n 0, 1) := by decide +kernel
theorem dX3_takes_21 : decode cX3_takes 21 = .ok (.getfield 19, 3) := by decide +kernel
theorem dX3_takes_24 : decode cX3_takes 24 = .ok (.iload_n 1, 1) := by decide +kernel
theorem dX3_takes_25 : decode cX3_takes 25 = .ok (.iaload, 1) := by decide +kernel
theorem dX3_takes_26 : decode cX3_takes 26 = .ok (.invokestatic 22, 3) := by decide +kernel
theorem dX3_takes_29 : decode cX3_takes 29 = .ok (.ifCond .eq 7, 3) := by decide +kernel
theorem dX3_takes_32 : decode cX3_takes 32 = .ok (.iconst 1, 1) := by decide +kernel
theorem dX3_takes_33 : decode cX3_takes 33 = .ok (.goto 4, 3) := by decide +kernel
theorem dX3_takes_36 : decode cX3_takes 36 = .ok (.iconst 0, 1) := by decide +kernel
theorem dX3_takes_37 : decode cX3_takes 37 = .ok (.ireturn, 1) := by decide +kernel
theorem dX4_init_0 : decode cX4_init 0 = .ok (.aload_n 0, 1) := by decide +kernel
theorem dX4_init_1 : decode cX4_init 1 = .ok (.invokespecial 3, 3) := by decide +kernel
theorem dX4_init_4 : decode cX4_init 4 = .ok (.aload_n 0, 1) := by decide +kernel
theorem dX4_init_5 : decode cX4_init 5 = .ok (.iconst 0, 1) := by decide +kernel
theorem dX4_init_6 : decode cX4_init 6 = .ok (.putfield 9, 3) := by decide +kernel
theorem dX4_init_9 : decode cX4_init 9 = .ok (.aload_n 0, 1) := by decide +kernel
theorem dX4_init_10 : decode cX4_init 10 = .ok (.bipush 6, 2) := by decide +kernel
theorem dX4_init_12 : decode cX4_init 12 = .ok (.newarray .long, 2) := by decide +kernel
theorem dX4_init_14 : decode cX4_init 14 = .ok (.putfield 15, 3) := by decide +kernel
theorem dX4_init_17 : decode cX4_init 17 = .ok (.aload_n 0, 1) := by decide +kernel
theorem dX4_init_18 : decode cX4_init 18 = .ok (.bipush 6, 2) := by decide +kernel
theorem dX4_init_20 : decode cX4_init 20 = .ok (.newarray .long, 2) := by decide +kernel
theorem dX4_init_22 : decode cX4_init 22 = .ok (.putfield 19, 3) := by decide +kernel
theorem dX4_init_25 : decode cX4_init 25 = .ok (.aload_n 0, 1) := by decide +kernel
theorem dX4_init_26 : decode cX4_init 26 = .ok (.bipush 6, 2) := by decide +kernel
theorem dX4_init_28 : decode cX4_init 28 = .ok (.newarray .int, 2) := by decide +kernel
theorem dX4_init_30 : decode cX4_init 30 = .ok (.putfield 22, 3) := by decide +kernel
theorem dX4_init_33 : decode cX4_init 33 = .ok (.aload_n 0, 1) := by decide +kernel
theorem dX4_init_34 : decode cX4_init 34 = .ok (.bipush 6, 2) := by decide +kernel
theorem dX4_init_36 : decode cX4_init 36 = .ok (.newarray .int, 2) := by decide +kernel
theorem dX4_init_38 : decode cX4_init 38 = .ok (.putfield 26, 3) := by decide +kernel
theorem dX4_init_41 : decode cX4_init 41 = .ok (.aload_n 0, 1) := by decide +kernel
theorem dX4_init_42 : decode cX4_init 42 = .ok (.bipush 6, 2) := by decide +kernel
theorem dX4_init_44 : decode cX4_init 44 = .ok (.newarray .int, 2) := by decide +kernel
theorem dX4_init_46 : decode cX4_init 46 = .ok (.putfield 29, 3) := by decide +kernel
theorem dX4_init_49 : decode cX4_init 49 = .ok (.return_, 1) := by decide +kernel
theorem dX4_size_0 : decode cX4_size 0 = .ok (.aload_n 0, 1) := by decide +kernel
theorem dX4_size_1 : decode cX4_size 1 = .ok (.getfield 9, 3) := by decide +kernel
theorem dX4_size_4 : decode cX4_size 4 = .ok (.ireturn, 1) := by decide +kernel
theorem dX4_append_0 : decode cX4_append 0 = .ok (.aload_n 0, 1) := by decide +kernel
theorem dX4_append_1 : decode cX4_append 1 = .ok (.getfield 9, 3) := by decide +kernel
theorem dX4_append_4 : decode cX4_append 4 = .ok (.bipush 6, 2) := by decide +kernel
theorem dX4_append_6 : decode cX4_append 6 = .ok (.if_icmp .lt 5, 3) := by decide +kernel
theorem dX4_append_9 : decode cX4_append 9 = .ok (.iconst (-1), 1) := by decide +kernel
theorem dX4_append_10 : decode cX4_append 10 = .ok (.ireturn, 1) := by decide +kernel
theorem dX4_append_11 : decode cX4_append 11 = .ok (.aload_n 0, 1) := by decide +kernel
theorem dX4_append_12 : decode cX4_append 12 = .ok (.getfield 15, 3) := by decide +kernel
theorem dX4_append_15 : decode cX4_append 15 = .ok (.aload_n 0, 1) := by decide +kernel
theorem dX4_append_16 : decode cX4_append 16 = .ok (.getfield 9, 3) := by decide +kernel
theorem dX4_append_19 : decode cX4_append 19 = .ok (.lload_n 1, 1) := by decide +kernel
theorem dX4_append_20 : decode cX4_append 20 = .ok (.lastore, 1) := by decide +kernel
theorem dX4_append_21 : decode cX4_append 21 = .ok (.aload_n 0, 1) := by decide +kernel
theorem dX4_append_22 : decode cX4_append 22 = .ok (.getfield 19, 3) := by decide +kernel
theorem dX4_append_25 : decode cX4_append 25 = .ok (.aload_n 0, 1) := by decide +kernel
theorem dX4_append_26 : decode cX4_append 26 = .ok (.getfield 9, 3) := by decide +kernel
theorem dX4_append_29 : decode cX4_append 29 = .ok (.lload_n 3, 1) := by decide +kernel
theorem dX4_append_30 : decode cX4_append 30 = .ok (.lastore, 1) := by decide +kernel
theorem dX4_append_31 : decode cX4_append 31 = .ok (.aload_n 0, 1) := by decide +kernel
theorem dX4_append_32 : decode cX4_append 32 = .ok (.getfield 22, 3) := by decide +kernel
theorem dX4_append_35 : decode cX4_append 35 = .ok (.aload_n 0, 1) := by decide +kernel
theorem dX4_append_36 : decode cX4_append 36 = .ok (.getfield 9, 3) := by decide +kernel
theorem dX4_append_39 : decode cX4_append 39 = .ok (.iload 5, 2) := by decide +kernel
theorem dX4_append_41 : decode cX4_append 41 = .ok (.iastore, 1) := by decide +kernel
theorem dX4_append_42 : decode cX4_append 42 = .ok (.aload_n 0, 1) := by decide +kernel
theorem dX4_append_43 : decode cX4_append 43 = .ok (.getfield 26, 3) := by decide +kernel
theorem dX4_append_46 : decode cX4_append 46 = .ok (.aload_n 0, 1) := by decide +kernel
theorem dX4_append_47 : decode cX4_append 47 = .ok (.getfield 9, 3) := by decide +kernel
theorem dX4_append_50 : decode cX4_append 50 = .ok (.iload 6, 2) := by decide +kernel
theorem dX4_append_52 : decode cX4_append 52 = .ok (.iastore, 1) := by decide +kernel
theorem dX4_append_53 : decode cX4_append 53 = .ok (.aload_n 0, 1) := by decide +kernel
theorem dX4_append_54 : decode cX4_append 54 = .ok (.getfield 29, 3) := by decide +kernel
theorem dX4_append_57 : decode cX4_append 57 = .ok (.aload_n 0, 1) := by decide +kernel
theorem dX4_append_58 : decode cX4_append 58 = .ok (.getfield 9, 3) := by decide +kernel
theorem dX4_append_61 : decode cX4_append 61 = .ok (.iload 7, 2) := by decide +kernel
theorem dX4_append_63 : decode cX4_append 63 = .ok (.iastore, 1) := by decide +kernel
theorem dX4_append_64 : decode cX4_append 64 = .ok (.aload_n 0, 1) := by decide +kernel
theorem dX4_append_65 : decode cX4_append 65 = .ok (.dup, 1) := by decide +kernel
theorem dX4_append_66 : decode cX4_append 66 = .ok (.getfield 9, 3) := by decide +kernel
theorem dX4_append_69 : decode cX4_append 69 = .ok (.iconst 1, 1) := by decide +kernel
theorem dX4_append_70 : decode cX4_append 70 = .ok (.iadd, 1) := by decide +kernel
theorem dX4_append_71 : decode cX4_append 71 = .ok (.putfield 9, 3) := by decide +kernel
theorem dX4_append_74 : decode cX4_append 74 = .ok (.aload_n 0, 1) := by decide +kernel
theorem dX4_append_75 : decode cX4_append 75 = .ok (.getfield 9, 3) := by decide +kernel
theorem dX4_append_78 : decode cX4_append 78 = .ok (.iconst 1, 1) := by decide +kernel
theorem dX4_append_79 : decode cX4_append 79 = .ok (.isub, 1) := by decide +kernel
theorem dX4_append_80 : decode cX4_append 80 = .ok (.ireturn, 1) := by decide +kernel
theorem dX4_remove_0 : decode cX4_remove 0 = .ok (.iload_n 1, 1) := by decide +kernel
theorem dX4_remove_1 : decode cX4_remove 1 = .ok (.istore_n 2, 1) := by decide +kernel
theorem dX4_remove_2 : decode cX4_remove 2 = .ok (.iload_n 2, 1) := by decide +kernel
theorem dX4_remove_3 : decode cX4_remove 3 = .ok (.aload_n 0, 1) := by decide +kernel
theorem dX4_remove_4 : decode cX4_remove 4 = .ok (.getfield 9, 3) := by decide +kernel
theorem dX4_remove_7 : decode cX4_remove 7 = .ok (.iconst 1, 1) := by decide +kernel
theorem dX4_remove_8 : decode cX4_remove 8 = .ok (.isub, 1) := by decide +kernel
theorem dX4_remove_9 : decode cX4_remove 9 = .ok (.if_icmp .ge 79, 3) := by decide +kernel
theorem dX4_remove_12 : decode cX4_remove 12 = .ok (.aload_n 0, 1) := by decide +kernel
theorem dX4_remove_13 : decode cX4_remove 13 = .ok (.getfield 15, 3) := by decide +kernel
theorem dX4_remove_16 : decode cX4_remove 16 = .ok (.iload_n 2, 1) := by decide +kernel
theorem dX4_remove_17 : decode cX4_remove 17 = .ok (.aload_n 0, 1) := by decide +kernel
theorem dX4_remove_18 : decode cX4_remove 18 = .ok (.getfield 15, 3) := by decide +kernel
theorem dX4_remove_21 : decode cX4_remove 21 = .ok (.iload_n 2, 1) := by decide +kernel
theorem dX4_remove_22 : decode cX4_remove 22 = .ok (.iconst 1, 1) := by decide +kernel
theorem dX4_remove_23 : decode cX4_remove 23 = .ok (.iadd, 1) := by decide +kernel
theorem dX4_remove_24 : decode cX4_remove 24 = .ok (.laload, 1) := by decide +kernel
theorem dX4_remove_25 : decode cX4_remove 25 = .ok (.lastore, 1) := by decide +kernel
theorem dX4_remove_26 : decode cX4_remove 26 = .ok (.aload_n 0, 1) := by decide +kernel
theorem dX4_remove_27 : decode cX4_remove 27 = .ok (.getfield 19, 3) := by decide +kernel
theorem dX4_remove_30 : decode cX4_remove 30 = .ok (.iload_n 2, 1) := by decide +kernel
theorem dX4_remove_31 : decode cX4_remove 31 = .ok (.aload_n 0, 1) := by decide +kernel
theorem dX4_remove_32 : decode cX4_remove 32 = .ok (.getfield 19, 3) := by decide +kernel
theorem dX4_remove_35 : decode cX4_remove 35 = .ok (.iload_n 2, 1) := by decide +kernel
theorem dX4_remove_36 : decode cX4_remove 36 = .ok (.iconst 1, 1) := by decide +kernel
theorem dX4_remove_37 : decode cX4_remove 37 = .ok (.iadd, 1) := by decide +kernel
theorem dX4_remove_38 : decode cX4_remove 38 = .ok (.laload, 1) := by decide +kernel
theorem dX4_remove_39 : decode cX4_remove 39 = .ok (.lastore, 1) := by decide +kernel
theorem dX4_remove_40 : decode cX4_remove 40 = .ok (.aload_n 0, 1) := by decide +kernel
theorem dX4_remove_41 : decode cX4_remove 41 = .ok (.getfield 22, 3) := by decide +kernel
theorem dX4_remove_44 : decode cX4_remove 44 = .ok (.iload_n 2, 1) := by decide +kernel
theorem dX4_remove_45 : decode cX4_remove 45 = .ok (.aload_n 0, 1) := by decide +kernel
theorem dX4_remove_46 : decode cX4_remove 46 = .ok (.getfield 22, 3) := by decide +kernel
theorem dX4_remove_49 : decode cX4_remove 49 = .ok (.iload_n 2, 1) := by decide +kernel
theorem dX4_remove_50 : decode cX4_remove 50 = .ok (.iconst 1, 1) := by decide +kernel
theorem dX4_remove_51 : decode cX4_remove 51 = .ok (.iadd, 1) := by decide +kernel
theorem dX4_remove_52 : decode cX4_remove 52 = .ok (.iaload, 1) := by decide +kernel
theorem dX4_remove_53 : decode cX4_remove 53 = .ok (.iastore, 1) := by decide +kernel
theorem dX4_remove_54 : decode cX4_remove 54 = .ok (.aload_n 0, 1) := by decide +kernel
theorem dX4_remove_55 : decode cX4_remove 55 = .ok (.getfield 26, 3) := by decide +kernel
theorem dX4_remove_58 : decode cX4_remove 58 = .ok (.iload_n 2, 1) := by decide +kernel
theorem dX4_remove_59 : decode cX4_remove 59 = .ok (.aload_n 0, 1) := by decide +kernel
theorem dX4_remove_60 : decode cX4_remove 60 = .ok (.getfield 26, 3) := by decide +kernel
theorem dX4_remove_63 : decode cX4_remove 63 = .ok (.iload_n 2, 1) := by decide +kernel
theorem dX4_remove_64 : decode cX4_remove 64 = .ok (.iconst 1, 1) := by decide +kernel
theorem dX4_remove_65 : decode cX4_remove 65 = .ok (.iadd, 1) := by decide +kernel
theorem dX4_remove_66 : decode cX4_remove 66 = .ok (.iaload, 1) := by decide +kernel
theorem dX4_remove_67 : decode cX4_remove 67 = .ok (.iastore, 1) := by decide +kernel
theorem dX4_remove_68 : decode cX4_remove 68 = .ok (.aload_n 0, 1) := by decide +kernel
theorem dX4_remove_69 : decode cX4_remove 69 = .ok (.getfield 29, 3) := by decide +kernel
theorem dX4_remove_72 : decode cX4_remove 72 = .ok (.iload_n 2, 1) := by decide +kernel
theorem dX4_remove_73 : decode cX4_remove 73 = .ok (.aload_n 0, 1) := by decide +kernel
theorem dX4_remove_74 : decode cX4_remove 74 = .ok (.getfield 29, 3) := by decide +kernel
theorem dX4_remove_77 : decode cX4_remove 77 = .ok (.iload_n 2, 1) := by decide +kernel
theorem dX4_remove_78 : decode cX4_remove 78 = .ok (.iconst 1, 1) := by decide +kernel
theorem dX4_remove_79 : decode cX4_remove 79 = .ok (.iadd, 1) := by decide +kernel
theorem dX4_remove_80 : decode cX4_remove 80 = .ok (.iaload, 1) := by decide +kernel
theorem dX4_remove_81 : decode cX4_remove 81 = .ok (.iastore, 1) := by decide +kernel
theorem dX4_remove_82 : decode cX4_remove 82 = .ok (.iinc 2 1, 3) := by decide +kernel
theorem dX4_remove_85 : decode cX4_remove 85 = .ok (.goto (-83), 3) := by decide +kernel
theorem dX4_remove_88 : decode cX4_remove 88 = .ok (.aload_n 0, 1) := by decide +kernel
theorem dX4_remove_89 : decode cX4_remove 89 = .ok (.dup, 1) := by decide +kernel
theorem dX4_remove_90 : decode cX4_remove 90 = .ok (.getfield 9, 3) := by decide +kernel
theorem dX4_remove_93 : decode cX4_remove 93 = .ok (.iconst 1, 1) := by decide +kernel
theorem dX4_remove_94 : decode cX4_remove 94 = .ok (.isub, 1) := by decide +kernel
theorem dX4_remove_95 : decode cX4_remove 95 = .ok (.putfield 9, 3) := by decide +kernel
theorem dX4_remove_98 : decode cX4_remove 98 = .ok (.return_, 1) := by decide +kernel
theorem dX4_outcome_0 : decode cX4_outcome 0 = .ok (.iconst 0, 1) := by decide +kernel
theorem dX4_outcome_1 : decode cX4_outcome 1 = .ok (.istore 5, 2) := by decide +kernel
theorem dX4_outcome_3 : decode cX4_outcome 3 = .ok (.iconst 0, 1) := by decide +kernel
theorem dX4_outcome_4 : decode cX4_outcome 4 = .ok (.istore 6, 2) := by decide +kernel
theorem dX4_outcome_6 : decode cX4_outcome 6 = .ok (.iload 6, 2) := by decide +kernel
theorem dX4_outcome_8 : decode cX4_outcome 8 = .ok (.iload 4, 2) := by decide +kernel
theorem dX4_outcome_10 : decode cX4_outcome 10 = .ok (.if_icmp .ge 36, 3) := by decide +kernel
theorem dX4_outcome_13 : decode cX4_outcome 13 = .ok (.aload_n 0, 1) := by decide +kernel
theorem dX4_outcome_14 : decode cX4_outcome 14 = .ok (.iload 6, 2) := by decide +kernel
theorem dX4_outcome_16 : decode cX4_outcome 16 = .ok (.lload_n 1, 1) := by decide +kernel
theorem dX4_outcome_17 : decode cX4_outcome 17 = .ok (.iload_n 3, 1) := by decide +kernel
theorem dX4_outcome_18 : decode cX4_outcome 18 = .ok (.iload 5, 2) := by decide +kernel
theorem dX4_outcome_20 : decode cX4_outcome 20 = .ok (.invokevirtual 32, 3) := by decide +kernel
theorem dX4_outcome_23 : decode cX4_outcome 23 = .ok (.ifCond .eq 17, 3) := by decide +kernel
theorem dX4_outcome_26 : decode cX4_outcome 26 = .ok (.aload_n 0, 1) := by decide +kernel
theorem dX4_outcome_27 : decode cX4_outcome 27 = .ok (.getfield 29, 3) := by decide +kernel
theorem dX4_outcome_30 : decode cX4_outcome 30 = .ok (.iload 6, 2) := by decide +kernel
theorem dX4_outcome_32 : decode cX4_outcome 32 = .ok (.iaload, 1) := by decide +kernel
theorem dX4_outcome_33 : decode cX4_outcome 33 = .ok (.iload 5, 2) := by decide +kernel
theorem dX4_outcome_35 : decode cX4_outcome 35 = .ok (.invokestatic 36, 3) := by decide +kernel
theorem dX4_outcome_38 : decode cX4_outcome 38 = .ok (.istore 5, 2) := by decide +kernel
theorem dX4_outcome_40 : decode cX4_outcome 40 = .ok (.iinc 6 1, 3) := by decide +kernel
theorem dX4_outcome_43 : decode cX4_outcome 43 = .ok (.goto (-37), 3) := by decide +kernel
theorem dX4_outcome_46 : decode cX4_outcome 46 = .ok (.iload 5, 2) := by decide +kernel
theorem dX4_outcome_48 : decode cX4_outcome 48 = .ok (.ireturn, 1) := by decide +kernel
theorem dX4_holds_0 : decode cX4_holds 0 = .ok (.lload_n 2, 1) := by decide +kernel
theorem dX4_holds_1 : decode cX4_holds 1 = .ok (.aload_n 0, 1) := by decide +kernel
theorem dX4_holds_2 : decode cX4_holds 2 = .ok (.getfield 15, 3) := by decide +kernel
theorem dX4_holds_5 : decode cX4_holds 5 = .ok (.iload_n 1, 1) := by decide +kernel
theorem dX4_holds_6 : decode cX4_holds 6 = .ok (.laload, 1) := by decide +kernel
theorem dX4_holds_7 : decode cX4_holds 7 = .ok (.land, 1) := by decide +kernel
theorem dX4_holds_8 : decode cX4_holds 8 = .ok (.aload_n 0, 1) := by decide +kernel
theorem dX4_holds_9 : decode cX4_holds 9 = .ok (.getfield 15, 3) := by decide +kernel
theorem dX4_holds_12 : decode cX4_holds 12 = .ok (.iload_n 1, 1) := by decide +kernel
theorem dX4_holds_13 : decode cX4_holds 13 = .ok (.laload, 1) := by decide +kernel
theorem dX4_holds_14 : decode cX4_holds 14 = .ok (.lcmp, 1) := by decide +kernel
theorem dX4_holds_15 : decode cX4_holds 15 = .ok (.ifCond .ne 66, 3) := by decide +kernel
theorem dX4_holds_18 : decode cX4_holds 18 = .ok (.aload_n 0, 1) := by decide +kernel
theorem dX4_holds_19 : decode cX4_holds 19 = .ok (.getfield 19, 3) := by decide +kernel
theorem dX4_holds_22 : decode cX4_holds 22 = .ok (.iload_n 1, 1) := by decide +kernel
theorem dX4_holds_23 : decode cX4_holds 23 = .ok (.laload, 1) := by decide +kernel
theorem dX4_holds_24 : decode cX4_holds 24 = .ok (.lconst 0, 1) := by decide +kernel
theorem dX4_holds_25 : decode cX4_holds 25 = .ok (.lcmp, 1) := by decide +kernel
theorem dX4_holds_26 : decode cX4_holds 26 = .ok (.ifCond .eq 16, 3) := by decide +kernel
theorem dX4_holds_29 : decode cX4_holds 29 = .ok (.lload_n 2, 1) := by decide +kernel
theorem dX4_holds_30 : decode cX4_holds 30 = .ok (.aload_n 0, 1) := by decide +kernel
theorem dX4_holds_31 : decode cX4_holds 31 = .ok (.getfield 19, 3) := by decide +kernel
theorem dX4_holds_34 : decode cX4_holds 34 = .ok (.iload_n 1, 1) := by decide +kernel
theorem dX4_holds_35 : decode cX4_holds 35 = .ok (.laload, 1) := by decide +kernel
theorem dX4_holds_36 : decode cX4_holds 36 = .ok (.land, 1) := by decide +kernel
theorem dX4_holds_37 : decode cX4_holds 37 = .ok (.lconst 0, 1) := by decide +kernel
theorem dX4_holds_38 : decode cX4_holds 38 = .ok (.lcmp, 1) := by decide +kernel
theorem dX4_holds_39 : decode cX4_holds 39 = .ok (.ifCond .eq 42, 3) := by decide +kernel
theorem dX4_holds_42 : decode cX4_holds 42 = .ok (.aload_n 0, 1) := by decide +kernel
theorem dX4_holds_43 : decode cX4_holds 43 = .ok (.getfield 22, 3) := by decide +kernel
theorem dX4_holds_46 : decode cX4_holds 46 = .ok (.iload_n 1, 1) := by decide +kernel
theorem dX4_holds_47 : decode cX4_holds 47 = .ok (.iaload, 1) := by decide +kernel
theorem dX4_holds_48 : decode cX4_holds 48 = .ok (.ifCond .eq 15, 3) := by decide +kernel
theorem dX4_holds_51 : decode cX4_holds 51 = .ok (.iload 4, 2) := by decide +kernel
theorem dX4_holds_53 : decode cX4_holds 53 = .ok (.aload_n 0, 1) := by decide +kernel
theorem dX4_holds_54 : decode cX4_holds 54 = .ok (.getfield 22, 3) := by decide +kernel
theorem dX4_holds_57 : decode cX4_holds 57 = .ok (.iload_n 1, 1) := by decide +kernel
theorem dX4_holds_58 : decode cX4_holds 58 = .ok (.iaload, 1) := by decide +kernel
theorem dX4_holds_59 : decode cX4_holds 59 = .ok (.iand, 1) := by decide +kernel
theorem dX4_holds_60 : decode cX4_holds 60 = .ok (.ifCond .eq 21, 3) := by decide +kernel
theorem dX4_holds_63 : decode cX4_holds 63 = .ok (.iload 5, 2) := by decide +kernel
theorem dX4_holds_65 : decode cX4_holds 65 = .ok (.aload_n 0, 1) := by decide +kernel
theorem dX4_holds_66 : decode cX4_holds 66 = .ok (.getfield 26, 3) := by decide +kernel
theorem dX4_holds_69 : decode cX4_holds 69 = .ok (.iload_n 1, 1) := by decide +kernel
theorem dX4_holds_70 : decode cX4_holds 70 = .ok (.iaload, 1) := by decide +kernel
theorem dX4_holds_71 : decode cX4_holds 71 = .ok (.invokestatic 40, 3) := by decide +kernel
theorem dX4_holds_74 : decode cX4_holds 74 = .ok (.ifCond .eq 7, 3) := by decide +kernel
theorem dX4_holds_77 : decode cX4_holds 77 = .ok (.iconst 1, 1) := by decide +kernel
theorem dX4_holds_78 : decode cX4_holds 78 = .ok (.goto 4, 3) := by decide +kernel
theorem dX4_holds_81 : decode cX4_holds 81 = .ok (.iconst 0, 1) := by decide +kernel
theorem dX4_holds_82 : decode cX4_holds 82 = .ok (.ireturn, 1) := by decide +kernel
theorem dX4_act_0 : decode cX4_act 0 = .ok (.iload_n 0, 1) := by decide +kernel
theorem dX4_act_1 : decode cX4_act 1 = .ok (.bipush 9, 2) := by decide +kernel
theorem dX4_act_3 : decode cX4_act 3 = .ok (.if_icmp .ne 9, 3) := by decide +kernel
theorem dX4_act_6 : decode cX4_act 6 = .ok (.iload_n 1, 1) := by decide +kernel
theorem dX4_act_7 : decode cX4_act 7 = .ok (.sipush (-257), 3) := by decide +kernel
theorem dX4_act_10 : decode cX4_act 10 = .ok (.iand, 1) := by decide +kernel
theorem dX4_act_11 : decode cX4_act 11 = .ok (.ireturn, 1) := by decide +kernel
theorem dX4_act_12 : decode cX4_act 12 = .ok (.iload_n 1, 1) := by decide +kernel
theorem dX4_act_13 : decode cX4_act 13 = .ok (.iconst 1, 1) := by decide +kernel
theorem dX4_act_14 : decode cX4_act 14 = .ok (.iload_n 0, 1) := by decide +kernel
theorem dX4_act_15 : decode cX4_act 15 = .ok (.ishl, 1) := by decide +kernel
theorem dX4_act_16 : decode cX4_act 16 = .ok (.ior, 1) := by decide +kernel
theorem dX4_act_17 : decode cX4_act 17 = .ok (.ireturn, 1) := by decide +kernel
theorem dX5_init_0 : decode cX5_init 0 = .ok (.aload_n 0, 1) := by decide +kernel
theorem dX5_init_1 : decode cX5_init 1 = .ok (.invokespecial 3, 3) := by decide +kernel
theorem dX5_init_4 : decode cX5_init 4 = .ok (.aload_n 0, 1) := by decide +kernel
theorem dX5_init_5 : decode cX5_init 5 = .ok (.iconst 0, 1) := by decide +kernel
theorem dX5_init_6 : decode cX5_init 6 = .ok (.putfield 9, 3) := by decide +kernel
theorem dX5_init_9 : decode cX5_init 9 = .ok (.aload_n 0, 1) := by decide +kernel
theorem dX5_init_10 : decode cX5_init 10 = .ok (.bipush 60, 2) := by decide +kernel
theorem dX5_init_12 : decode cX5_init 12 = .ok (.putfield 13, 3) := by decide +kernel
theorem dX5_init_15 : decode cX5_init 15 = .ok (.aload_n 0, 1) := by decide +kernel
theorem dX5_init_16 : decode cX5_init 16 = .ok (.sipush 180, 3) := by decide +kernel
theorem dX5_init_19 : decode cX5_init 19 = .ok (.putfield 16, 3) := by decide +kernel
theorem dX5_init_22 : decode cX5_init 22 = .ok (.aload_n 0, 1) := by decide +kernel
theorem dX5_init_23 : decode cX5_init 23 = .ok (.iconst 0, 1) := by decide +kernel
theorem dX5_init_24 : decode cX5_init 24 = .ok (.putfield 19, 3) := by decide +kernel
theorem dX5_init_27 : decode cX5_init 27 = .ok (.aload_n 0, 1) := by decide +kernel
theorem dX5_init_28 : decode cX5_init 28 = .ok (.new 22, 3) := by decide +kernel
theorem dX5_init_31 : decode cX5_init 31 = .ok (.dup, 1) := by decide +kernel
theorem dX5_init_32 : decode cX5_init 32 = .ok (.invokespecial 24, 3) := by decide +kernel
theorem dX5_init_35 : decode cX5_init 35 = .ok (.putfield 25, 3) := by decide +kernel
theorem dX5_init_38 : decode cX5_init 38 = .ok (.aload_n 0, 1) := by decide +kernel
theorem dX5_init_39 : decode cX5_init 39 = .ok (.new 29, 3) := by decide +kernel
theorem dX5_init_42 : decode cX5_init 42 = .ok (.dup, 1) := by decide +kernel
theorem dX5_init_43 : decode cX5_init 43 = .ok (.invokespecial 31, 3) := by decide +kernel
theorem dX5_init_46 : decode cX5_init 46 = .ok (.putfield 32, 3) := by decide +kernel
theorem dX5_init_49 : decode cX5_init 49 = .ok (.aload_n 0, 1) := by decide +kernel
theorem dX5_init_50 : decode cX5_init 50 = .ok (.new 36, 3) := by decide +kernel
theorem dX5_init_53 : decode cX5_init 53 = .ok (.dup, 1) := by decide +kernel
theorem dX5_init_54 : decode cX5_init 54 = .ok (.invokespecial 38, 3) := by decide +kernel
theorem dX5_init_57 : decode cX5_init 57 = .ok (.putfield 39, 3) := by decide +kernel
theorem dX5_init_60 : decode cX5_init 60 = .ok (.aload_n 0, 1) := by decide +kernel
theorem dX5_init_61 : decode cX5_init 61 = .ok (.new 43, 3) := by decide +kernel
theorem dX5_init_64 : decode cX5_init 64 = .ok (.dup, 1) := by decide +kernel
theorem dX5_init_65 : decode cX5_init 65 = .ok (.invokespecial 45, 3) := by decide +kernel
theorem dX5_init_68 : decode cX5_init 68 = .ok (.putfield 46, 3) := by decide +kernel
theorem dX5_init_71 : decode cX5_init 71 = .ok (.aload_n 0, 1) := by decide +kernel
theorem dX5_init_72 : decode cX5_init 72 = .ok (.new 50, 3) := by decide +kernel
theorem dX5_init_75 : decode cX5_init 75 = .ok (.dup, 1) := by decide +kernel
theorem dX5_init_76 : decode cX5_init 76 = .ok (.invokespecial 52, 3) := by decide +kernel
theorem dX5_init_79 : decode cX5_init 79 = .ok (.putfield 53, 3) := by decide +kernel
theorem dX5_init_82 : decode cX5_init 82 = .ok (.aload_n 0, 1) := by decide +kernel
theorem dX5_init_83 : decode cX5_init 83 = .ok (.bipush 30, 2) := by decide +kernel
theorem dX5_init_85 : decode cX5_init 85 = .ok (.newarray .int, 2) := by decide +kernel
theorem dX5_init_87 : decode cX5_init 87 = .ok (.putfield 57, 3) := by decide +kernel
theorem dX5_init_90 : decode cX5_init 90 = .ok (.aload_n 0, 1) := by decide +kernel
theorem dX5_init_91 : decode cX5_init 91 = .ok (.bipush 30, 2) := by decide +kernel
theorem dX5_init_93 : decode cX5_init 93 = .ok (.newarray .int, 2) := by decide +kernel
theorem dX5_init_95 : decode cX5_init 95 = .ok (.putfield 61, 3) := by decide +kernel
theorem dX5_init_98 : decode cX5_init 98 = .ok (.return_, 1) := by decide +kernel
theorem dX5_pass_0 : decode cX5_pass 0 = .ok (.iload_n 1, 1) := by decide +kernel
theorem dX5_pass_1 : decode cX5_pass 1 = .ok (.iconst 1, 1) := by decide +kernel
theorem dX5_pass_2 : decode cX5_pass 2 = .ok (.if_icmp .lt 10, 3) := by decide +kernel
theorem dX5_pass_5 : decode cX5_pass 5 = .ok (.iload_n 1, 1) := by decide +kernel
theorem dX5_pass_6 : decode cX5_pass 6 = .ok (.sipush 2000, 3) := by decide +kernel
theorem dX5_pass_9 : decode cX5_pass 9 = .ok (.if_icmp .le 13, 3) := by decide +kernel
theorem dX5_pass_12 : decode cX5_pass 12 = .ok (.new 64, 3) := by decide +kernel
theorem dX5_pass_15 : decode cX5_pass 15 = .ok (.dup, 1) := by decide +kernel
theorem dX5_pass_16 : decode cX5_pass 16 = .ok (.ldc 66, 2) := by decide +kernel
theorem dX5_pass_18 : decode cX5_pass 18 = .ok (.invokespecial 68, 3) := by decide +kernel
theorem dX5_pass_21 : decode cX5_pass 21 = .ok (.athrow, 1) := by decide +kernel
theorem dX5_pass_22 : decode cX5_pass 22 = .ok (.aload_n 0, 1) := by decide +kernel
theorem dX5_pass_23 : decode cX5_pass 23 = .ok (.getfield 9, 3) := by decide +kernel
theorem dX5_pass_26 : decode cX5_pass 26 = .ok (.iload_n 1, 1) := by decide +kernel
theorem dX5_pass_27 : decode cX5_pass 27 = .ok (.iadd, 1) := by decide +kernel
theorem dX5_pass_28 : decode cX5_pass 28 = .ok (.ldc 71, 2) := by decide +kernel
theorem dX5_pass_30 : decode cX5_pass 30 = .ok (.if_icmp .le 13, 3) := by decide +kernel
theorem dX5_pass_33 : decode cX5_pass 33 = .ok (.new 72, 3) := by decide +kernel
theorem dX5_pass_36 : decode cX5_pass 36 = .ok (.dup, 1) := by decide +kernel
theorem dX5_pass_37 : decode cX5_pass 37 = .ok (.ldc 74, 2) := by decide +kernel
theorem dX5_pass_39 : decode cX5_pass 39 = .ok (.invokespecial 76, 3) := by decide +kernel
theorem dX5_pass_42 : decode cX5_pass 42 = .ok (.athrow, 1) := by decide +kernel
theorem dX5_pass_43 : decode cX5_pass 43 = .ok (.aload_n 0, 1) := by decide +kernel
theorem dX5_pass_44 : decode cX5_pass 44 = .ok (.dup, 1) := by decide +kernel
theorem dX5_pass_45 : decode cX5_pass 45 = .ok (.getfield 9, 3) := by decide +kernel
theorem dX5_pass_48 : decode cX5_pass 48 = .ok (.iload_n 1, 1) := by decide +kernel
theorem dX5_pass_49 : decode cX5_pass 49 = .ok (.iadd, 1) := by decide +kernel
theorem dX5_pass_50 : decode cX5_pass 50 = .ok (.putfield 9, 3) := by decide +kernel
theorem dX5_pass_53 : decode cX5_pass 53 = .ok (.aload_n 0, 1) := by decide +kernel
theorem dX5_pass_54 : decode cX5_pass 54 = .ok (.getfield 9, 3) := by decide +kernel
theorem dX5_pass_57 : decode cX5_pass 57 = .ok (.ireturn, 1) := by decide +kernel
theorem dX5_now_0 : decode cX5_now 0 = .ok (.aload_n 0, 1) := by decide +kernel
theorem dX5_now_1 : decode cX5_now 1 = .ok (.getfield 9, 3) := by decide +kernel
theorem dX5_now_4 : decode cX5_now 4 = .ok (.ireturn, 1) := by decide +kernel
theorem dX5_setThreshold_0 : decode cX5_setThreshold 0 = .ok (.iload_n 1, 1) := by decide +kernel
theorem dX5_setThreshold_1 : decode cX5_setThreshold 1 = .ok (.iconst 1, 1) := by decide +kernel
theorem dX5_setThreshold_2 : decode cX5_setThreshold 2 = .ok (.if_icmp .lt 9, 3) := by decide +kernel
theorem dX5_setThreshold_5 : decode cX5_setThreshold 5 = .ok (.iload_n 1, 1) := by decide +kernel
theorem dX5_setThreshold_6 : decode cX5_setThreshold 6 = .ok (.bipush 100, 2) := by decide +kernel
theorem dX5_setThreshold_8 : decode cX5_setThreshold 8 = .ok (.if_icmp .le 13, 3) := by decide +kernel
theorem dX5_setThreshold_11 : decode cX5_setThreshold 11 = .ok (.new 64, 3) := by decide +kernel
theorem dX5_setThreshold_14 : decode cX5_setThreshold 14 = .ok (.dup, 1) := by decide +kernel
theorem dX5_setThreshold_15 : decode cX5_setThreshold 15 = .ok (.ldc 77, 2) := by decide +kernel
theorem dX5_setThreshold_17 : decode cX5_setThreshold 17 = .ok (.invokespecial 68, 3) := by decide +kernel
theorem dX5_setThreshold_20 : decode cX5_setThreshold 20 = .ok (.athrow, 1) := by decide +kernel
theorem dX5_setThreshold_21 : decode cX5_setThreshold 21 = .ok (.aload_n 0, 1) := by decide +kernel
theorem dX5_setThreshold_22 : decode cX5_setThreshold 22 = .ok (.getfield 13, 3) := by decide +kernel
theorem dX5_setThreshold_25 : decode cX5_setThreshold 25 = .ok (.istore_n 2, 1) := by decide +kernel
theorem dX5_setThreshold_26 : decode cX5_setThreshold 26 = .ok (.aload_n 0, 1) := by decide +kernel
theorem dX5_setThreshold_27 : decode cX5_setThreshold 27 = .ok (.iload_n 1, 1) := by decide +kernel
theorem dX5_setThreshold_28 : decode cX5_setThreshold 28 = .ok (.putfield 13, 3) := by decide +kernel
theorem dX5_setThreshold_31 : decode cX5_setThreshold 31 = .ok (.iload_n 2, 1) := by decide +kernel
theorem dX5_setThreshold_32 : decode cX5_setThreshold 32 = .ok (.ireturn, 1) := by decide +kernel
theorem dX5_setWindow_0 : decode cX5_setWindow 0 = .ok (.iload_n 1, 1) := by decide +kernel
theorem dX5_setWindow_1 : decode cX5_setWindow 1 = .ok (.ifCond .lt 10, 3) := by decide +kernel
theorem dX5_setWindow_4 : decode cX5_setWindow 4 = .ok (.iload_n 1, 1) := by decide +kernel
theorem dX5_setWindow_5 : decode cX5_setWindow 5 = .ok (.sipush 1440, 3) := by decide +kernel
theorem dX5_setWindow_8 : decode cX5_setWindow 8 = .ok (.if_icmp .le 13, 3) := by decide +kernel
theorem dX5_setWindow_11 : decode cX5_setWindow 11 = .ok (.new 64, 3) := by decide +kernel
theorem dX5_setWindow_14 : decode cX5_setWindow 14 = .ok (.dup, 1) := by decide +kernel
theorem dX5_setWindow_15 : decode cX5_setWindow 15 = .ok (.ldc 79, 2) := by decide +kernel
theorem dX5_setWindow_17 : decode cX5_setWindow 17 = .ok (.invokespecial 68, 3) := by decide +kernel
theorem dX5_setWindow_20 : decode cX5_setWindow 20 = .ok (.athrow, 1) := by decide +kernel
theorem dX5_setWindow_21 : decode cX5_setWindow 21 = .ok (.aload_n 0, 1) := by decide +kernel
theorem dX5_setWindow_22 : decode cX5_setWindow 22 = .ok (.getfield 16, 3) := by decide +kernel
theorem dX5_setWindow_25 : decode cX5_setWindow 25 = .ok (.istore_n 2, 1) := by decide +kernel
theorem dX5_setWindow_26 : decode cX5_setWindow 26 = .ok (.aload_n 0, 1) := by decide +kernel
theorem dX5_setWindow_27 : decode cX5_setWindow 27 = .ok (.iload_n 1, 1) := by decide +kernel
theorem dX5_setWindow_28 : decode cX5_setWindow 28 = .ok (.putfield 16, 3) := by decide +kernel
theorem dX5_setWindow_31 : decode cX5_setWindow 31 = .ok (.iload_n 2, 1) := by decide +kernel
theorem dX5_setWindow_32 : decode cX5_setWindow 32 = .ok (.ireturn, 1) := by decide +kernel
theorem dX5_likeness_0 : decode cX5_likeness 0 = .ok (.lload_n 1, 1) := by decide +kernel
theorem dX5_likeness_1 : decode cX5_likeness 1 = .ok (.lconst 0, 1) := by decide +kernel
theorem dX5_likeness_2 : decode cX5_likeness 2 = .ok (.lcmp, 1) := by decide +kernel
theorem dX5_likeness_3 : decode cX5_likeness 3 = .ok (.ifCond .eq 9, 3) := by decide +kernel
theorem dX5_likeness_6 : decode cX5_likeness 6 = .ok (.lload_n 3, 1) := by decide +kernel
theorem dX5_likeness_7 : decode cX5_likeness 7 = .ok (.lconst 0, 1) := by decide +kernel
theorem dX5_likeness_8 : decode cX5_likeness 8 = .ok (.lcmp, 1) := by decide +kernel
theorem dX5_likeness_9 : decode cX5_likeness 9 = .ok (.ifCond .ne 13, 3) := by decide +kernel
theorem dX5_likeness_12 : decode cX5_likeness 12 = .ok (.new 64, 3) := by decide +kernel
theorem dX5_likeness_15 : decode cX5_likeness 15 = .ok (.dup, 1) := by decide +kernel
theorem dX5_likeness_16 : decode cX5_likeness 16 = .ok (.ldc 81, 2) := by decide +kernel
theorem dX5_likeness_18 : decode cX5_likeness 18 = .ok (.invokespecial 68, 3) := by decide +kernel
theorem dX5_likeness_21 : decode cX5_likeness 21 = .ok (.athrow, 1) := by decide +kernel
theorem dX5_likeness_22 : decode cX5_likeness 22 = .ok (.lload_n 1, 1) := by decide +kernel
theorem dX5_likeness_23 : decode cX5_likeness 23 = .ok (.lload_n 3, 1) := by decide +kernel
theorem dX5_likeness_24 : decode cX5_likeness 24 = .ok (.invokestatic 83, 3) := by decide +kernel
theorem dX5_likeness_27 : decode cX5_likeness 27 = .ok (.ireturn, 1) := by decide +kernel
theorem dX5_addSource_0 : decode cX5_addSource 0 = .ok (.aload_n 0, 1) := by decide +kernel
theorem dX5_addSource_1 : decode cX5_addSource 1 = .ok (.getfield 19, 3) := by decide +kernel
theorem dX5_addSource_4 : decode cX5_addSource 4 = .ok (.bipush 6, 2) := by decide +kernel
theorem dX5_addSource_6 : decode cX5_addSource 6 = .ok (.if_icmp .lt 13, 3) := by decide +kernel
theorem dX5_addSource_9 : decode cX5_addSource 9 = .ok (.new 72, 3) := by decide +kernel
theorem dX5_addSource_12 : decode cX5_addSource 12 = .ok (.dup, 1) := by decide +kernel
theorem dX5_addSource_13 : decode cX5_addSource 13 = .ok (.ldc 87, 2) := by decide +kernel
theorem dX5_addSource_15 : decode cX5_addSource 15 = .ok (.invokespecial 76, 3) := by decide +kernel
theorem dX5_addSource_18 : decode cX5_addSource 18 = .ok (.athrow, 1) := by decide +kernel
theorem dX5_addSource_19 : decode cX5_addSource 19 = .ok (.aload_n 0, 1) := by decide +kernel
theorem dX5_addSource_20 : decode cX5_addSource 20 = .ok (.dup, 1) := by decide +kernel
theorem dX5_addSource_21 : decode cX5_addSource 21 = .ok (.getfield 19, 3) := by decide +kernel
theorem dX5_addSource_24 : decode cX5_addSource 24 = .ok (.iconst 1, 1) := by decide +kernel
theorem dX5_addSource_25 : decode cX5_addSource 25 = .ok (.iadd, 1) := by decide +kernel
theorem dX5_addSource_26 : decode cX5_addSource 26 = .ok (.putfield 19, 3) := by decide +kernel
theorem dX5_addSource_29 : decode cX5_addSource 29 = .ok (.aload_n 0, 1) := by decide +kernel
theorem dX5_addSource_30 : decode cX5_addSource 30 = .ok (.getfield 19, 3) := by decide +kernel
theorem dX5_addSource_33 : decode cX5_addSource 33 = .ok (.iconst 1, 1) := by decide +kernel
theorem dX5_addSource_34 : decode cX5_addSource 34 = .ok (.isub, 1) := by decide +kernel
theorem dX5_addSource_35 : decode cX5_addSource 35 = .ok (.ireturn, 1) := by decide +kernel
theorem dX5_fetch_0 : decode cX5_fetch 0 = .ok (.iload_n 1, 1) := by decide +kernel
theorem dX5_fetch_1 : decode cX5_fetch 1 = .ok (.ifCond .lt 11, 3) := by decide +kernel
theorem dX5_fetch_4 : decode cX5_fetch 4 = .ok (.iload_n 1, 1) := by decide +kernel
theorem dX5_fetch_5 : decode cX5_fetch 5 = .ok (.aload_n 0, 1) := by decide +kernel
theorem dX5_fetch_6 : decode cX5_fetch 6 = .ok (.getfield 19, 3) := by decide +kernel
theorem dX5_fetch_9 : decode cX5_fetch 9 = .ok (.if_icmp .lt 13, 3) := by decide +kernel
theorem dX5_fetch_12 : decode cX5_fetch 12 = .ok (.new 89, 3) := by decide +kernel
theorem dX5_fetch_15 : decode cX5_fetch 15 = .ok (.dup, 1) := by decide +kernel
theorem dX5_fetch_16 : decode cX5_fetch 16 = .ok (.ldc 91, 2) := by decide +kernel
theorem dX5_fetch_18 : decode cX5_fetch 18 = .ok (.invokespecial 93, 3) := by decide +kernel
theorem dX5_fetch_21 : decode cX5_fetch 21 = .ok (.athrow, 1) := by decide +kernel
theorem dX5_fetch_22 : decode cX5_fetch 22 = .ok (.iload_n 2, 1) := by decide +kernel
theorem dX5_fetch_23 : decode cX5_fetch 23 = .ok (.invokestatic 94, 3) := by decide +kernel
theorem dX5_fetch_26 : decode cX5_fetch 26 = .ok (.ifCond .eq 25, 3) := by decide +kernel
theorem dX5_fetch_29 : decode cX5_fetch 29 = .ok (.iload_n 3, 1) := by decide +kernel
theorem dX5_fetch_30 : decode cX5_fetch 30 = .ok (.invokestatic 94, 3) := by decide +kernel
theorem dX5_fetch_33 : decode cX5_fetch 33 = .ok (.ifCond .eq 18, 3) := by decide +kernel
theorem dX5_fetch_36 : decode cX5_fetch 36 = .ok (.iload 6, 2) := by decide +kernel
theorem dX5_fetch_38 : decode cX5_fetch 38 = .ok (.invokestatic 98, 3) := by decide +kernel
theorem dX5_fetch_41 : decode cX5_fetch 41 = .ok (.ifCond .eq 10, 3) := by decide +kernel
theorem dX5_fetch_44 : decode cX5_fetch 44 = .ok (.lload 4, 2) := by decide +kernel
theorem dX5_fetch_46 : decode cX5_fetch 46 = .ok (.lconst 0, 1) := by decide +kernel
theorem dX5_fetch_47 : decode cX5_fetch 47 = .ok (.lcmp, 1) := by decide +kernel
theorem dX5_fetch_48 : decode cX5_fetch 48 = .ok (.ifCond .ne 13, 3) := by decide +kernel
theorem dX5_fetch_51 : decode cX5_fetch 51 = .ok (.new 64, 3) := by decide +kernel
theorem dX5_fetch_54 : decode cX5_fetch 54 = .ok (.dup, 1) := by decide +kernel
theorem dX5_fetch_55 : decode cX5_fetch 55 = .ok (.ldc 101, 2) := by decide +kernel
theorem dX5_fetch_57 : decode cX5_fetch 57 = .ok (.invokespecial 68, 3) := by decide +kernel
theorem dX5_fetch_60 : decode cX5_fetch 60 = .ok (.athrow, 1) := by decide +kernel
theorem dX5_fetch_61 : decode cX5_fetch 61 = .ok (.aload_n 0, 1) := by decide +kernel
theorem dX5_fetch_62 : decode cX5_fetch 62 = .ok (.iload_n 1, 1) := by decide +kernel
theorem dX5_fetch_63 : decode cX5_fetch 63 = .ok (.iload_n 2, 1) := by decide +kernel
theorem dX5_fetch_64 : decode cX5_fetch 64 = .ok (.iload_n 3, 1) := by decide +kernel
theorem dX5_fetch_65 : decode cX5_fetch 65 = .ok (.lload 4, 2) := by decide +kernel
theorem dX5_fetch_67 : decode cX5_fetch 67 = .ok (.invokevirtual 103, 3) := by decide +kernel
theorem dX5_fetch_70 : decode cX5_fetch 70 = .ok (.istore 7, 2) := by decide +kernel
theorem dX5_fetch_72 : decode cX5_fetch 72 = .ok (.iload 7, 2) := by decide +kernel
theorem dX5_fetch_74 : decode cX5_fetch 74 = .ok (.iconst (-1), 1) := by decide +kernel
theorem dX5_fetch_75 : decode cX5_fetch 75 = .ok (.if_icmp .ne 40, 3) := by decide +kernel
theorem dX5_fetch_78 : decode cX5_fetch 78 = .ok (.aload_n 0, 1) := by decide +kernel
theorem dX5_fetch_79 : decode cX5_fetch 79 = .ok (.getfield 25, 3) := by decide +kernel
theorem dX5_fetch_82 : decode cX5_fetch 82 = .ok (.lload 4, 2) := by decide +kernel
theorem dX5_fetch_84 : decode cX5_fetch 84 = .ok (.aload_n 0, 1) := by decide +kernel
theorem dX5_fetch_85 : decode cX5_fetch 85 = .ok (.getfield 9, 3) := by decide +kernel
theorem dX5_fetch_88 : decode cX5_fetch 88 = .ok (.aload_n 0, 1) := by decide +kernel
theorem dX5_fetch_89 : decode cX5_fetch 89 = .ok (.iload 6, 2) := by decide +kernel
theorem dX5_fetch_91 : decode cX5_fetch 91 = .ok (.invokevirtual 107, 3) := by decide +kernel
theorem dX5_fetch_94 : decode cX5_fetch 94 = .ok (.invokevirtual 111, 3) := by decide +kernel
theorem dX5_fetch_97 : decode cX5_fetch 97 = .ok (.istore 7, 2) := by decide +kernel
theorem dX5_fetch_99 : decode cX5_fetch 99 = .ok (.iload 7, 2) := by decide +kernel
theorem dX5_fetch_101 : decode cX5_fetch 101 = .ok (.iconst (-1), 1) := by decide +kernel
theorem dX5_fetch_102 : decode cX5_fetch 102 = .ok (.if_icmp .ne 28, 3) := by decide +kernel
theorem dX5_fetch_105 : decode cX5_fetch 105 = .ok (.new 72, 3) := by decide +kernel
theorem dX5_fetch_108 : decode cX5_fetch 108 = .ok (.dup, 1) := by decide +kernel
theorem dX5_fetch_109 : decode cX5_fetch 109 = .ok (.ldc 115, 2) := by decide +kernel
theorem dX5_fetch_111 : decode cX5_fetch 111 = .ok (.invokespecial 76, 3) := by decide +kernel
theorem dX5_fetch_114 : decode cX5_fetch 114 = .ok (.athrow, 1) := by decide +kernel
theorem dX5_fetch_115 : decode cX5_fetch 115 = .ok (.aload_n 0, 1) := by decide +kernel
theorem dX5_fetch_116 : decode cX5_fetch 116 = .ok (.getfield 25, 3) := by decide +kernel
theorem dX5_fetch_119 : decode cX5_fetch 119 = .ok (.iload 7, 2) := by decide +kernel
theorem dX5_fetch_121 : decode cX5_fetch 121 = .ok (.lload 4, 2) := by decide +kernel
theorem dX5_fetch_123 : decode cX5_fetch 123 = .ok (.aload_n 0, 1) := by decide +kernel
theorem dX5_fetch_124 : decode cX5_fetch 124 = .ok (.getfield 13, 3) := by decide +kernel
theorem dX5_fetch_127 : decode cX5_fetch 127 = .ok (.invokevirtual 117, 3) := by decide +kernel
theorem dX5_fetch_130 : decode cX5_fetch 130 = .ok (.aload_n 0, 1) := by decide +kernel
theorem dX5_fetch_131 : decode cX5_fetch 131 = .ok (.getfield 25, 3) := by decide +kernel
theorem dX5_fetch_134 : decode cX5_fetch 134 = .ok (.iload 7, 2) := by decide +kernel
theorem dX5_fetch_136 : decode cX5_fetch 136 = .ok (.iload_n 1, 1) := by decide +kernel
theorem dX5_fetch_137 : decode cX5_fetch 137 = .ok (.invokevirtual 121, 3) := by decide +kernel
theorem dX5_fetch_140 : decode cX5_fetch 140 = .ok (.aload_n 0, 1) := by decide +kernel
theorem dX5_fetch_141 : decode cX5_fetch 141 = .ok (.getfield 25, 3) := by decide +kernel
theorem dX5_fetch_144 : decode cX5_fetch 144 = .ok (.iload 7, 2) := by decide +kernel
theorem dX5_fetch_146 : decode cX5_fetch 146 = .ok (.iload_n 1, 1) := by decide +kernel
theorem dX5_fetch_147 : decode cX5_fetch 147 = .ok (.iload_n 2, 1) := by decide +kernel
theorem dX5_fetch_148 : decode cX5_fetch 148 = .ok (.invokevirtual 125, 3) := by decide +kernel
theorem dX5_fetch_151 : decode cX5_fetch 151 = .ok (.aload_n 0, 1) := by decide +kernel
theorem dX5_fetch_152 : decode cX5_fetch 152 = .ok (.getfield 25, 3) := by decide +kernel
theorem dX5_fetch_155 : decode cX5_fetch 155 = .ok (.iload 7, 2) := by decide +kernel
theorem dX5_fetch_157 : decode cX5_fetch 157 = .ok (.iload_n 3, 1) := by decide +kernel
theorem dX5_fetch_158 : decode cX5_fetch 158 = .ok (.invokevirtual 129, 3) := by decide +kernel
theorem dX5_fetch_161 : decode cX5_fetch 161 = .ok (.iload 7, 2) := by decide +kernel
theorem dX5_fetch_163 : decode cX5_fetch 163 = .ok (.ireturn, 1) := by decide +kernel
theorem dX5_items_0 : decode cX5_items 0 = .ok (.aload_n 0, 1) := by decide +kernel
theorem dX5_items_1 : decode cX5_items 1 = .ok (.getfield 25, 3) := by decide +kernel
theorem dX5_items_4 : decode cX5_items 4 = .ok (.invokevirtual 132, 3) := by decide +kernel
theorem dX5_items_7 : decode cX5_items 7 = .ok (.ireturn, 1) := by decide +kernel
theorem dX5_withIdentifier_0 : decode cX5_withIdentifier 0 = .ok (.aload_n 0, 1) := by decide +kernel
theorem dX5_withIdentifier_1 : decode cX5_withIdentifier 1 = .ok (.getfield 25, 3) := by decide +kernel
theorem dX5_withIdentifier_4 : decode cX5_withIdentifier 4 = .ok (.iload_n 1, 1) := by decide +kernel
theorem dX5_withIdentifier_5 : decode cX5_withIdentifier 5 = .ok (.iload_n 2, 1) := by decide +kernel
theorem dX5_withIdentifier_6 : decode cX5_withIdentifier 6 = .ok (.invokevirtual 136, 3) := by decide +kernel
theorem dX5_withIdentifier_9 : decode cX5_withIdentifier 9 = .ok (.istore_n 3, 1) := by decide +kernel
theorem dX5_withIdentifier_10 : decode cX5_withIdentifier 10 = .ok (.iload_n 3, 1) := by decide +kernel
theorem dX5_withIdentifier_11 : decode cX5_withIdentifier 11 = .ok (.iconst (-1), 1) := by decide +kernel
theorem dX5_withIdentifier_12 : decode cX5_withIdentifier 12 = .ok (.if_icmp .ne 13, 3) := by decide +kernel
theorem dX5_withIdentifier_15 : decode cX5_withIdentifier 15 = .ok (.new 140, 3) := by decide +kernel
theorem dX5_withIdentifier_18 : decode cX5_withIdentifier 18 = .ok (.dup, 1) := by decide +kernel
theorem dX5_withIdentifier_19 : decode cX5_withIdentifier 19 = .ok (.ldc 142, 2) := by decide +kernel
theorem dX5_withIdentifier_21 : decode cX5_withIdentifier 21 = .ok (.invokespecial 144, 3) := by decide +kernel
theorem dX5_withIdentifier_24 : decode cX5_withIdentifier 24 = .ok (.athrow, 1) := by decide +kernel
theorem dX5_withIdentifier_25 : decode cX5_withIdentifier 25 = .ok (.iload_n 3, 1) := by decide +kernel
theorem dX5_withIdentifier_26 : decode cX5_withIdentifier 26 = .ok (.ireturn, 1) := by decide +kernel
theorem dX5_withLink_0 : decode cX5_withLink 0 = .ok (.aload_n 0, 1) := by decide +kernel
theorem dX5_withLink_1 : decode cX5_withLink 1 = .ok (.getfield 25, 3) := by decide +kernel
theorem dX5_withLink_4 : decode cX5_withLink 4 = .ok (.iload_n 1, 1) := by decide +kernel
theorem dX5_withLink_5 : decode cX5_withLink 5 = .ok (.invokevirtual 145, 3) := by decide +kernel
theorem dX5_withLink_8 : decode cX5_withLink 8 = .ok (.istore_n 2, 1) := by decide +kernel
theorem dX5_withLink_9 : decode cX5_withLink 9 = .ok (.iload_n 2, 1) := by decide +kernel
theorem dX5_withLink_10 : decode cX5_withLink 10 = .ok (.iconst (-1), 1) := by decide +kernel
theorem dX5_withLink_11 : decode cX5_withLink 11 = .ok (.if_icmp .ne 13, 3) := by decide +kernel
theorem dX5_withLink_14 : decode cX5_withLink 14 = .ok (.new 140, 3) := by decide +kernel
theorem dX5_withLink_17 : decode cX5_withLink 17 = .ok (.dup, 1) := by decide +kernel
theorem dX5_withLink_18 : decode cX5_withLink 18 = .ok (.ldc 148, 2) := by decide +kernel
theorem dX5_withLink_20 : decode cX5_withLink 20 = .ok (.invokespecial 144, 3) := by decide +kernel
theorem dX5_withLink_23 : decode cX5_withLink 23 = .ok (.athrow, 1) := by decide +kernel
theorem dX5_withLink_24 : decode cX5_withLink 24 = .ok (.iload_n 2, 1) := by decide +kernel
theorem dX5_withLink_25 : decode cX5_withLink 25 = .ok (.ireturn, 1) := by decide +kernel
theorem dX5_title_0 : decode cX5_title 0 = .ok (.aload_n 0, 1) := by decide +kernel
theorem dX5_title_1 : decode cX5_title 1 = .ok (.iload_n 1, 1) := by decide +kernel
theorem dX5_title_2 : decode cX5_title 2 = .ok (.invokevirtual 150, 3) := by decide +kernel
theorem dX5_title_5 : decode cX5_title 5 = .ok (.aload_n 0, 1) := by decide +kernel
theorem dX5_title_6 : decode cX5_title 6 = .ok (.getfield 25, 3) := by decide +kernel
theorem dX5_title_9 : decode cX5_title 9 = .ok (.iload_n 1, 1) := by decide +kernel
theorem dX5_title_10 : decode cX5_title 10 = .ok (.iload_n 2, 1) := by decide +kernel
theorem dX5_title_11 : decode cX5_title 11 = .ok (.invokevirtual 154, 3) := by decide +kernel
theorem dX5_title_14 : decode cX5_title 14 = .ok (.ifCond .ne 13, 3) := by decide +kernel
theorem dX5_title_17 : decode cX5_title 17 = .ok (.new 140, 3) := by decide +kernel
theorem dX5_title_20 : decode cX5_title 20 = .ok (.dup, 1) := by decide +kernel
theorem dX5_title_21 : decode cX5_title 21 = .ok (.ldc 158, 2) := by decide +kernel
theorem dX5_title_23 : decode cX5_title 23 = .ok (.invokespecial 144, 3) := by decide +kernel
theorem dX5_title_26 : decode cX5_title 26 = .ok (.athrow, 1) := by decide +kernel
theorem dX5_title_27 : decode cX5_title 27 = .ok (.aload_n 0, 1) := by decide +kernel
theorem dX5_title_28 : decode cX5_title 28 = .ok (.getfield 25, 3) := by decide +kernel
theorem dX5_title_31 : decode cX5_title 31 = .ok (.iload_n 1, 1) := by decide +kernel
theorem dX5_title_32 : decode cX5_title 32 = .ok (.iload_n 2, 1) := by decide +kernel
theorem dX5_title_33 : decode cX5_title 33 = .ok (.invokevirtual 160, 3) := by decide +kernel
theorem dX5_title_36 : decode cX5_title 36 = .ok (.lreturn, 1) := by decide +kernel
theorem dX5_versions_0 : decode cX5_versions 0 = .ok (.aload_n 0, 1) := by decide +kernel
theorem dX5_versions_1 : decode cX5_versions 1 = .ok (.iload_n 1, 1) := by decide +kernel
theorem dX5_versions_2 : decode cX5_versions 2 = .ok (.invokevirtual 150, 3) := by decide +kernel
theorem dX5_versions_5 : decode cX5_versions 5 = .ok (.aload_n 0, 1) := by decide +kernel
theorem dX5_versions_6 : decode cX5_versions 6 = .ok (.getfield 25, 3) := by decide +kernel
theorem dX5_versions_9 : decode cX5_versions 9 = .ok (.iload_n 1, 1) := by decide +kernel
theorem dX5_versions_10 : decode cX5_versions 10 = .ok (.invokevirtual 164, 3) := by decide +kernel
theorem dX5_versions_13 : decode cX5_versions 13 = .ok (.ireturn, 1) := by decide +kernel
theorem dX5_latestMajor_0 : decode cX5_latestMajor 0 = .ok (.aload_n 0, 1) := by decide +kernel
theorem dX5_latestMajor_1 : decode cX5_latestMajor 1 = .ok (.iload_n 1, 1) := by decide +kernel
theorem dX5_latestMajor_2 : decode cX5_latestMajor 2 = .ok (.invokevirtual 150, 3) := by decide +kernel
theorem dX5_latestMajor_5 : decode cX5_latestMajor 5 = .ok (.aload_n 0, 1) := by decide +kernel
theorem dX5_latestMajor_6 : decode cX5_latestMajor 6 = .ok (.getfield 25, 3) := by decide +kernel
theorem dX5_latestMajor_9 : decode cX5_latestMajor 9 = .ok (.iload_n 1, 1) := by decide +kernel
theorem dX5_latestMajor_10 : decode cX5_latestMajor 10 = .ok (.invokevirtual 167, 3) := by decide +kernel
theorem dX5_latestMajor_13 : decode cX5_latestMajor 13 = .ok (.ireturn, 1) := by decide +kernel
theorem dX5_sourcesOf_0 : decode cX5_sourcesOf 0 = .ok (.aload_n 0, 1) := by decide +kernel
theorem dX5_sourcesOf_1 : decode cX5_sourcesOf 1 = .ok (.iload_n 1, 1) := by decide +kernel
theorem dX5_sourcesOf_2 : decode cX5_sourcesOf 2 = .ok (.invokevirtual 150, 3) := by decide +kernel
theorem dX5_sourcesOf_5 : decode cX5_sourcesOf 5 = .ok (.aload_n 0, 1) := by decide +kernel
theorem dX5_sourcesOf_6 : decode cX5_sourcesOf 6 = .ok (.getfield 25, 3) := by decide +kernel
theorem dX5_sourcesOf_9 : decode cX5_sourcesOf 9 = .ok (.iload_n 1, 1) := by decide +kernel
theorem dX5_sourcesOf_10 : decode cX5_sourcesOf 10 = .ok (.invokevirtual 170, 3) := by decide +kernel
theorem dX5_sourcesOf_13 : decode cX5_sourcesOf 13 = .ok (.ireturn, 1) := by decide +kernel
theorem dX5_timeOf_0 : decode cX5_timeOf 0 = .ok (.aload_n 0, 1) := by decide +kernel
theorem dX5_timeOf_1 : decode cX5_timeOf 1 = .ok (.iload_n 1, 1) := by decide +kernel
theorem dX5_timeOf_2 : decode cX5_timeOf 2 = .ok (.invokevirtual 150, 3) := by decide +kernel
theorem dX5_timeOf_5 : decode cX5_timeOf 5 = .ok (.aload_n 0, 1) := by decide +kernel
theorem dX5_timeOf_6 : decode cX5_timeOf 6 = .ok (.getfield 25, 3) := by decide +kernel
theorem dX5_timeOf_9 : decode cX5_timeOf 9 = .ok (.iload_n 1, 1) := by decide +kernel
theorem dX5_timeOf_10 : decode cX5_timeOf 10 = .ok (.invokevirtual 173, 3) := by decide +kernel
theorem dX5_timeOf_13 : decode cX5_timeOf 13 = .ok (.ireturn, 1) := by decide +kernel
theorem dX5_addRule_0 : decode cX5_addRule 0 = .ok (.iload 5, 2) := by decide +kernel
theorem dX5_addRule_2 : decode cX5_addRule 2 = .ok (.ifCond .lt 30, 3) := by decide +kernel
theorem dX5_addRule_5 : decode cX5_addRule 5 = .ok (.iload 5, 2) := by decide +kernel
theorem dX5_addRule_7 : decode cX5_addRule 7 = .ok (.bipush 63, 2) := by decide +kernel
theorem dX5_addRule_9 : decode cX5_addRule 9 = .ok (.if_icmp .gt 23, 3) := by decide +kernel
theorem dX5_addRule_12 : decode cX5_addRule 12 = .ok (.iload 6, 2) := by decide +kernel
theorem dX5_addRule_14 : decode cX5_addRule 14 = .ok (.invokestatic 176, 3) := by decide +kernel
theorem dX5_addRule_17 : decode cX5_addRule 17 = .ok (.ifCond .eq 15, 3) := by decide +kernel
theorem dX5_addRule_20 : decode cX5_addRule 20 = .ok (.iload 7, 2) := by decide +kernel
theorem dX5_addRule_22 : decode cX5_addRule 22 = .ok (.ifCond .lt 10, 3) := by decide +kernel
theorem dX5_addRule_25 : decode cX5_addRule 25 = .ok (.iload 7, 2) := by decide +kernel
theorem dX5_addRule_27 : decode cX5_addRule 27 = .ok (.bipush 9, 2) := by decide +kernel
theorem dX5_addRule_29 : decode cX5_addRule 29 = .ok (.if_icmp .le 13, 3) := by decide +kernel
theorem dX5_addRule_32 : decode cX5_addRule 32 = .ok (.new 64, 3) := by decide +kernel
theorem dX5_addRule_35 : decode cX5_addRule 35 = .ok (.dup, 1) := by decide +kernel
theorem dX5_addRule_36 : decode cX5_addRule 36 = .ok (.ldc 179, 2) := by decide +kernel
theorem dX5_addRule_38 : decode cX5_addRule 38 = .ok (.invokespecial 68, 3) := by decide +kernel
theorem dX5_addRule_41 : decode cX5_addRule 41 = .ok (.athrow, 1) := by decide +kernel
theorem dX5_addRule_42 : decode cX5_addRule 42 = .ok (.aload_n 0, 1) := by decide +kernel
theorem dX5_addRule_43 : decode cX5_addRule 43 = .ok (.getfield 32, 3) := by decide +kernel
theorem dX5_addRule_46 : decode cX5_addRule 46 = .ok (.lload_n 1, 1) := by decide +kernel
theorem dX5_addRule_47 : decode cX5_addRule 47 = .ok (.lload_n 3, 1) := by decide +kernel
theorem dX5_addRule_48 : decode cX5_addRule 48 = .ok (.iload 5, 2) := by decide +kernel
theorem dX5_addRule_50 : decode cX5_addRule 50 = .ok (.iload 6, 2) := by decide +kernel
theorem dX5_addRule_52 : decode cX5_addRule 52 = .ok (.iload 7, 2) := by decide +kernel
theorem dX5_addRule_54 : decode cX5_addRule 54 = .ok (.invokevirtual 181, 3) := by decide +kernel
theorem dX5_addRule_57 : decode cX5_addRule 57 = .ok (.istore 8, 2) := by decide +kernel
theorem dX5_addRule_59 : decode cX5_addRule 59 = .ok (.iload 8, 2) := by decide +kernel
theorem dX5_addRule_61 : decode cX5_addRule 61 = .ok (.iconst (-1), 1) := by decide +kernel
theorem dX5_addRule_62 : decode cX5_addRule 62 = .ok (.if_icmp .ne 13, 3) := by decide +kernel
theorem dX5_addRule_65 : decode cX5_addRule 65 = .ok (.new 72, 3) := by decide +kernel
theorem dX5_addRule_68 : decode cX5_addRule 68 = .ok (.dup, 1) := by decide +kernel
theorem dX5_addRule_69 : decode cX5_addRule 69 = .ok (.ldc 184, 2) := by decide +kernel
theorem dX5_addRule_71 : decode cX5_addRule 71 = .ok (.invokespecial 76, 3) := by decide +kernel
theorem dX5_addRule_74 : decode cX5_addRule 74 = .ok (.athrow, 1) := by decide +kernel
theorem dX5_addRule_75 : decode cX5_addRule 75 = .ok (.iload 8, 2) := by decide +kernel
theorem dX5_addRule_77 : decode cX5_addRule 77 = .ok (.ireturn, 1) := by decide +kernel
theorem dX5_dropRule_0 : decode cX5_dropRule 0 = .ok (.aload_n 0, 1) := by decide +kernel
theorem dX5_dropRule_1 : decode cX5_dropRule 1 = .ok (.iload_n 1, 1) := by decide +kernel
theorem dX5_dropRule_2 : decode cX5_dropRule 2 = .ok (.invokevirtual 186, 3) := by decide +kernel
theorem dX5_dropRule_5 : decode cX5_dropRule 5 = .ok (.aload_n 0, 1) := by decide +kernel
theorem dX5_dropRule_6 : decode cX5_dropRule 6 = .ok (.getfield 32, 3) := by decide +kernel
theorem dX5_dropRule_9 : decode cX5_dropRule 9 = .ok (.iload_n 1, 1) := by decide +kernel
theorem dX5_dropRule_10 : decode cX5_dropRule 10 = .ok (.invokevirtual 189, 3) := by decide +kernel
theorem dX5_dropRule_13 : decode cX5_dropRule 13 = .ok (.aload_n 0, 1) := by decide +kernel
theorem dX5_dropRule_14 : decode cX5_dropRule 14 = .ok (.getfield 32, 3) := by decide +kernel
theorem dX5_dropRule_17 : decode cX5_dropRule 17 = .ok (.invokevirtual 192, 3) := by decide +kernel
theorem dX5_dropRule_20 : decode cX5_dropRule 20 = .ok (.ireturn, 1) := by decide +kernel
theorem dX5_tagsOf_0 : decode cX5_tagsOf 0 = .ok (.aload_n 0, 1) := by decide +kernel
theorem dX5_tagsOf_1 : decode cX5_tagsOf 1 = .ok (.iload_n 1, 1) := by decide +kernel
theorem dX5_tagsOf_2 : decode cX5_tagsOf 2 = .ok (.invokevirtual 150, 3) := by decide +kernel
theorem dX5_tagsOf_5 : decode cX5_tagsOf 5 = .ok (.aload_n 0, 1) := by decide +kernel
theorem dX5_tagsOf_6 : decode cX5_tagsOf 6 = .ok (.iload_n 1, 1) := by decide +kernel
theorem dX5_tagsOf_7 : decode cX5_tagsOf 7 = .ok (.invokevirtual 193, 3) := by decide +kernel
theorem dX5_tagsOf_10 : decode cX5_tagsOf 10 = .ok (.sipush 255, 3) := by decide +kernel
theorem dX5_tagsOf_13 : decode cX5_tagsOf 13 = .ok (.iand, 1) := by decide +kernel
theorem dX5_tagsOf_14 : decode cX5_tagsOf 14 = .ok (.ireturn, 1) := by decide +kernel
theorem dX5_isHidden_0 : decode cX5_isHidden 0 = .ok (.aload_n 0, 1) := by decide +kernel
theorem dX5_isHidden_1 : decode cX5_isHidden 1 = .ok (.iload_n 1, 1) := by decide +kernel
theorem dX5_isHidden_2 : decode cX5_isHidden 2 = .ok (.invokevirtual 150, 3) := by decide +kernel
theorem dX5_isHidden_5 : decode cX5_isHidden 5 = .ok (.aload_n 0, 1) := by decide +kernel
theorem dX5_isHidden_6 : decode cX5_isHidden 6 = .ok (.iload_n 1, 1) := by decide +kernel
theorem dX5_isHidden_7 : decode cX5_isHidden 7 = .ok (.invokevirtual 193, 3) := by decide +kernel
theorem dX5_isHidden_10 : decode cX5_isHidden 10 = .ok (.sipush 256, 3) := by decide +kernel
theorem dX5_isHidden_13 : decode cX5_isHidden 13 = .ok (.iand, 1) := by decide +kernel
theorem dX5_isHidden_14 : decode cX5_isHidden 14 = .ok (.ifCond .eq 7, 3) := by decide +kernel
theorem dX5_isHidden_17 : decode cX5_isHidden 17 = .ok (.iconst 1, 1) := by decide +kernel
theorem dX5_isHidden_18 : decode cX5_isHidden 18 = .ok (.goto 4, 3) := by decide +kernel
theorem dX5_isHidden_21 : decode cX5_isHidden 21 = .ok (.iconst 0, 1) := by decide +kernel
theorem dX5_isHidden_22 : decode cX5_isHidden 22 = .ok (.ireturn, 1) := by decide +kernel
theorem dX5_matches_0 : decode cX5_matches 0 = .ok (.aload_n 0, 1) := by decide +kernel
theorem dX5_matches_1 : decode cX5_matches 1 = .ok (.iload_n 1, 1) := by decide +kernel
theorem dX5_matches_2 : decode cX5_matches 2 = .ok (.invokevirtual 186, 3) := by decide +kernel
theorem dX5_matches_5 : decode cX5_matches 5 = .ok (.iconst 0, 1) := by decide +kernel
theorem dX5_matches_6 : decode cX5_matches 6 = .ok (.istore_n 2, 1) := by decide +kernel
theorem dX5_matches_7 : decode cX5_matches 7 = .ok (.iconst 0, 1) := by decide +kernel
theorem dX5_matches_8 : decode cX5_matches 8 = .ok (.istore_n 3, 1) := by decide +kernel
theorem dX5_matches_9 : decode cX5_matches 9 = .ok (.iload_n 3, 1) := by decide +kernel
theorem dX5_matches_10 : decode cX5_matches 10 = .ok (.aload_n 0, 1) := by decide +kernel
theorem dX5_matches_11 : decode cX5_matches 11 = .ok (.getfield 25, 3) := by decide +kernel
theorem dX5_matches_14 : decode cX5_matches 14 = .ok (.invokevirtual 132, 3) := by decide +kernel
theorem dX5_matches_17 : decode cX5_matches 17 = .ok (.if_icmp .ge 59, 3) := by decide +kernel
theorem dX5_matches_20 : decode cX5_matches 20 = .ok (.aload_n 0, 1) := by decide +kernel
theorem dX5_matches_21 : decode cX5_matches 21 = .ok (.getfield 25, 3) := by decide +kernel
theorem dX5_matches_24 : decode cX5_matches 24 = .ok (.iload_n 3, 1) := by decide +kernel
theorem dX5_matches_25 : decode cX5_matches 25 = .ok (.invokevirtual 196, 3) := by decide +kernel
theorem dX5_matches_28 : decode cX5_matches 28 = .ok (.lstore 4, 2) := by decide +kernel
theorem dX5_matches_30 : decode cX5_matches 30 = .ok (.aload_n 0, 1) := by decide +kernel
theorem dX5_matches_31 : decode cX5_matches 31 = .ok (.getfield 25, 3) := by decide +kernel
theorem dX5_matches_34 : decode cX5_matches 34 = .ok (.iload_n 3, 1) := by decide +kernel
theorem dX5_matches_35 : decode cX5_matches 35 = .ok (.invokevirtual 170, 3) := by decide +kernel
theorem dX5_matches_38 : decode cX5_matches 38 = .ok (.istore 6, 2) := by decide +kernel
theorem dX5_matches_40 : decode cX5_matches 40 = .ok (.aload_n 0, 1) := by decide +kernel
theorem dX5_matches_41 : decode cX5_matches 41 = .ok (.getfield 32, 3) := by decide +kernel
theorem dX5_matches_44 : decode cX5_matches 44 = .ok (.iload_n 1, 1) := by decide +kernel
theorem dX5_matches_45 : decode cX5_matches 45 = .ok (.lload 4, 2) := by decide +kernel
theorem dX5_matches_47 : decode cX5_matches 47 = .ok (.iload 6, 2) := by decide +kernel
theorem dX5_matches_49 : decode cX5_matches 49 = .ok (.aload_n 0, 1) := by decide +kernel
theorem dX5_matches_50 : decode cX5_matches 50 = .ok (.getfield 32, 3) := by decide +kernel
theorem dX5_matches_53 : decode cX5_matches 53 = .ok (.lload 4, 2) := by decide +kernel
theorem dX5_matches_55 : decode cX5_matches 55 = .ok (.iload 6, 2) := by decide +kernel
theorem dX5_matches_57 : decode cX5_matches 57 = .ok (.iload_n 1, 1) := by decide +kernel
theorem dX5_matches_58 : decode cX5_matches 58 = .ok (.invokevirtual 200, 3) := by decide +kernel
theorem dX5_matches_61 : decode cX5_matches 61 = .ok (.invokevirtual 203, 3) := by decide +kernel
theorem dX5_matches_64 : decode cX5_matches 64 = .ok (.ifCond .eq 6, 3) := by decide +kernel
theorem dX5_matches_67 : decode cX5_matches 67 = .ok (.iinc 2 1, 3) := by decide +kernel
theorem dX5_matches_70 : decode cX5_matches 70 = .ok (.iinc 3 1, 3) := by decide +kernel
theorem dX5_matches_73 : decode cX5_matches 73 = .ok (.goto (-64), 3) := by decide +kernel
theorem dX5_matches_76 : decode cX5_matches 76 = .ok (.iload_n 2, 1) := by decide +kernel
theorem dX5_matches_77 : decode cX5_matches 77 = .ok (.ireturn, 1) := by decide +kernel
theorem dX5_addRiver_0 : decode cX5_addRiver 0 = .ok (.iload_n 1, 1) := by decide +kernel
theorem dX5_addRiver_1 : decode cX5_addRiver 1 = .ok (.iconst 1, 1) := by decide +kernel
theorem dX5_addRiver_2 : decode cX5_addRiver 2 = .ok (.if_icmp .lt 16, 3) := by decide +kernel
theorem dX5_addRiver_5 : decode cX5_addRiver 5 = .ok (.iload_n 1, 1) := by decide +kernel
theorem dX5_addRiver_6 : decode cX5_addRiver 6 = .ok (.bipush 63, 2) := by decide +kernel
theorem dX5_addRiver_8 : decode cX5_addRiver 8 = .ok (.if_icmp .gt 10, 3) := by decide +kernel
theorem dX5_addRiver_11 : decode cX5_addRiver 11 = .ok (.iload_n 2, 1) := by decide +kernel
theorem dX5_addRiver_12 : decode cX5_addRiver 12 = .ok (.invokestatic 176, 3) := by decide +kernel
theorem dX5_addRiver_15 : decode cX5_addRiver 15 = .ok (.ifCond .ne 13, 3) := by decide +kernel
theorem dX5_addRiver_18 : decode cX5_addRiver 18 = .ok (.new 64, 3) := by decide +kernel
theorem dX5_addRiver_21 : decode cX5_addRiver 21 = .ok (.dup, 1) := by decide +kernel
theorem dX5_addRiver_22 : decode cX5_addRiver 22 = .ok (.ldc 207, 2) := by decide +kernel
theorem dX5_addRiver_24 : decode cX5_addRiver 24 = .ok (.invokespecial 68, 3) := by decide +kernel
theorem dX5_addRiver_27 : decode cX5_addRiver 27 = .ok (.athrow, 1) := by decide +kernel
theorem dX5_addRiver_28 : decode cX5_addRiver 28 = .ok (.aload_n 0, 1) := by decide +kernel
theorem dX5_addRiver_29 : decode cX5_addRiver 29 = .ok (.getfield 39, 3) := by decide +kernel
theorem dX5_addRiver_32 : decode cX5_addRiver 32 = .ok (.iload_n 1, 1) := by decide +kernel
theorem dX5_addRiver_33 : decode cX5_addRiver 33 = .ok (.iload_n 2, 1) := by decide +kernel
theorem dX5_addRiver_34 : decode cX5_addRiver 34 = .ok (.invokevirtual 209, 3) := by decide +kernel
theorem dX5_addRiver_37 : decode cX5_addRiver 37 = .ok (.istore_n 3, 1) := by decide +kernel
theorem dX5_addRiver_38 : decode cX5_addRiver 38 = .ok (.iload_n 3, 1) := by decide +kernel
theorem dX5_addRiver_39 : decode cX5_addRiver 39 = .ok (.iconst (-1), 1) := by decide +kernel
theorem dX5_addRiver_40 : decode cX5_addRiver 40 = .ok (.if_icmp .ne 13, 3) := by decide +kernel
theorem dX5_addRiver_43 : decode cX5_addRiver 43 = .ok (.new 72, 3) := by decide +kernel
theorem dX5_addRiver_46 : decode cX5_addRiver 46 = .ok (.dup, 1) := by decide +kernel
theorem dX5_addRiver_47 : decode cX5_addRiver 47 = .ok (.ldc 211, 2) := by decide +kernel
theorem dX5_addRiver_49 : decode cX5_addRiver 49 = .ok (.invokespecial 76, 3) := by decide +kernel
theorem dX5_addRiver_52 : decode cX5_addRiver 52 = .ok (.athrow, 1) := by decide +kernel
theorem dX5_addRiver_53 : decode cX5_addRiver 53 = .ok (.iload_n 3, 1) := by decide +kernel
theorem dX5_addRiver_54 : decode cX5_addRiver 54 = .ok (.ireturn, 1) := by decide +kernel
theorem dX5_riverSize_0 : decode cX5_riverSize 0 = .ok (.aload_n 0, 1) := by decide +kernel
theorem dX5_riverSize_1 : decode cX5_riverSize 1 = .ok (.iload_n 1, 1) := by decide +kernel
theorem dX5_riverSize_2 : decode cX5_riverSize 2 = .ok (.invokevirtual 213, 3) := by decide +kernel
theorem dX5_riverSize_5 : decode cX5_riverSize 5 = .ok (.aload_n 0, 1) := by decide +kernel
theorem dX5_riverSize_6 : decode cX5_riverSize 6 = .ok (.iload_n 1, 1) := by decide +kernel
theorem dX5_riverSize_7 : decode cX5_riverSize 7 = .ok (.aload_n 0, 1) := by decide +kernel
theorem dX5_riverSize_8 : decode cX5_riverSize 8 = .ok (.getfield 25, 3) := by decide +kernel
theorem dX5_riverSize_11 : decode cX5_riverSize 11 = .ok (.invokevirtual 216, 3) := by decide +kernel
theorem dX5_riverSize_14 : decode cX5_riverSize 14 = .ok (.aload_n 0, 1) := by decide +kernel
theorem dX5_riverSize_15 : decode cX5_riverSize 15 = .ok (.getfield 57, 3) := by decide +kernel
theorem dX5_riverSize_18 : decode cX5_riverSize 18 = .ok (.invokevirtual 220, 3) := by decide +kernel
theorem dX5_riverSize_21 : decode cX5_riverSize 21 = .ok (.ireturn, 1) := by decide +kernel
theorem dX5_riverAt_0 : decode cX5_riverAt 0 = .ok (.aload_n 0, 1) := by decide +kernel
theorem dX5_riverAt_1 : decode cX5_riverAt 1 = .ok (.iload_n 1, 1) := by decide +kernel
theorem dX5_riverAt_2 : decode cX5_riverAt 2 = .ok (.invokevirtual 213, 3) := by decide +kernel
theorem dX5_riverAt_5 : decode cX5_riverAt 5 = .ok (.aload_n 0, 1) := by decide +kernel
theorem dX5_riverAt_6 : decode cX5_riverAt 6 = .ok (.iload_n 1, 1) := by decide +kernel
theorem dX5_riverAt_7 : decode cX5_riverAt 7 = .ok (.iload_n 2, 1) := by decide +kernel
theorem dX5_riverAt_8 : decode cX5_riverAt 8 = .ok (.aload_n 0, 1) := by decide +kernel
theorem dX5_riverAt_9 : decode cX5_riverAt 9 = .ok (.getfield 25, 3) := by decide +kernel
theorem dX5_riverAt_12 : decode cX5_riverAt 12 = .ok (.invokevirtual 216, 3) := by decide +kernel
theorem dX5_riverAt_15 : decode cX5_riverAt 15 = .ok (.invokevirtual 224, 3) := by decide +kernel
theorem dX5_riverAt_18 : decode cX5_riverAt 18 = .ok (.ireturn, 1) := by decide +kernel
theorem dX5_riverAtAnew_0 : decode cX5_riverAtAnew 0 = .ok (.aload_n 0, 1) := by decide +kernel
theorem dX5_riverAtAnew_1 : decode cX5_riverAtAnew 1 = .ok (.iload_n 1, 1) := by decide +kernel
theorem dX5_riverAtAnew_2 : decode cX5_riverAtAnew 2 = .ok (.invokevirtual 213, 3) := by decide +kernel
theorem dX5_riverAtAnew_5 : decode cX5_riverAtAnew 5 = .ok (.aload_n 0, 1) := by decide +kernel
theorem dX5_riverAtAnew_6 : decode cX5_riverAtAnew 6 = .ok (.iload_n 1, 1) := by decide +kernel
theorem dX5_riverAtAnew_7 : decode cX5_riverAtAnew 7 = .ok (.iload_n 2, 1) := by decide +kernel
theorem dX5_riverAtAnew_8 : decode cX5_riverAtAnew 8 = .ok (.aload_n 0, 1) := by decide +kernel
theorem dX5_riverAtAnew_9 : decode cX5_riverAtAnew 9 = .ok (.getfield 25, 3) := by decide +kernel
theorem dX5_riverAtAnew_12 : decode cX5_riverAtAnew 12 = .ok (.invokevirtual 228, 3) := by decide +kernel
theorem dX5_riverAtAnew_15 : decode cX5_riverAtAnew 15 = .ok (.invokevirtual 224, 3) := by decide +kernel
theorem dX5_riverAtAnew_18 : decode cX5_riverAtAnew 18 = .ok (.ireturn, 1) := by decide +kernel
theorem dX5_rankOf_0 : decode cX5_rankOf 0 = .ok (.aload_n 0, 1) := by decide +kernel
theorem dX5_rankOf_1 : decode cX5_rankOf 1 = .ok (.iload_n 1, 1) := by decide +kernel
theorem dX5_rankOf_2 : decode cX5_rankOf 2 = .ok (.invokevirtual 213, 3) := by decide +kernel
theorem dX5_rankOf_5 : decode cX5_rankOf 5 = .ok (.aload_n 0, 1) := by decide +kernel
theorem dX5_rankOf_6 : decode cX5_rankOf 6 = .ok (.iload_n 2, 1) := by decide +kernel
theorem dX5_rankOf_7 : decode cX5_rankOf 7 = .ok (.invokevirtual 150, 3) := by decide +kernel
theorem dX5_rankOf_10 : decode cX5_rankOf 10 = .ok (.aload_n 0, 1) := by decide +kernel
theorem dX5_rankOf_11 : decode cX5_rankOf 11 = .ok (.iload_n 1, 1) := by decide +kernel
theorem dX5_rankOf_12 : decode cX5_rankOf 12 = .ok (.aload_n 0, 1) := by decide +kernel
theorem dX5_rankOf_13 : decode cX5_rankOf 13 = .ok (.getfield 25, 3) := by decide +kernel
theorem dX5_rankOf_16 : decode cX5_rankOf 16 = .ok (.invokevirtual 216, 3) := by decide +kernel
theorem dX5_rankOf_19 : decode cX5_rankOf 19 = .ok (.aload_n 0, 1) := by decide +kernel
theorem dX5_rankOf_20 : decode cX5_rankOf 20 = .ok (.getfield 57, 3) := by decide +kernel
theorem dX5_rankOf_23 : decode cX5_rankOf 23 = .ok (.invokevirtual 220, 3) := by decide +kernel
theorem dX5_rankOf_26 : decode cX5_rankOf 26 = .ok (.istore_n 3, 1) := by decide +kernel
theorem dX5_rankOf_27 : decode cX5_rankOf 27 = .ok (.iconst 0, 1) := by decide +kernel
theorem dX5_rankOf_28 : decode cX5_rankOf 28 = .ok (.istore 4, 2) := by decide +kernel
theorem dX5_rankOf_30 : decode cX5_rankOf 30 = .ok (.iload 4, 2) := by decide +kernel
theorem dX5_rankOf_32 : decode cX5_rankOf 32 = .ok (.iload_n 3, 1) := by decide +kernel
theorem dX5_rankOf_33 : decode cX5_rankOf 33 = .ok (.if_icmp .ge 23, 3) := by decide +kernel
theorem dX5_rankOf_36 : decode cX5_rankOf 36 = .ok (.aload_n 0, 1) := by decide +kernel
theorem dX5_rankOf_37 : decode cX5_rankOf 37 = .ok (.getfield 57, 3) := by decide +kernel
theorem dX5_rankOf_40 : decode cX5_rankOf 40 = .ok (.iload 4, 2) := by decide +kernel
theorem dX5_rankOf_42 : decode cX5_rankOf 42 = .ok (.iaload, 1) := by decide +kernel
theorem dX5_rankOf_43 : decode cX5_rankOf 43 = .ok (.iload_n 2, 1) := by decide +kernel
theorem dX5_rankOf_44 : decode cX5_rankOf 44 = .ok (.if_icmp .ne 6, 3) := by decide +kernel
theorem dX5_rankOf_47 : decode cX5_rankOf 47 = .ok (.iload 4, 2) := by decide +kernel
theorem dX5_rankOf_49 : decode cX5_rankOf 49 = .ok (.ireturn, 1) := by decide +kernel
theorem dX5_rankOf_50 : decode cX5_rankOf 50 = .ok (.iinc 4 1, 3) := by decide +kernel
theorem dX5_rankOf_53 : decode cX5_rankOf 53 = .ok (.goto (-23), 3) := by decide +kernel
theorem dX5_rankOf_56 : decode cX5_rankOf 56 = .ok (.new 140, 3) := by decide +kernel
theorem dX5_rankOf_59 : decode cX5_rankOf 59 = .ok (.dup, 1) := by decide +kernel
theorem dX5_rankOf_60 : decode cX5_rankOf 60 = .ok (.ldc 231, 2) := by decide +kernel
theorem dX5_rankOf_62 : decode cX5_rankOf 62 = .ok (.invokespecial 144, 3) := by decide +kernel
theorem dX5_rankOf_65 : decode cX5_rankOf 65 = .ok (.athrow, 1) := by decide +kernel
theorem dX5_unread_0 : decode cX5_unread 0 = .ok (.aload_n 0, 1) := by decide +kernel
theorem dX5_unread_1 : decode cX5_unread 1 = .ok (.iload_n 1, 1) := by decide +kernel
theorem dX5_unread_2 : decode cX5_unread 2 = .ok (.invokevirtual 213, 3) := by decide +kernel
theorem dX5_unread_5 : decode cX5_unread 5 = .ok (.aload_n 0, 1) := by decide +kernel
theorem dX5_unread_6 : decode cX5_unread 6 = .ok (.aload_n 0, 1) := by decide +kernel
theorem dX5_unread_7 : decode cX5_unread 7 = .ok (.iload_n 1, 1) := by decide +kernel
theorem dX5_unread_8 : decode cX5_unread 8 = .ok (.aload_n 0, 1) := by decide +kernel
theorem dX5_unread_9 : decode cX5_unread 9 = .ok (.getfield 25, 3) := by decide +kernel
theorem dX5_unread_12 : decode cX5_unread 12 = .ok (.invokevirtual 216, 3) := by decide +kernel
theorem dX5_unread_15 : decode cX5_unread 15 = .ok (.aload_n 0, 1) := by decide +kernel
theorem dX5_unread_16 : decode cX5_unread 16 = .ok (.getfield 57, 3) := by decide +kernel
theorem dX5_unread_19 : decode cX5_unread 19 = .ok (.invokevirtual 220, 3) := by decide +kernel
theorem dX5_unread_22 : decode cX5_unread 22 = .ok (.invokevirtual 233, 3) := by decide +kernel
theorem dX5_unread_25 : decode cX5_unread 25 = .ok (.ireturn, 1) := by decide +kernel
theorem dX5_nextUnread_0 : decode cX5_nextUnread 0 = .ok (.aload_n 0, 1) := by decide +kernel
theorem dX5_nextUnread_1 : decode cX5_nextUnread 1 = .ok (.iload_n 1, 1) := by decide +kernel
theorem dX5_nextUnread_2 : decode cX5_nextUnread 2 = .ok (.invokevirtual 213, 3) := by decide +kernel
theorem dX5_nextUnread_5 : decode cX5_nextUnread 5 = .ok (.aload_n 0, 1) := by decide +kernel
theorem dX5_nextUnread_6 : decode cX5_nextUnread 6 = .ok (.iload_n 1, 1) := by decide +kernel
theorem dX5_nextUnread_7 : decode cX5_nextUnread 7 = .ok (.aload_n 0, 1) := by decide +kernel
theorem dX5_nextUnread_8 : decode cX5_nextUnread 8 = .ok (.getfield 25, 3) := by decide +kernel
theorem dX5_nextUnread_11 : decode cX5_nextUnread 11 = .ok (.invokevirtual 216, 3) := by decide +kernel
theorem dX5_nextUnread_14 : decode cX5_nextUnread 14 = .ok (.aload_n 0, 1) := by decide +kernel
theorem dX5_nextUnread_15 : decode cX5_nextUnread 15 = .ok (.getfield 57, 3) := by decide +kernel
theorem dX5_nextUnread_18 : decode cX5_nextUnread 18 = .ok (.invokevirtual 220, 3) := by decide +kernel
theorem dX5_nextUnread_21 : decode cX5_nextUnread 21 = .ok (.istore_n 2, 1) := by decide +kernel
theorem dX5_nextUnread_22 : decode cX5_nextUnread 22 = .ok (.iconst 0, 1) := by decide +kernel
theorem dX5_nextUnread_23 : decode cX5_nextUnread 23 = .ok (.istore_n 3, 1) := by decide +kernel
theorem dX5_nextUnread_24 : decode cX5_nextUnread 24 = .ok (.iload_n 3, 1) := by decide +kernel
theorem dX5_nextUnread_25 : decode cX5_nextUnread 25 = .ok (.iload_n 2, 1) := by decide +kernel
theorem dX5_nextUnread_26 : decode cX5_nextUnread 26 = .ok (.if_icmp .ge 29, 3) := by decide +kernel
theorem dX5_nextUnread_29 : decode cX5_nextUnread 29 = .ok (.aload_n 0, 1) := by decide +kernel
theorem dX5_nextUnread_30 : decode cX5_nextUnread 30 = .ok (.aload_n 0, 1) := by decide +kernel
theorem dX5_nextUnread_31 : decode cX5_nextUnread 31 = .ok (.getfield 57, 3) := by decide +kernel
theorem dX5_nextUnread_34 : decode cX5_nextUnread 34 = .ok (.iload_n 3, 1) := by decide +kernel
theorem dX5_nextUnread_35 : decode cX5_nextUnread 35 = .ok (.iaload, 1) := by decide +kernel
theorem dX5_nextUnread_36 : decode cX5_nextUnread 36 = .ok (.invokevirtual 236, 3) := by decide +kernel
theorem dX5_nextUnread_39 : decode cX5_nextUnread 39 = .ok (.ifCond .ne 10, 3) := by decide +kernel
theorem dX5_nextUnread_42 : decode cX5_nextUnread 42 = .ok (.aload_n 0, 1) := by decide +kernel
theorem dX5_nextUnread_43 : decode cX5_nextUnread 43 = .ok (.getfield 57, 3) := by decide +kernel
theorem dX5_nextUnread_46 : decode cX5_nextUnread 46 = .ok (.iload_n 3, 1) := by decide +kernel
theorem dX5_nextUnread_47 : decode cX5_nextUnread 47 = .ok (.iaload, 1) := by decide +kernel
theorem dX5_nextUnread_48 : decode cX5_nextUnread 48 = .ok (.ireturn, 1) := by decide +kernel
theorem dX5_nextUnread_49 : decode cX5_nextUnread 49 = .ok (.iinc 3 1, 3) := by decide +kernel
theorem dX5_nextUnread_52 : decode cX5_nextUnread 52 = .ok (.goto (-28), 3) := by decide +kernel
theorem dX5_nextUnread_55 : decode cX5_nextUnread 55 = .ok (.new 140, 3) := by decide +kernel
theorem dX5_nextUnread_58 : decode cX5_nextUnread 58 = .ok (.dup, 1) := by decide +kernel
theorem dX5_nextUnread_59 : decode cX5_nextUnread 59 = .ok (.ldc 239, 2) := by decide +kernel
theorem dX5_nextUnread_61 : decode cX5_nextUnread 61 = .ok (.invokespecial 144, 3) := by decide +kernel
theorem dX5_nextUnread_64 : decode cX5_nextUnread 64 = .ok (.athrow, 1) := by decide +kernel
theorem dX5_readShare_0 : decode cX5_readShare 0 = .ok (.aload_n 0, 1) := by decide +kernel
theorem dX5_readShare_1 : decode cX5_readShare 1 = .ok (.iload_n 1, 1) := by decide +kernel
theorem dX5_readShare_2 : decode cX5_readShare 2 = .ok (.invokevirtual 213, 3) := by decide +kernel
theorem dX5_readShare_5 : decode cX5_readShare 5 = .ok (.aload_n 0, 1) := by decide +kernel
theorem dX5_readShare_6 : decode cX5_readShare 6 = .ok (.iload_n 1, 1) := by decide +kernel
theorem dX5_readShare_7 : decode cX5_readShare 7 = .ok (.aload_n 0, 1) := by decide +kernel
theorem dX5_readShare_8 : decode cX5_readShare 8 = .ok (.getfield 25, 3) := by decide +kernel
theorem dX5_readShare_11 : decode cX5_readShare 11 = .ok (.invokevirtual 216, 3) := by decide +kernel
theorem dX5_readShare_14 : decode cX5_readShare 14 = .ok (.aload_n 0, 1) := by decide +kernel
theorem dX5_readShare_15 : decode cX5_readShare 15 = .ok (.getfield 57, 3) := by decide +kernel
theorem dX5_readShare_18 : decode cX5_readShare 18 = .ok (.invokevirtual 220, 3) := by decide +kernel
theorem dX5_readShare_21 : decode cX5_readShare 21 = .ok (.istore_n 2, 1) := by decide +kernel
theorem dX5_readShare_22 : decode cX5_readShare 22 = .ok (.iload_n 2, 1) := by decide +kernel
theorem dX5_readShare_23 : decode cX5_readShare 23 = .ok (.ifCond .ne 13, 3) := by decide +kernel
theorem dX5_readShare_26 : decode cX5_readShare 26 = .ok (.new 241, 3) := by decide +kernel
theorem dX5_readShare_29 : decode cX5_readShare 29 = .ok (.dup, 1) := by decide +kernel
theorem dX5_readShare_30 : decode cX5_readShare 30 = .ok (.ldc 243, 2) := by decide +kernel
theorem dX5_readShare_32 : decode cX5_readShare 32 = .ok (.invokespecial 245, 3) := by decide +kernel
theorem dX5_readShare_35 : decode cX5_readShare 35 = .ok (.athrow, 1) := by decide +kernel
theorem dX5_readShare_36 : decode cX5_readShare 36 = .ok (.iload_n 2, 1) := by decide +kernel
theorem dX5_readShare_37 : decode cX5_readShare 37 = .ok (.aload_n 0, 1) := by decide +kernel
theorem dX5_readShare_38 : decode cX5_readShare 38 = .ok (.iload_n 2, 1) := by decide +kernel
theorem dX5_readShare_39 : decode cX5_readShare 39 = .ok (.invokevirtual 233, 3) := by decide +kernel
theorem dX5_readShare_42 : decode cX5_readShare 42 = .ok (.isub, 1) := by decide +kernel
theorem dX5_readShare_43 : decode cX5_readShare 43 = .ok (.i2f, 1) := by decide +kernel
theorem dX5_readShare_44 : decode cX5_readShare 44 = .ok (.iload_n 2, 1) := by decide +kernel
theorem dX5_readShare_45 : decode cX5_readShare 45 = .ok (.i2f, 1) := by decide +kernel
theorem dX5_readShare_46 : decode cX5_readShare 46 = .ok (.fdiv, 1) := by decide +kernel
theorem dX5_readShare_47 : decode cX5_readShare 47 = .ok (.freturn, 1) := by decide +kernel
theorem dX5_addDevice_0 : decode cX5_addDevice 0 = .ok (.aload_n 0, 1) := by decide +kernel
theorem dX5_addDevice_1 : decode cX5_addDevice 1 = .ok (.getfield 46, 3) := by decide +kernel
theorem dX5_addDevice_4 : decode cX5_addDevice 4 = .ok (.invokevirtual 246, 3) := by decide +kernel
theorem dX5_addDevice_7 : decode cX5_addDevice 7 = .ok (.istore_n 1, 1) := by decide +kernel
theorem dX5_addDevice_8 : decode cX5_addDevice 8 = .ok (.iload_n 1, 1) := by decide +kernel
theorem dX5_addDevice_9 : decode cX5_addDevice 9 = .ok (.iconst (-1), 1) := by decide +kernel
theorem dX5_addDevice_10 : decode cX5_addDevice 10 = .ok (.if_icmp .ne 13, 3) := by decide +kernel
theorem dX5_addDevice_13 : decode cX5_addDevice 13 = .ok (.new 72, 3) := by decide +kernel
theorem dX5_addDevice_16 : decode cX5_addDevice 16 = .ok (.dup, 1) := by decide +kernel
theorem dX5_addDevice_17 : decode cX5_addDevice 17 = .ok (.ldc 248, 2) := by decide +kernel
theorem dX5_addDevice_19 : decode cX5_addDevice 19 = .ok (.invokespecial 76, 3) := by decide +kernel
theorem dX5_addDevice_22 : decode cX5_addDevice 22 = .ok (.athrow, 1) := by decide +kernel
theorem dX5_addDevice_23 : decode cX5_addDevice 23 = .ok (.iconst 0, 1) := by decide +kernel
theorem dX5_addDevice_24 : decode cX5_addDevice 24 = .ok (.istore_n 2, 1) := by decide +kernel
theorem dX5_addDevice_25 : decode cX5_addDevice 25 = .ok (.iload_n 2, 1) := by decide +kernel
theorem dX5_addDevice_26 : decode cX5_addDevice 26 = .ok (.aload_n 0, 1) := by decide +kernel
theorem dX5_addDevice_27 : decode cX5_addDevice 27 = .ok (.getfield 25, 3) := by decide +kernel
theorem dX5_addDevice_30 : decode cX5_addDevice 30 = .ok (.invokevirtual 132, 3) := by decide +kernel
theorem dX5_addDevice_33 : decode cX5_addDevice 33 = .ok (.if_icmp .ge 15, 3) := by decide +kernel
theorem dX5_addDevice_36 : decode cX5_addDevice 36 = .ok (.aload_n 0, 1) := by decide +kernel
theorem dX5_addDevice_37 : decode cX5_addDevice 37 = .ok (.iload_n 1, 1) := by decide +kernel
theorem dX5_addDevice_38 : decode cX5_addDevice 38 = .ok (.iload_n 2, 1) := by decide +kernel
theorem dX5_addDevice_39 : decode cX5_addDevice 39 = .ok (.invokevirtual 250, 3) := by decide +kernel
theorem dX5_addDevice_42 : decode cX5_addDevice 42 = .ok (.iinc 2 1, 3) := by decide +kernel
theorem dX5_addDevice_45 : decode cX5_addDevice 45 = .ok (.goto (-20), 3) := by decide +kernel
theorem dX5_addDevice_48 : decode cX5_addDevice 48 = .ok (.iload_n 1, 1) := by decide +kernel
theorem dX5_addDevice_49 : decode cX5_addDevice 49 = .ok (.ireturn, 1) := by decide +kernel
theorem dX5_mark_0 : decode cX5_mark 0 = .ok (.aload_n 0, 1) := by decide +kernel
theorem dX5_mark_1 : decode cX5_mark 1 = .ok (.iload_n 1, 1) := by decide +kernel
theorem dX5_mark_2 : decode cX5_mark 2 = .ok (.invokevirtual 253, 3) := by decide +kernel
theorem dX5_mark_5 : decode cX5_mark 5 = .ok (.aload_n 0, 1) := by decide +kernel
theorem dX5_mark_6 : decode cX5_mark 6 = .ok (.iload_n 2, 1) := by decide +kernel
theorem dX5_mark_7 : decode cX5_mark 7 = .ok (.invokevirtual 150, 3) := by decide +kernel
theorem dX5_mark_10 : decode cX5_mark 10 = .ok (.aload_n 0, 1) := by decide +kernel
theorem dX5_mark_11 : decode cX5_mark 11 = .ok (.iload_n 1, 1) := by decide +kernel
theorem dX5_mark_12 : decode cX5_mark 12 = .ok (.iload_n 2, 1) := by decide +kernel
theorem dX5_mark_13 : decode cX5_mark 13 = .ok (.invokevirtual 256, 3) := by decide +kernel
theorem dX5_mark_16 : decode cX5_mark 16 = .ok (.aload_n 0, 1) := by decide +kernel
theorem dX5_mark_17 : decode cX5_mark 17 = .ok (.iload_n 1, 1) := by decide +kernel
theorem dX5_mark_18 : decode cX5_mark 18 = .ok (.iload_n 2, 1) := by decide +kernel
theorem dX5_mark_19 : decode cX5_mark 19 = .ok (.iload_n 3, 1) := by decide +kernel
theorem dX5_mark_20 : decode cX5_mark 20 = .ok (.invokevirtual 259, 3) := by decide +kernel
theorem dX5_mark_23 : decode cX5_mark 23 = .ok (.ireturn, 1) := by decide +kernel
theorem dX5_markRiver_0 : decode cX5_markRiver 0 = .ok (.aload_n 0, 1) := by decide +kernel
theorem dX5_markRiver_1 : decode cX5_markRiver 1 = .ok (.iload_n 1, 1) := by decide +kernel
theorem dX5_markRiver_2 : decode cX5_markRiver 2 = .ok (.invokevirtual 253, 3) := by decide +kernel
theorem dX5_markRiver_5 : decode cX5_markRiver 5 = .ok (.aload_n 0, 1) := by decide +kernel
theorem dX5_markRiver_6 : decode cX5_markRiver 6 = .ok (.iload_n 2, 1) := by decide +kernel
theorem dX5_markRiver_7 : decode cX5_markRiver 7 = .ok (.invokevirtual 213, 3) := by decide +kernel
theorem dX5_markRiver_10 : decode cX5_markRiver 10 = .ok (.aload_n 0, 1) := by decide +kernel
theorem dX5_markRiver_11 : decode cX5_markRiver 11 = .ok (.iload_n 2, 1) := by decide +kernel
theorem dX5_markRiver_12 : decode cX5_markRiver 12 = .ok (.aload_n 0, 1) := by decide +kernel
theorem dX5_markRiver_13 : decode cX5_markRiver 13 = .ok (.getfield 25, 3) := by decide +kernel
theorem dX5_markRiver_16 : decode cX5_markRiver 16 = .ok (.invokevirtual 216, 3) := by decide +kernel
theorem dX5_markRiver_19 : decode cX5_markRiver 19 = .ok (.aload_n 0, 1) := by decide +kernel
theorem dX5_markRiver_20 : decode cX5_markRiver 20 = .ok (.getfield 57, 3) := by decide +kernel
theorem dX5_markRiver_23 : decode cX5_markRiver 23 = .ok (.invokevirtual 220, 3) := by decide +kernel
theorem dX5_markRiver_26 : decode cX5_markRiver 26 = .ok (.istore_n 3, 1) := by decide +kernel
theorem dX5_markRiver_27 : decode cX5_markRiver 27 = .ok (.iconst 0, 1) := by decide +kernel
theorem dX5_markRiver_28 : decode cX5_markRiver 28 = .ok (.istore 4, 2) := by decide +kernel
theorem dX5_markRiver_30 : decode cX5_markRiver 30 = .ok (.iconst 0, 1) := by decide +kernel
theorem dX5_markRiver_31 : decode cX5_markRiver 31 = .ok (.istore 5, 2) := by decide +kernel
theorem dX5_markRiver_33 : decode cX5_markRiver 33 = .ok (.iload 5, 2) := by decide +kernel
theorem dX5_markRiver_35 : decode cX5_markRiver 35 = .ok (.iload_n 3, 1) := by decide +kernel
theorem dX5_markRiver_36 : decode cX5_markRiver 36 = .ok (.if_icmp .ge 45, 3) := by decide +kernel
theorem dX5_markRiver_39 : decode cX5_markRiver 39 = .ok (.aload_n 0, 1) := by decide +kernel
theorem dX5_markRiver_40 : decode cX5_markRiver 40 = .ok (.getfield 57, 3) := by decide +kernel
theorem dX5_markRiver_43 : decode cX5_markRiver 43 = .ok (.iload 5, 2) := by decide +kernel
theorem dX5_markRiver_45 : decode cX5_markRiver 45 = .ok (.iaload, 1) := by decide +kernel
theorem dX5_markRiver_46 : decode cX5_markRiver 46 = .ok (.istore 6, 2) := by decide +kernel
theorem dX5_markRiver_48 : decode cX5_markRiver 48 = .ok (.aload_n 0, 1) := by decide +kernel
theorem dX5_markRiver_49 : decode cX5_markRiver 49 = .ok (.getfield 46, 3) := by decide +kernel
theorem dX5_markRiver_52 : decode cX5_markRiver 52 = .ok (.iload_n 1, 1) := by decide +kernel
theorem dX5_markRiver_53 : decode cX5_markRiver 53 = .ok (.iload 6, 2) := by decide +kernel
theorem dX5_markRiver_55 : decode cX5_markRiver 55 = .ok (.invokevirtual 263, 3) := by decide +kernel
theorem dX5_markRiver_58 : decode cX5_markRiver 58 = .ok (.ifCond .eq 17, 3) := by decide +kernel
theorem dX5_markRiver_61 : decode cX5_markRiver 61 = .ok (.aload_n 0, 1) := by decide +kernel
theorem dX5_markRiver_62 : decode cX5_markRiver 62 = .ok (.iload_n 1, 1) := by decide +kernel
theorem dX5_markRiver_63 : decode cX5_markRiver 63 = .ok (.iload 6, 2) := by decide +kernel
theorem dX5_markRiver_65 : decode cX5_markRiver 65 = .ok (.iconst 1, 1) := by decide +kernel
theorem dX5_markRiver_66 : decode cX5_markRiver 66 = .ok (.invokevirtual 259, 3) := by decide +kernel
theorem dX5_markRiver_69 : decode cX5_markRiver 69 = .ok (.ifCond .ne 6, 3) := by decide +kernel
theorem dX5_markRiver_72 : decode cX5_markRiver 72 = .ok (.iinc 4 1, 3) := by decide +kernel
theorem dX5_markRiver_75 : decode cX5_markRiver 75 = .ok (.iinc 5 1, 3) := by decide +kernel
theorem dX5_markRiver_78 : decode cX5_markRiver 78 = .ok (.goto (-45), 3) := by decide +kernel
theorem dX5_markRiver_81 : decode cX5_markRiver 81 = .ok (.iload 4, 2) := by decide +kernel
theorem dX5_markRiver_83 : decode cX5_markRiver 83 = .ok (.ireturn, 1) := by decide +kernel
theorem dX5_sync_0 : decode cX5_sync 0 = .ok (.aload_n 0, 1) := by decide +kernel
theorem dX5_sync_1 : decode cX5_sync 1 = .ok (.iload_n 1, 1) := by decide +kernel
theorem dX5_sync_2 : decode cX5_sync 2 = .ok (.invokevirtual 253, 3) := by decide +kernel
theorem dX5_sync_5 : decode cX5_sync 5 = .ok (.iconst 0, 1) := by decide +kernel
theorem dX5_sync_6 : decode cX5_sync 6 = .ok (.istore_n 2, 1) := by decide +kernel
theorem dX5_sync_7 : decode cX5_sync 7 = .ok (.iconst 0, 1) := by decide +kernel
theorem dX5_sync_8 : decode cX5_sync 8 = .ok (.istore_n 3, 1) := by decide +kernel
theorem dX5_sync_9 : decode cX5_sync 9 = .ok (.iload_n 3, 1) := by decide +kernel
theorem dX5_sync_10 : decode cX5_sync 10 = .ok (.aload_n 0, 1) := by decide +kernel
theorem dX5_sync_11 : decode cX5_sync 11 = .ok (.getfield 25, 3) := by decide +kernel
theorem dX5_sync_14 : decode cX5_sync 14 = .ok (.invokevirtual 132, 3) := by decide +kernel
theorem dX5_sync_17 : decode cX5_sync 17 = .ok (.if_icmp .ge 70, 3) := by decide +kernel
theorem dX5_sync_20 : decode cX5_sync 20 = .ok (.aload_n 0, 1) := by decide +kernel
theorem dX5_sync_21 : decode cX5_sync 21 = .ok (.iload_n 3, 1) := by decide +kernel
theorem dX5_sync_22 : decode cX5_sync 22 = .ok (.invokevirtual 236, 3) := by decide +kernel
theorem dX5_sync_25 : decode cX5_sync 25 = .ok (.istore 4, 2) := by decide +kernel
theorem dX5_sync_27 : decode cX5_sync 27 = .ok (.aload_n 0, 1) := by decide +kernel
theorem dX5_sync_28 : decode cX5_sync 28 = .ok (.getfield 46, 3) := by decide +kernel
theorem dX5_sync_31 : decode cX5_sync 31 = .ok (.iload_n 1, 1) := by decide +kernel
theorem dX5_sync_32 : decode cX5_sync 32 = .ok (.iload_n 3, 1) := by decide +kernel
theorem dX5_sync_33 : decode cX5_sync 33 = .ok (.invokevirtual 263, 3) := by decide +kernel
theorem dX5_sync_36 : decode cX5_sync 36 = .ok (.ifCond .eq 26, 3) := by decide +kernel
theorem dX5_sync_39 : decode cX5_sync 39 = .ok (.aload_n 0, 1) := by decide +kernel
theorem dX5_sync_40 : decode cX5_sync 40 = .ok (.getfield 53, 3) := by decide +kernel
theorem dX5_sync_43 : decode cX5_sync 43 = .ok (.iload_n 1, 1) := by decide +kernel
theorem dX5_sync_44 : decode cX5_sync 44 = .ok (.iconst 4, 1) := by decide +kernel
theorem dX5_sync_45 : decode cX5_sync 45 = .ok (.iload_n 3, 1) := by decide +kernel
theorem dX5_sync_46 : decode cX5_sync 46 = .ok (.invokevirtual 266, 3) := by decide +kernel
theorem dX5_sync_49 : decode cX5_sync 49 = .ok (.ifCond .eq 13, 3) := by decide +kernel
theorem dX5_sync_52 : decode cX5_sync 52 = .ok (.aload_n 0, 1) := by decide +kernel
theorem dX5_sync_53 : decode cX5_sync 53 = .ok (.getfield 53, 3) := by decide +kernel
theorem dX5_sync_56 : decode cX5_sync 56 = .ok (.iload_n 1, 1) := by decide +kernel
theorem dX5_sync_57 : decode cX5_sync 57 = .ok (.iconst 4, 1) := by decide +kernel
theorem dX5_sync_58 : decode cX5_sync 58 = .ok (.iload_n 3, 1) := by decide +kernel
theorem dX5_sync_59 : decode cX5_sync 59 = .ok (.invokevirtual 270, 3) := by decide +kernel
theorem dX5_sync_62 : decode cX5_sync 62 = .ok (.aload_n 0, 1) := by decide +kernel
theorem dX5_sync_63 : decode cX5_sync 63 = .ok (.iload_n 1, 1) := by decide +kernel
theorem dX5_sync_64 : decode cX5_sync 64 = .ok (.iload_n 3, 1) := by decide +kernel
theorem dX5_sync_65 : decode cX5_sync 65 = .ok (.invokevirtual 250, 3) := by decide +kernel
theorem dX5_sync_68 : decode cX5_sync 68 = .ok (.aload_n 0, 1) := by decide +kernel
theorem dX5_sync_69 : decode cX5_sync 69 = .ok (.iload_n 3, 1) := by decide +kernel
theorem dX5_sync_70 : decode cX5_sync 70 = .ok (.invokevirtual 236, 3) := by decide +kernel
theorem dX5_sync_73 : decode cX5_sync 73 = .ok (.iload 4, 2) := by decide +kernel
theorem dX5_sync_75 : decode cX5_sync 75 = .ok (.if_icmp .eq 6, 3) := by decide +kernel
theorem dX5_sync_78 : decode cX5_sync 78 = .ok (.iinc 2 1, 3) := by decide +kernel
theorem dX5_sync_81 : decode cX5_sync 81 = .ok (.iinc 3 1, 3) := by decide +kernel
theorem dX5_sync_84 : decode cX5_sync 84 = .ok (.goto (-75), 3) := by decide +kernel
theorem dX5_sync_87 : decode cX5_sync 87 = .ok (.iload_n 2, 1) := by decide +kernel
theorem dX5_sync_88 : decode cX5_sync 88 = .ok (.ireturn, 1) := by decide +kernel
theorem dX5_isRead_0 : decode cX5_isRead 0 = .ok (.aload_n 0, 1) := by decide +kernel
theorem dX5_isRead_1 : decode cX5_isRead 1 = .ok (.iload_n 1, 1) := by decide +kernel
theorem dX5_isRead_2 : decode cX5_isRead 2 = .ok (.invokevirtual 150, 3) := by decide +kernel
theorem dX5_isRead_5 : decode cX5_isRead 5 = .ok (.aload_n 0, 1) := by decide +kernel
theorem dX5_isRead_6 : decode cX5_isRead 6 = .ok (.iload_n 1, 1) := by decide +kernel
theorem dX5_isRead_7 : decode cX5_isRead 7 = .ok (.invokevirtual 236, 3) := by decide +kernel
theorem dX5_isRead_10 : decode cX5_isRead 10 = .ok (.ireturn, 1) := by decide +kernel
theorem dX5_isReadOn_0 : decode cX5_isReadOn 0 = .ok (.aload_n 0, 1) := by decide +kernel
theorem dX5_isReadOn_1 : decode cX5_isReadOn 1 = .ok (.iload_n 1, 1) := by decide +kernel
theorem dX5_isReadOn_2 : decode cX5_isReadOn 2 = .ok (.invokevirtual 253, 3) := by decide +kernel
theorem dX5_isReadOn_5 : decode cX5_isReadOn 5 = .ok (.aload_n 0, 1) := by decide +kernel
theorem dX5_isReadOn_6 : decode cX5_isReadOn 6 = .ok (.iload_n 2, 1) := by decide +kernel
theorem dX5_isReadOn_7 : decode cX5_isReadOn 7 = .ok (.invokevirtual 150, 3) := by decide +kernel
theorem dX5_isReadOn_10 : decode cX5_isReadOn 10 = .ok (.aload_n 0, 1) := by decide +kernel
theorem dX5_isReadOn_11 : decode cX5_isReadOn 11 = .ok (.iload_n 1, 1) := by decide +kernel
theorem dX5_isReadOn_12 : decode cX5_isReadOn 12 = .ok (.iload_n 2, 1) := by decide +kernel
theorem dX5_isReadOn_13 : decode cX5_isReadOn 13 = .ok (.invokevirtual 256, 3) := by decide +kernel
theorem dX5_isReadOn_16 : decode cX5_isReadOn 16 = .ok (.aload_n 0, 1) := by decide +kernel
theorem dX5_isReadOn_17 : decode cX5_isReadOn 17 = .ok (.iload_n 1, 1) := by decide +kernel
theorem dX5_isReadOn_18 : decode cX5_isReadOn 18 = .ok (.iload_n 2, 1) := by decide +kernel
theorem dX5_isReadOn_19 : decode cX5_isReadOn 19 = .ok (.invokevirtual 273, 3) := by decide +kernel
theorem dX5_isReadOn_22 : decode cX5_isReadOn 22 = .ok (.ireturn, 1) := by decide +kernel
theorem dX5_knownVersions_0 : decode cX5_knownVersions 0 = .ok (.aload_n 0, 1) := by decide +kernel
theorem dX5_knownVersions_1 : decode cX5_knownVersions 1 = .ok (.iload_n 1, 1) := by decide +kernel
theorem dX5_knownVersions_2 : decode cX5_knownVersions 2 = .ok (.invokevirtual 253, 3) := by decide +kernel
theorem dX5_knownVersions_5 : decode cX5_knownVersions 5 = .ok (.aload_n 0, 1) := by decide +kernel
theorem dX5_knownVersions_6 : decode cX5_knownVersions 6 = .ok (.iload_n 2, 1) := by decide +kernel
theorem dX5_knownVersions_7 : decode cX5_knownVersions 7 = .ok (.invokevirtual 150, 3) := by decide +kernel
theorem dX5_knownVersions_10 : decode cX5_knownVersions 10 = .ok (.aload_n 0, 1) := by decide +kernel
theorem dX5_knownVersions_11 : decode cX5_knownVersions 11 = .ok (.getfield 46, 3) := by decide +kernel
theorem dX5_knownVersions_14 : decode cX5_knownVersions 14 = .ok (.iload_n 1, 1) := by decide +kernel
theorem dX5_knownVersions_15 : decode cX5_knownVersions 15 = .ok (.iload_n 2, 1) := by decide +kernel
theorem dX5_knownVersions_16 : decode cX5_knownVersions 16 = .ok (.invokevirtual 276, 3) := by decide +kernel
theorem dX5_knownVersions_19 : decode cX5_knownVersions 19 = .ok (.ireturn, 1) := by decide +kernel
theorem dX5_meanVersions_0 : decode cX5_meanVersions 0 = .ok (.aload_n 0, 1) := by decide +kernel
theorem dX5_meanVersions_1 : decode cX5_meanVersions 1 = .ok (.getfield 25, 3) := by decide +kernel
theorem dX5_meanVersions_4 : decode cX5_meanVersions 4 = .ok (.invokevirtual 132, 3) := by decide +kernel
theorem dX5_meanVersions_7 : decode cX5_meanVersions 7 = .ok (.istore_n 1, 1) := by decide +kernel
theorem dX5_meanVersions_8 : decode cX5_meanVersions 8 = .ok (.iload_n 1, 1) := by decide +kernel
theorem dX5_meanVersions_9 : decode cX5_meanVersions 9 = .ok (.ifCond .ne 14, 3) := by decide +kernel
theorem dX5_meanVersions_12 : decode cX5_meanVersions 12 = .ok (.new 241, 3) := by decide +kernel
theorem dX5_meanVersions_15 : decode cX5_meanVersions 15 = .ok (.dup, 1) := by decide +kernel
theorem dX5_meanVersions_16 : decode cX5_meanVersions 16 = .ok (.ldc_w 278, 3) := by decide +kernel
theorem dX5_meanVersions_19 : decode cX5_meanVersions 19 = .ok (.invokespecial 245, 3) := by decide +kernel
theorem dX5_meanVersions_22 : decode cX5_meanVersions 22 = .ok (.athrow, 1) := by decide +kernel
theorem dX5_meanVersions_23 : decode cX5_meanVersions 23 = .ok (.iconst 0, 1) := by decide +kernel
theorem dX5_meanVersions_24 : decode cX5_meanVersions 24 = .ok (.istore_n 2, 1) := by decide +kernel
theorem dX5_meanVersions_25 : decode cX5_meanVersions 25 = .ok (.iconst 0, 1) := by decide +kernel
theorem dX5_meanVersions_26 : decode cX5_meanVersions 26 = .ok (.istore_n 3, 1) := by decide +kernel
theorem dX5_meanVersions_27 : decode cX5_meanVersions 27 = .ok (.iload_n 3, 1) := by decide +kernel
theorem dX5_meanVersions_28 : decode cX5_meanVersions 28 = .ok (.iload_n 1, 1) := by decide +kernel
theorem dX5_meanVersions_29 : decode cX5_meanVersions 29 = .ok (.if_icmp .ge 20, 3) := by decide +kernel
theorem dX5_meanVersions_32 : decode cX5_meanVersions 32 = .ok (.iload_n 2, 1) := by decide +kernel
theorem dX5_meanVersions_33 : decode cX5_meanVersions 33 = .ok (.aload_n 0, 1) := by decide +kernel
theorem dX5_meanVersions_34 : decode cX5_meanVersions 34 = .ok (.getfield 25, 3) := by decide +kernel
theorem dX5_meanVersions_37 : decode cX5_meanVersions 37 = .ok (.iload_n 3, 1) := by decide +kernel
theorem dX5_meanVersions_38 : decode cX5_meanVersions 38 = .ok (.invokevirtual 164, 3) := by decide +kernel
theorem dX5_meanVersions_41 : decode cX5_meanVersions 41 = .ok (.iadd, 1) := by decide +kernel
theorem dX5_meanVersions_42 : decode cX5_meanVersions 42 = .ok (.istore_n 2, 1) := by decide +kernel
theorem dX5_meanVersions_43 : decode cX5_meanVersions 43 = .ok (.iinc 3 1, 3) := by decide +kernel
theorem dX5_meanVersions_46 : decode cX5_meanVersions 46 = .ok (.goto (-19), 3) := by decide +kernel
theorem dX5_meanVersions_49 : decode cX5_meanVersions 49 = .ok (.iload_n 2, 1) := by decide +kernel
theorem dX5_meanVersions_50 : decode cX5_meanVersions 50 = .ok (.i2d, 1) := by decide +kernel
theorem dX5_meanVersions_51 : decode cX5_meanVersions 51 = .ok (.iload_n 1, 1) := by decide +kernel
theorem dX5_meanVersions_52 : decode cX5_meanVersions 52 = .ok (.i2d, 1) := by decide +kernel
theorem dX5_meanVersions_53 : decode cX5_meanVersions 53 = .ok (.ddiv, 1) := by decide +kernel
theorem dX5_meanVersions_54 : decode cX5_meanVersions 54 = .ok (.dreturn, 1) := by decide +kernel
theorem dX5_isSound_0 : decode cX5_isSound 0 = .ok (.aload_n 0, 1) := by decide +kernel
theorem dX5_isSound_1 : decode cX5_isSound 1 = .ok (.getfield 25, 3) := by decide +kernel
theorem dX5_isSound_4 : decode cX5_isSound 4 = .ok (.invokevirtual 228, 3) := by decide +kernel
theorem dX5_isSound_7 : decode cX5_isSound 7 = .ok (.astore_n 1, 1) := by decide +kernel
theorem dX5_isSound_8 : decode cX5_isSound 8 = .ok (.iconst 0, 1) := by decide +kernel
theorem dX5_isSound_9 : decode cX5_isSound 9 = .ok (.istore_n 2, 1) := by decide +kernel
theorem dX5_isSound_10 : decode cX5_isSound 10 = .ok (.iload_n 2, 1) := by decide +kernel
theorem dX5_isSound_11 : decode cX5_isSound 11 = .ok (.aload_n 0, 1) := by decide +kernel
theorem dX5_isSound_12 : decode cX5_isSound 12 = .ok (.getfield 39, 3) := by decide +kernel
theorem dX5_isSound_15 : decode cX5_isSound 15 = .ok (.invokevirtual 280, 3) := by decide +kernel
theorem dX5_isSound_18 : decode cX5_isSound 18 = .ok (.if_icmp .ge 20, 3) := by decide +kernel
theorem dX5_isSound_21 : decode cX5_isSound 21 = .ok (.aload_n 0, 1) := by decide +kernel
theorem dX5_isSound_22 : decode cX5_isSound 22 = .ok (.iload_n 2, 1) := by decide +kernel
theorem dX5_isSound_23 : decode cX5_isSound 23 = .ok (.aload_n 1, 1) := by decide +kernel
theorem dX5_isSound_24 : decode cX5_isSound 24 = .ok (.invokevirtual 281, 3) := by decide +kernel
theorem dX5_isSound_27 : decode cX5_isSound 27 = .ok (.ifCond .ne 5, 3) := by decide +kernel
theorem dX5_isSound_30 : decode cX5_isSound 30 = .ok (.iconst 0, 1) := by decide +kernel
theorem dX5_isSound_31 : decode cX5_isSound 31 = .ok (.ireturn, 1) := by decide +kernel
theorem dX5_isSound_32 : decode cX5_isSound 32 = .ok (.iinc 2 1, 3) := by decide +kernel
theorem dX5_isSound_35 : decode cX5_isSound 35 = .ok (.goto (-25), 3) := by decide +kernel
theorem dX5_isSound_38 : decode cX5_isSound 38 = .ok (.iconst 1, 1) := by decide +kernel
theorem dX5_isSound_39 : decode cX5_isSound 39 = .ok (.ireturn, 1) := by decide +kernel
theorem dX5_requireItem_0 : decode cX5_requireItem 0 = .ok (.iload_n 1, 1) := by decide +kernel
theorem dX5_requireItem_1 : decode cX5_requireItem 1 = .ok (.ifCond .lt 14, 3) := by decide +kernel
theorem dX5_requireItem_4 : decode cX5_requireItem 4 = .ok (.iload_n 1, 1) := by decide +kernel
theorem dX5_requireItem_5 : decode cX5_requireItem 5 = .ok (.aload_n 0, 1) := by decide +kernel
theorem dX5_requireItem_6 : decode cX5_requireItem 6 = .ok (.getfield 25, 3) := by decide +kernel
theorem dX5_requireItem_9 : decode cX5_requireItem 9 = .ok (.invokevirtual 132, 3) := by decide +kernel
theorem dX5_requireItem_12 : decode cX5_requireItem 12 = .ok (.if_icmp .lt 14, 3) := by decide +kernel
theorem dX5_requireItem_15 : decode cX5_requireItem 15 = .ok (.new 89, 3) := by decide +kernel
theorem dX5_requireItem_18 : decode cX5_requireItem 18 = .ok (.dup, 1) := by decide +kernel
theorem dX5_requireItem_19 : decode cX5_requireItem 19 = .ok (.ldc_w 285, 3) := by decide +kernel
theorem dX5_requireItem_22 : decode cX5_requireItem 22 = .ok (.invokespecial 93, 3) := by decide +kernel
theorem dX5_requireItem_25 : decode cX5_requireItem 25 = .ok (.athrow, 1) := by decide +kernel
theorem dX5_requireItem_26 : decode cX5_requireItem 26 = .ok (.return_, 1) := by decide +kernel
theorem dX5_requireRule_0 : decode cX5_requireRule 0 = .ok (.iload_n 1, 1) := by decide +kernel
theorem dX5_requireRule_1 : decode cX5_requireRule 1 = .ok (.ifCond .lt 14, 3) := by decide +kernel
theorem dX5_requireRule_4 : decode cX5_requireRule 4 = .ok (.iload_n 1, 1) := by decide +kernel
theorem dX5_requireRule_5 : decode cX5_requireRule 5 = .ok (.aload_n 0, 1) := by decide +kernel
theorem dX5_requireRule_6 : decode cX5_requireRule 6 = .ok (.getfield 32, 3) := by decide +kernel
theorem dX5_requireRule_9 : decode cX5_requireRule 9 = .ok (.invokevirtual 192, 3) := by decide +kernel
theorem dX5_requireRule_12 : decode cX5_requireRule 12 = .ok (.if_icmp .lt 14, 3) := by decide +kernel
theorem dX5_requireRule_15 : decode cX5_requireRule 15 = .ok (.new 89, 3) := by decide +kernel
theorem dX5_requireRule_18 : decode cX5_requireRule 18 = .ok (.dup, 1) := by decide +kernel
theorem dX5_requireRule_19 : decode cX5_requireRule 19 = .ok (.ldc_w 287, 3) := by decide +kernel
theorem dX5_requireRule_22 : decode cX5_requireRule 22 = .ok (.invokespecial 93, 3) := by decide +kernel
theorem dX5_requireRule_25 : decode cX5_requireRule 25 = .ok (.athrow, 1) := by decide +kernel
theorem dX5_requireRule_26 : decode cX5_requireRule 26 = .ok (.return_, 1) := by decide +kernel
theorem dX5_requireRiver_0 : decode cX5_requireRiver 0 = .ok (.iload_n 1, 1) := by decide +kernel
theorem dX5_requireRiver_1 : decode cX5_requireRiver 1 = .ok (.ifCond .lt 14, 3) := by decide +kernel
theorem dX5_requireRiver_4 : decode cX5_requireRiver 4 = .ok (.iload_n 1, 1) := by decide +kernel
theorem dX5_requireRiver_5 : decode cX5_requireRiver 5 = .ok (.aload_n 0, 1) := by decide +kernel
theorem dX5_requireRiver_6 : decode cX5_requireRiver 6 = .ok (.getfield 39, 3) := by decide +kernel
theorem dX5_requireRiver_9 : decode cX5_requireRiver 9 = .ok (.invokevirtual 280, 3) := by decide +kernel
theorem dX5_requireRiver_12 : decode cX5_requireRiver 12 = .ok (.if_icmp .lt 14, 3) := by decide +kernel
theorem dX5_requireRiver_15 : decode cX5_requireRiver 15 = .ok (.new 89, 3) := by decide +kernel
theorem dX5_requireRiver_18 : decode cX5_requireRiver 18 = .ok (.dup, 1) := by decide +kernel
theorem dX5_requireRiver_19 : decode cX5_requireRiver 19 = .ok (.ldc_w 289, 3) := by decide +kernel
theorem dX5_requireRiver_22 : decode cX5_requireRiver 22 = .ok (.invokespecial 93, 3) := by decide +kernel
theorem dX5_requireRiver_25 : decode cX5_requireRiver 25 = .ok (.athrow, 1) := by decide +kernel
theorem dX5_requireRiver_26 : decode cX5_requireRiver 26 = .ok (.return_, 1) := by decide +kernel
theorem dX5_requireDevice_0 : decode cX5_requireDevice 0 = .ok (.iload_n 1, 1) := by decide +kernel
theorem dX5_requireDevice_1 : decode cX5_requireDevice 1 = .ok (.ifCond .lt 14, 3) := by decide +kernel
theorem dX5_requireDevice_4 : decode cX5_requireDevice 4 = .ok (.iload_n 1, 1) := by decide +kernel
theorem dX5_requireDevice_5 : decode cX5_requireDevice 5 = .ok (.aload_n 0, 1) := by decide +kernel
theorem dX5_requireDevice_6 : decode cX5_requireDevice 6 = .ok (.getfield 46, 3) := by decide +kernel
theorem dX5_requireDevice_9 : decode cX5_requireDevice 9 = .ok (.invokevirtual 291, 3) := by decide +kernel
theorem dX5_requireDevice_12 : decode cX5_requireDevice 12 = .ok (.if_icmp .lt 14, 3) := by decide +kernel
theorem dX5_requireDevice_15 : decode cX5_requireDevice 15 = .ok (.new 89, 3) := by decide +kernel
theorem dX5_requireDevice_18 : decode cX5_requireDevice 18 = .ok (.dup, 1) := by decide +kernel
theorem dX5_requireDevice_19 : decode cX5_requireDevice 19 = .ok (.ldc_w 292, 3) := by decide +kernel
theorem dX5_requireDevice_22 : decode cX5_requireDevice 22 = .ok (.invokespecial 93, 3) := by decide +kernel
theorem dX5_requireDevice_25 : decode cX5_requireDevice 25 = .ok (.athrow, 1) := by decide +kernel
theorem dX5_requireDevice_26 : decode cX5_requireDevice 26 = .ok (.return_, 1) := by decide +kernel
theorem dX5_requireKnown_0 : decode cX5_requireKnown 0 = .ok (.aload_n 0, 1) := by decide +kernel
theorem dX5_requireKnown_1 : decode cX5_requireKnown 1 = .ok (.getfield 46, 3) := by decide +kernel
theorem dX5_requireKnown_4 : decode cX5_requireKnown 4 = .ok (.iload_n 1, 1) := by decide +kernel
theorem dX5_requireKnown_5 : decode cX5_requireKnown 5 = .ok (.iload_n 2, 1) := by decide +kernel
theorem dX5_requireKnown_6 : decode cX5_requireKnown 6 = .ok (.invokevirtual 263, 3) := by decide +kernel
theorem dX5_requireKnown_9 : decode cX5_requireKnown 9 = .ok (.ifCond .ne 14, 3) := by decide +kernel
theorem dX5_requireKnown_12 : decode cX5_requireKnown 12 = .ok (.new 72, 3) := by decide +kernel
theorem dX5_requireKnown_15 : decode cX5_requireKnown 15 = .ok (.dup, 1) := by decide +kernel
theorem dX5_requireKnown_16 : decode cX5_requireKnown 16 = .ok (.ldc_w 294, 3) := by decide +kernel
theorem dX5_requireKnown_19 : decode cX5_requireKnown 19 = .ok (.invokespecial 76, 3) := by decide +kernel
theorem dX5_requireKnown_22 : decode cX5_requireKnown 22 = .ok (.athrow, 1) := by decide +kernel
theorem dX5_requireKnown_23 : decode cX5_requireKnown 23 = .ok (.return_, 1) := by decide +kernel
theorem dX5_isKeyOrNone_0 : decode cX5_isKeyOrNone 0 = .ok (.iload_n 0, 1) := by decide +kernel
theorem dX5_isKeyOrNone_1 : decode cX5_isKeyOrNone 1 = .ok (.iconst (-1), 1) := by decide +kernel
theorem dX5_isKeyOrNone_2 : decode cX5_isKeyOrNone 2 = .ok (.if_icmp .lt 14, 3) := by decide +kernel
theorem dX5_isKeyOrNone_5 : decode cX5_isKeyOrNone 5 = .ok (.iload_n 0, 1) := by decide +kernel
theorem dX5_isKeyOrNone_6 : decode cX5_isKeyOrNone 6 = .ok (.sipush 1000, 3) := by decide +kernel
theorem dX5_isKeyOrNone_9 : decode cX5_isKeyOrNone 9 = .ok (.if_icmp .ge 7, 3) := by decide +kernel
theorem dX5_isKeyOrNone_12 : decode cX5_isKeyOrNone 12 = .ok (.iconst 1, 1) := by decide +kernel
theorem dX5_isKeyOrNone_13 : decode cX5_isKeyOrNone 13 = .ok (.goto 4, 3) := by decide +kernel
theorem dX5_isKeyOrNone_16 : decode cX5_isKeyOrNone 16 = .ok (.iconst 0, 1) := by decide +kernel
theorem dX5_isKeyOrNone_17 : decode cX5_isKeyOrNone 17 = .ok (.ireturn, 1) := by decide +kernel
theorem dX5_isMinuteOrNone_0 : decode cX5_isMinuteOrNone 0 = .ok (.iload_n 0, 1) := by decide +kernel
theorem dX5_isMinuteOrNone_1 : decode cX5_isMinuteOrNone 1 = .ok (.iconst (-1), 1) := by decide +kernel
theorem dX5_isMinuteOrNone_2 : decode cX5_isMinuteOrNone 2 = .ok (.if_icmp .lt 13, 3) := by decide +kernel
theorem dX5_isMinuteOrNone_5 : decode cX5_isMinuteOrNone 5 = .ok (.iload_n 0, 1) := by decide +kernel
theorem dX5_isMinuteOrNone_6 : decode cX5_isMinuteOrNone 6 = .ok (.ldc 71, 2) := by decide +kernel
theorem dX5_isMinuteOrNone_8 : decode cX5_isMinuteOrNone 8 = .ok (.if_icmp .gt 7, 3) := by decide +kernel
theorem dX5_isMinuteOrNone_11 : decode cX5_isMinuteOrNone 11 = .ok (.iconst 1, 1) := by decide +kernel
theorem dX5_isMinuteOrNone_12 : decode cX5_isMinuteOrNone 12 = .ok (.goto 4, 3) := by decide +kernel
theorem dX5_isMinuteOrNone_15 : decode cX5_isMinuteOrNone 15 = .ok (.iconst 0, 1) := by decide +kernel
theorem dX5_isMinuteOrNone_16 : decode cX5_isMinuteOrNone 16 = .ok (.ireturn, 1) := by decide +kernel
theorem dX5_isTagOrNone_0 : decode cX5_isTagOrNone 0 = .ok (.iload_n 0, 1) := by decide +kernel
theorem dX5_isTagOrNone_1 : decode cX5_isTagOrNone 1 = .ok (.iconst (-1), 1) := by decide +kernel
theorem dX5_isTagOrNone_2 : decode cX5_isTagOrNone 2 = .ok (.if_icmp .lt 13, 3) := by decide +kernel
theorem dX5_isTagOrNone_5 : decode cX5_isTagOrNone 5 = .ok (.iload_n 0, 1) := by decide +kernel
theorem dX5_isTagOrNone_6 : decode cX5_isTagOrNone 6 = .ok (.bipush 7, 2) := by decide +kernel
theorem dX5_isTagOrNone_8 : decode cX5_isTagOrNone 8 = .ok (.if_icmp .gt 7, 3) := by decide +kernel
theorem dX5_isTagOrNone_11 : decode cX5_isTagOrNone 11 = .ok (.iconst 1, 1) := by decide +kernel
theorem dX5_isTagOrNone_12 : decode cX5_isTagOrNone 12 = .ok (.goto 4, 3) := by decide +kernel
theorem dX5_isTagOrNone_15 : decode cX5_isTagOrNone 15 = .ok (.iconst 0, 1) := by decide +kernel
theorem dX5_isTagOrNone_16 : decode cX5_isTagOrNone 16 = .ok (.ireturn, 1) := by decide +kernel
theorem dX5_percentInCommon_0 : decode cX5_percentInCommon 0 = .ok (.lload_n 0, 1) := by decide +kernel
theorem dX5_percentInCommon_1 : decode cX5_percentInCommon 1 = .ok (.lload_n 2, 1) := by decide +kernel
theorem dX5_percentInCommon_2 : decode cX5_percentInCommon 2 = .ok (.lor, 1) := by decide +kernel
theorem dX5_percentInCommon_3 : decode cX5_percentInCommon 3 = .ok (.invokestatic 296, 3) := by decide +kernel
theorem dX5_percentInCommon_6 : decode cX5_percentInCommon 6 = .ok (.istore 4, 2) := by decide +kernel
theorem dX5_percentInCommon_8 : decode cX5_percentInCommon 8 = .ok (.iload 4, 2) := by decide +kernel
theorem dX5_percentInCommon_10 : decode cX5_percentInCommon 10 = .ok (.ifCond .ne 5, 3) := by decide +kernel
theorem dX5_percentInCommon_13 : decode cX5_percentInCommon 13 = .ok (.iconst 0, 1) := by decide +kernel
theorem dX5_percentInCommon_14 : decode cX5_percentInCommon 14 = .ok (.ireturn, 1) := by decide +kernel
theorem dX5_percentInCommon_15 : decode cX5_percentInCommon 15 = .ok (.bipush 100, 2) := by decide +kernel
theorem dX5_percentInCommon_17 : decode cX5_percentInCommon 17 = .ok (.lload_n 0, 1) := by decide +kernel
theorem dX5_percentInCommon_18 : decode cX5_percentInCommon 18 = .ok (.lload_n 2, 1) := by decide +kernel
theorem dX5_percentInCommon_19 : decode cX5_percentInCommon 19 = .ok (.land, 1) := by decide +kernel
theorem dX5_percentInCommon_20 : decode cX5_percentInCommon 20 = .ok (.invokestatic 296, 3) := by decide +kernel
theorem dX5_percentInCommon_23 : decode cX5_percentInCommon 23 = .ok (.imul, 1) := by decide +kernel
theorem dX5_percentInCommon_24 : decode cX5_percentInCommon 24 = .ok (.iload 4, 2) := by decide +kernel
theorem dX5_percentInCommon_26 : decode cX5_percentInCommon 26 = .ok (.idiv, 1) := by decide +kernel
theorem dX5_percentInCommon_27 : decode cX5_percentInCommon 27 = .ok (.ireturn, 1) := by decide +kernel
theorem dX5_findFetched_0 : decode cX5_findFetched 0 = .ok (.aload_n 0, 1) := by decide +kernel
theorem dX5_findFetched_1 : decode cX5_findFetched 1 = .ok (.getfield 25, 3) := by decide +kernel
theorem dX5_findFetched_4 : decode cX5_findFetched 4 = .ok (.iload_n 1, 1) := by decide +kernel
theorem dX5_findFetched_5 : decode cX5_findFetched 5 = .ok (.iload_n 2, 1) := by decide +kernel
theorem dX5_findFetched_6 : decode cX5_findFetched 6 = .ok (.invokevirtual 136, 3) := by decide +kernel
theorem dX5_findFetched_9 : decode cX5_findFetched 9 = .ok (.istore 6, 2) := by decide +kernel
theorem dX5_findFetched_11 : decode cX5_findFetched 11 = .ok (.iload 6, 2) := by decide +kernel
theorem dX5_findFetched_13 : decode cX5_findFetched 13 = .ok (.iconst (-1), 1) := by decide +kernel
theorem dX5_findFetched_14 : decode cX5_findFetched 14 = .ok (.if_icmp .ne 13, 3) := by decide +kernel
theorem dX5_findFetched_17 : decode cX5_findFetched 17 = .ok (.aload_n 0, 1) := by decide +kernel
theorem dX5_findFetched_18 : decode cX5_findFetched 18 = .ok (.getfield 25, 3) := by decide +kernel
theorem dX5_findFetched_21 : decode cX5_findFetched 21 = .ok (.iload_n 3, 1) := by decide +kernel
theorem dX5_findFetched_22 : decode cX5_findFetched 22 = .ok (.invokevirtual 145, 3) := by decide +kernel
theorem dX5_findFetched_25 : decode cX5_findFetched 25 = .ok (.istore 6, 2) := by decide +kernel
theorem dX5_findFetched_27 : decode cX5_findFetched 27 = .ok (.iload 6, 2) := by decide +kernel
theorem dX5_findFetched_29 : decode cX5_findFetched 29 = .ok (.iconst (-1), 1) := by decide +kernel
theorem dX5_findFetched_30 : decode cX5_findFetched 30 = .ok (.if_icmp .ne 27, 3) := by decide +kernel
theorem dX5_findFetched_33 : decode cX5_findFetched 33 = .ok (.aload_n 0, 1) := by decide +kernel
theorem dX5_findFetched_34 : decode cX5_findFetched 34 = .ok (.getfield 25, 3) := by decide +kernel
theorem dX5_findFetched_37 : decode cX5_findFetched 37 = .ok (.lload 4, 2) := by decide +kernel
theorem dX5_findFetched_39 : decode cX5_findFetched 39 = .ok (.aload_n 0, 1) := by decide +kernel
theorem dX5_findFetched_40 : decode cX5_findFetched 40 = .ok (.getfield 9, 3) := by decide +kernel
theorem dX5_findFetched_43 : decode cX5_findFetched 43 = .ok (.aload_n 0, 1) := by decide +kernel
theorem dX5_findFetched_44 : decode cX5_findFetched 44 = .ok (.getfield 16, 3) := by decide +kernel
theorem dX5_findFetched_47 : decode cX5_findFetched 47 = .ok (.isub, 1) := by decide +kernel
theorem dX5_findFetched_48 : decode cX5_findFetched 48 = .ok (.aload_n 0, 1) := by decide +kernel
theorem dX5_findFetched_49 : decode cX5_findFetched 49 = .ok (.getfield 13, 3) := by decide +kernel
theorem dX5_findFetched_52 : decode cX5_findFetched 52 = .ok (.invokevirtual 302, 3) := by decide +kernel
theorem dX5_findFetched_55 : decode cX5_findFetched 55 = .ok (.istore 6, 2) := by decide +kernel
theorem dX5_findFetched_57 : decode cX5_findFetched 57 = .ok (.iload 6, 2) := by decide +kernel
theorem dX5_findFetched_59 : decode cX5_findFetched 59 = .ok (.ireturn, 1) := by decide +kernel
theorem dX5_timeFrom_0 : decode cX5_timeFrom 0 = .ok (.iload_n 1, 1) := by decide +kernel
theorem dX5_timeFrom_1 : decode cX5_timeFrom 1 = .ok (.iconst (-1), 1) := by decide +kernel
theorem dX5_timeFrom_2 : decode cX5_timeFrom 2 = .ok (.if_icmp .eq 23, 3) := by decide +kernel
theorem dX5_timeFrom_5 : decode cX5_timeFrom 5 = .ok (.iload_n 1, 1) := by decide +kernel
theorem dX5_timeFrom_6 : decode cX5_timeFrom 6 = .ok (.aload_n 0, 1) := by decide +kernel
theorem dX5_timeFrom_7 : decode cX5_timeFrom 7 = .ok (.getfield 9, 3) := by decide +kernel
theorem dX5_timeFrom_10 : decode cX5_timeFrom 10 = .ok (.if_icmp .gt 15, 3) := by decide +kernel
theorem dX5_timeFrom_13 : decode cX5_timeFrom 13 = .ok (.aload_n 0, 1) := by decide +kernel
theorem dX5_timeFrom_14 : decode cX5_timeFrom 14 = .ok (.getfield 9, 3) := by decide +kernel
theorem dX5_timeFrom_17 : decode cX5_timeFrom 17 = .ok (.iload_n 1, 1) := by decide +kernel
theorem dX5_timeFrom_18 : decode cX5_timeFrom 18 = .ok (.isub, 1) := by decide +kernel
theorem dX5_timeFrom_19 : decode cX5_timeFrom 19 = .ok (.sipush 1440, 3) := by decide +kernel
theorem dX5_timeFrom_22 : decode cX5_timeFrom 22 = .ok (.if_icmp .le 8, 3) := by decide +kernel
theorem dX5_timeFrom_25 : decode cX5_timeFrom 25 = .ok (.aload_n 0, 1) := by decide +kernel
theorem dX5_timeFrom_26 : decode cX5_timeFrom 26 = .ok (.getfield 9, 3) := by decide +kernel
theorem dX5_timeFrom_29 : decode cX5_timeFrom 29 = .ok (.ireturn, 1) := by decide +kernel
theorem dX5_timeFrom_30 : decode cX5_timeFrom 30 = .ok (.iload_n 1, 1) := by decide +kernel
theorem dX5_timeFrom_31 : decode cX5_timeFrom 31 = .ok (.ireturn, 1) := by decide +kernel
theorem dX5_hasTagOrNeedsNone_0 : decode cX5_hasTagOrNeedsNone 0 = .ok (.iload_n 1, 1) := by decide +kernel
theorem dX5_hasTagOrNeedsNone_1 : decode cX5_hasTagOrNeedsNone 1 = .ok (.iconst (-1), 1) := by decide +kernel
theorem dX5_hasTagOrNeedsNone_2 : decode cX5_hasTagOrNeedsNone 2 = .ok (.if_icmp .eq 11, 3) := by decide +kernel
theorem dX5_hasTagOrNeedsNone_5 : decode cX5_hasTagOrNeedsNone 5 = .ok (.iload_n 0, 1) := by decide +kernel
theorem dX5_hasTagOrNeedsNone_6 : decode cX5_hasTagOrNeedsNone 6 = .ok (.iconst 1, 1) := by decide +kernel
theorem dX5_hasTagOrNeedsNone_7 : decode cX5_hasTagOrNeedsNone 7 = .ok (.iload_n 1, 1) := by decide +kernel
theorem dX5_hasTagOrNeedsNone_8 : decode cX5_hasTagOrNeedsNone 8 = .ok (.ishl, 1) := by decide +kernel
theorem dX5_hasTagOrNeedsNone_9 : decode cX5_hasTagOrNeedsNone 9 = .ok (.iand, 1) := by decide +kernel
theorem dX5_hasTagOrNeedsNone_10 : decode cX5_hasTagOrNeedsNone 10 = .ok (.ifCond .eq 7, 3) := by decide +kernel
theorem dX5_hasTagOrNeedsNone_13 : decode cX5_hasTagOrNeedsNone 13 = .ok (.iconst 1, 1) := by decide +kernel
theorem dX5_hasTagOrNeedsNone_14 : decode cX5_hasTagOrNeedsNone 14 = .ok (.goto 4, 3) := by decide +kernel
theorem dX5_hasTagOrNeedsNone_17 : decode cX5_hasTagOrNeedsNone 17 = .ok (.iconst 0, 1) := by decide +kernel
theorem dX5_hasTagOrNeedsNone_18 : decode cX5_hasTagOrNeedsNone 18 = .ok (.ireturn, 1) := by decide +kernel
theorem dX5_outcomeOf_0 : decode cX5_outcomeOf 0 = .ok (.aload_n 0, 1) := by decide +kernel
theorem dX5_outcomeOf_1 : decode cX5_outcomeOf 1 = .ok (.getfield 32, 3) := by decide +kernel
theorem dX5_outcomeOf_4 : decode cX5_outcomeOf 4 = .ok (.aload_n 0, 1) := by decide +kernel
theorem dX5_outcomeOf_5 : decode cX5_outcomeOf 5 = .ok (.getfield 25, 3) := by decide +kernel
theorem dX5_outcomeOf_8 : decode cX5_outcomeOf 8 = .ok (.iload_n 1, 1) := by decide +kernel
theorem dX5_outcomeOf_9 : decode cX5_outcomeOf 9 = .ok (.invokevirtual 196, 3) := by decide +kernel
theorem dX5_outcomeOf_12 : decode cX5_outcomeOf 12 = .ok (.aload_n 0, 1) := by decide +kernel
theorem dX5_outcomeOf_13 : decode cX5_outcomeOf 13 = .ok (.getfield 25, 3) := by decide +kernel
theorem dX5_outcomeOf_16 : decode cX5_outcomeOf 16 = .ok (.iload_n 1, 1) := by decide +kernel
theorem dX5_outcomeOf_17 : decode cX5_outcomeOf 17 = .ok (.invokevirtual 170, 3) := by decide +kernel
theorem dX5_outcomeOf_20 : decode cX5_outcomeOf 20 = .ok (.aload_n 0, 1) := by decide +kernel
theorem dX5_outcomeOf_21 : decode cX5_outcomeOf 21 = .ok (.getfield 32, 3) := by decide +kernel
theorem dX5_outcomeOf_24 : decode cX5_outcomeOf 24 = .ok (.invokevirtual 192, 3) := by decide +kernel
theorem dX5_outcomeOf_27 : decode cX5_outcomeOf 27 = .ok (.invokevirtual 200, 3) := by decide +kernel
theorem dX5_outcomeOf_30 : decode cX5_outcomeOf 30 = .ok (.ireturn, 1) := by decide +kernel
theorem dX5_gather_0 : decode cX5_gather 0 = .ok (.iconst 0, 1) := by decide +kernel
theorem dX5_gather_1 : decode cX5_gather 1 = .ok (.istore 4, 2) := by decide +kernel
theorem dX5_gather_3 : decode cX5_gather 3 = .ok (.iconst 0, 1) := by decide +kernel
theorem dX5_gather_4 : decode cX5_gather 4 = .ok (.istore 5, 2) := by decide +kernel
theorem dX5_gather_6 : decode cX5_gather 6 = .ok (.iload 5, 2) := by decide +kernel
theorem dX5_gather_8 : decode cX5_gather 8 = .ok (.aload_n 0, 1) := by decide +kernel
theorem dX5_gather_9 : decode cX5_gather 9 = .ok (.getfield 25, 3) := by decide +kernel
theorem dX5_gather_12 : decode cX5_gather 12 = .ok (.invokevirtual 132, 3) := by decide +kernel
theorem dX5_gather_15 : decode cX5_gather 15 = .ok (.if_icmp .ge 50, 3) := by decide +kernel
theorem dX5_gather_18 : decode cX5_gather 18 = .ok (.aload_n 2, 1) := by decide +kernel
theorem dX5_gather_19 : decode cX5_gather 19 = .ok (.iload 5, 2) := by decide +kernel
theorem dX5_gather_21 : decode cX5_gather 21 = .ok (.iaload, 1) := by decide +kernel
theorem dX5_gather_22 : decode cX5_gather 22 = .ok (.istore 6, 2) := by decide +kernel
theorem dX5_gather_24 : decode cX5_gather 24 = .ok (.aload_n 0, 1) := by decide +kernel
theorem dX5_gather_25 : decode cX5_gather 25 = .ok (.getfield 39, 3) := by decide +kernel
theorem dX5_gather_28 : decode cX5_gather 28 = .ok (.iload_n 1, 1) := by decide +kernel
theorem dX5_gather_29 : decode cX5_gather 29 = .ok (.aload_n 0, 1) := by decide +kernel
theorem dX5_gather_30 : decode cX5_gather 30 = .ok (.getfield 25, 3) := by decide +kernel
theorem dX5_gather_33 : decode cX5_gather 33 = .ok (.iload 6, 2) := by decide +kernel
theorem dX5_gather_35 : decode cX5_gather 35 = .ok (.invokevirtual 170, 3) := by decide +kernel
theorem dX5_gather_38 : decode cX5_gather 38 = .ok (.aload_n 0, 1) := by decide +kernel
theorem dX5_gather_39 : decode cX5_gather 39 = .ok (.iload 6, 2) := by decide +kernel
theorem dX5_gather_41 : decode cX5_gather 41 = .ok (.invokevirtual 193, 3) := by decide +kernel
theorem dX5_gather_44 : decode cX5_gather 44 = .ok (.invokevirtual 305, 3) := by decide +kernel
theorem dX5_gather_47 : decode cX5_gather 47 = .ok (.ifCond .eq 12, 3) := by decide +kernel
theorem dX5_gather_50 : decode cX5_gather 50 = .ok (.aload_n 3, 1) := by decide +kernel
theorem dX5_gather_51 : decode cX5_gather 51 = .ok (.iload 4, 2) := by decide +kernel
theorem dX5_gather_53 : decode cX5_gather 53 = .ok (.iload 6, 2) := by decide +kernel
theorem dX5_gather_55 : decode cX5_gather 55 = .ok (.iastore, 1) := by decide +kernel
theorem dX5_gather_56 : decode cX5_gather 56 = .ok (.iinc 4 1, 3) := by decide +kernel
theorem dX5_gather_59 : decode cX5_gather 59 = .ok (.iinc 5 1, 3) := by decide +kernel
theorem dX5_gather_62 : decode cX5_gather 62 = .ok (.goto (-56), 3) := by decide +kernel
theorem dX5_gather_65 : decode cX5_gather 65 = .ok (.iload 4, 2) := by decide +kernel
theorem dX5_gather_67 : decode cX5_gather 67 = .ok (.ireturn, 1) := by decide +kernel
theorem dX5_shownAt_0 : decode cX5_shownAt 0 = .ok (.aload_n 0, 1) := by decide +kernel
theorem dX5_shownAt_1 : decode cX5_shownAt 1 = .ok (.iload_n 1, 1) := by decide +kernel
theorem dX5_shownAt_2 : decode cX5_shownAt 2 = .ok (.aload_n 3, 1) := by decide +kernel
theorem dX5_shownAt_3 : decode cX5_shownAt 3 = .ok (.aload_n 0, 1) := by decide +kernel
theorem dX5_shownAt_4 : decode cX5_shownAt 4 = .ok (.getfield 57, 3) := by decide +kernel
theorem dX5_shownAt_7 : decode cX5_shownAt 7 = .ok (.invokevirtual 220, 3) := by decide +kernel
theorem dX5_shownAt_10 : decode cX5_shownAt 10 = .ok (.istore 4, 2) := by decide +kernel
theorem dX5_shownAt_12 : decode cX5_shownAt 12 = .ok (.iload_n 2, 1) := by decide +kernel
theorem dX5_shownAt_13 : decode cX5_shownAt 13 = .ok (.ifCond .lt 9, 3) := by decide +kernel
theorem dX5_shownAt_16 : decode cX5_shownAt 16 = .ok (.iload_n 2, 1) := by decide +kernel
theorem dX5_shownAt_17 : decode cX5_shownAt 17 = .ok (.iload 4, 2) := by decide +kernel
theorem dX5_shownAt_19 : decode cX5_shownAt 19 = .ok (.if_icmp .lt 14, 3) := by decide +kernel
theorem dX5_shownAt_22 : decode cX5_shownAt 22 = .ok (.new 140, 3) := by decide +kernel
theorem dX5_shownAt_25 : decode cX5_shownAt 25 = .ok (.dup, 1) := by decide +kernel
theorem dX5_shownAt_26 : decode cX5_shownAt 26 = .ok (.ldc_w 308, 3) := by decide +kernel
theorem dX5_shownAt_29 : decode cX5_shownAt 29 = .ok (.invokespecial 144, 3) := by decide +kernel
theorem dX5_shownAt_32 : decode cX5_shownAt 32 = .ok (.athrow, 1) := by decide +kernel
theorem dX5_shownAt_33 : decode cX5_shownAt 33 = .ok (.aload_n 0, 1) := by decide +kernel
theorem dX5_shownAt_34 : decode cX5_shownAt 34 = .ok (.getfield 57, 3) := by decide +kernel
theorem dX5_shownAt_37 : decode cX5_shownAt 37 = .ok (.iload_n 2, 1) := by decide +kernel
theorem dX5_shownAt_38 : decode cX5_shownAt 38 = .ok (.iaload, 1) := by decide +kernel
theorem dX5_shownAt_39 : decode cX5_shownAt 39 = .ok (.ireturn, 1) := by decide +kernel
theorem dX5_countUnread_0 : decode cX5_countUnread 0 = .ok (.iconst 0, 1) := by decide +kernel
theorem dX5_countUnread_1 : decode cX5_countUnread 1 = .ok (.istore_n 2, 1) := by decide +kernel
theorem dX5_countUnread_2 : decode cX5_countUnread 2 = .ok (.iconst 0, 1) := by decide +kernel
theorem dX5_countUnread_3 : decode cX5_countUnread 3 = .ok (.istore_n 3, 1) := by decide +kernel
theorem dX5_countUnread_4 : decode cX5_countUnread 4 = .ok (.iload_n 3, 1) := by decide +kernel
theorem dX5_countUnread_5 : decode cX5_countUnread 5 = .ok (.iload_n 1, 1) := by decide +kernel
theorem dX5_countUnread_6 : decode cX5_countUnread 6 = .ok (.if_icmp .ge 25, 3) := by decide +kernel
theorem dX5_countUnread_9 : decode cX5_countUnread 9 = .ok (.aload_n 0, 1) := by decide +kernel
theorem dX5_countUnread_10 : decode cX5_countUnread 10 = .ok (.aload_n 0, 1) := by decide +kernel
theorem dX5_countUnread_11 : decode cX5_countUnread 11 = .ok (.getfield 57, 3) := by decide +kernel
theorem dX5_countUnread_14 : decode cX5_countUnread 14 = .ok (.iload_n 3, 1) := by decide +kernel
theorem dX5_countUnread_15 : decode cX5_countUnread 15 = .ok (.iaload, 1) := by decide +kernel
theorem dX5_countUnread_16 : decode cX5_countUnread 16 = .ok (.invokevirtual 236, 3) := by decide +kernel
theorem dX5_countUnread_19 : decode cX5_countUnread 19 = .ok (.ifCond .ne 6, 3) := by decide +kernel
theorem dX5_countUnread_22 : decode cX5_countUnread 22 = .ok (.iinc 2 1, 3) := by decide +kernel
theorem dX5_countUnread_25 : decode cX5_countUnread 25 = .ok (.iinc 3 1, 3) := by decide +kernel
theorem dX5_countUnread_28 : decode cX5_countUnread 28 = .ok (.goto (-24), 3) := by decide +kernel
theorem dX5_countUnread_31 : decode cX5_countUnread 31 = .ok (.iload_n 2, 1) := by decide +kernel
theorem dX5_countUnread_32 : decode cX5_countUnread 32 = .ok (.ireturn, 1) := by decide +kernel
theorem dX5_isSoundRiver_0 : decode cX5_isSoundRiver 0 = .ok (.aload_n 0, 1) := by decide +kernel
theorem dX5_isSoundRiver_1 : decode cX5_isSoundRiver 1 = .ok (.iload_n 1, 1) := by decide +kernel
theorem dX5_isSoundRiver_2 : decode cX5_isSoundRiver 2 = .ok (.aload_n 0, 1) := by decide +kernel
theorem dX5_isSoundRiver_3 : decode cX5_isSoundRiver 3 = .ok (.getfield 25, 3) := by decide +kernel
theorem dX5_isSoundRiver_6 : decode cX5_isSoundRiver 6 = .ok (.invokevirtual 216, 3) := by decide +kernel
theorem dX5_isSoundRiver_9 : decode cX5_isSoundRiver 9 = .ok (.aload_n 0, 1) := by decide +kernel
theorem dX5_isSoundRiver_10 : decode cX5_isSoundRiver 10 = .ok (.getfield 57, 3) := by decide +kernel
theorem dX5_isSoundRiver_13 : decode cX5_isSoundRiver 13 = .ok (.invokevirtual 220, 3) := by decide +kernel
theorem dX5_isSoundRiver_16 : decode cX5_isSoundRiver 16 = .ok (.istore_n 3, 1) := by decide +kernel
theorem dX5_isSoundRiver_17 : decode cX5_isSoundRiver 17 = .ok (.iload_n 3, 1) := by decide +kernel
theorem dX5_isSoundRiver_18 : decode cX5_isSoundRiver 18 = .ok (.aload_n 0, 1) := by decide +kernel
theorem dX5_isSoundRiver_19 : decode cX5_isSoundRiver 19 = .ok (.iload_n 1, 1) := by decide +kernel
theorem dX5_isSoundRiver_20 : decode cX5_isSoundRiver 20 = .ok (.aload_n 2, 1) := by decide +kernel
theorem dX5_isSoundRiver_21 : decode cX5_isSoundRiver 21 = .ok (.aload_n 0, 1) := by decide +kernel
theorem dX5_isSoundRiver_22 : decode cX5_isSoundRiver 22 = .ok (.getfield 61, 3) := by decide +kernel
theorem dX5_isSoundRiver_25 : decode cX5_isSoundRiver 25 = .ok (.invokevirtual 220, 3) := by decide +kernel
theorem dX5_isSoundRiver_28 : decode cX5_isSoundRiver 28 = .ok (.if_icmp .eq 5, 3) := by decide +kernel
theorem dX5_isSoundRiver_31 : decode cX5_isSoundRiver 31 = .ok (.iconst 0, 1) := by decide +kernel
theorem dX5_isSoundRiver_32 : decode cX5_isSoundRiver 32 = .ok (.ireturn, 1) := by decide +kernel
theorem dX5_isSoundRiver_33 : decode cX5_isSoundRiver 33 = .ok (.iconst 0, 1) := by decide +kernel
theorem dX5_isSoundRiver_34 : decode cX5_isSoundRiver 34 = .ok (.istore 4, 2) := by decide +kernel
theorem dX5_isSoundRiver_36 : decode cX5_isSoundRiver 36 = .ok (.iconst 0, 1) := by decide +kernel
theorem dX5_isSoundRiver_37 : decode cX5_isSoundRiver 37 = .ok (.istore 5, 2) := by decide +kernel
theorem dX5_isSoundRiver_39 : decode cX5_isSoundRiver 39 = .ok (.iload 5, 2) := by decide +kernel
theorem dX5_isSoundRiver_41 : decode cX5_isSoundRiver 41 = .ok (.iload_n 3, 1) := by decide +kernel
theorem dX5_isSoundRiver_42 : decode cX5_isSoundRiver 42 = .ok (.if_icmp .ge 54, 3) := by decide +kernel
theorem dX5_isSoundRiver_45 : decode cX5_isSoundRiver 45 = .ok (.iconst 1, 1) := by decide +kernel
theorem dX5_isSoundRiver_46 : decode cX5_isSoundRiver 46 = .ok (.aload_n 0, 1) := by decide +kernel
theorem dX5_isSoundRiver_47 : decode cX5_isSoundRiver 47 = .ok (.getfield 57, 3) := by decide +kernel
theorem dX5_isSoundRiver_50 : decode cX5_isSoundRiver 50 = .ok (.iload 5, 2) := by decide +kernel
theorem dX5_isSoundRiver_52 : decode cX5_isSoundRiver 52 = .ok (.iaload, 1) := by decide +kernel
theorem dX5_isSoundRiver_53 : decode cX5_isSoundRiver 53 = .ok (.ishl, 1) := by decide +kernel
theorem dX5_isSoundRiver_54 : decode cX5_isSoundRiver 54 = .ok (.istore 6, 2) := by decide +kernel
theorem dX5_isSoundRiver_56 : decode cX5_isSoundRiver 56 = .ok (.aload_n 0, 1) := by decide +kernel
theorem dX5_isSoundRiver_57 : decode cX5_isSoundRiver 57 = .ok (.getfield 57, 3) := by decide +kernel
theorem dX5_isSoundRiver_60 : decode cX5_isSoundRiver 60 = .ok (.iload 5, 2) := by decide +kernel
theorem dX5_isSoundRiver_62 : decode cX5_isSoundRiver 62 = .ok (.iaload, 1) := by decide +kernel
theorem dX5_isSoundRiver_63 : decode cX5_isSoundRiver 63 = .ok (.aload_n 0, 1) := by decide +kernel
theorem dX5_isSoundRiver_64 : decode cX5_isSoundRiver 64 = .ok (.getfield 61, 3) := by decide +kernel
theorem dX5_isSoundRiver_67 : decode cX5_isSoundRiver 67 = .ok (.iload 5, 2) := by decide +kernel
theorem dX5_isSoundRiver_69 : decode cX5_isSoundRiver 69 = .ok (.iaload, 1) := by decide +kernel
theorem dX5_isSoundRiver_70 : decode cX5_isSoundRiver 70 = .ok (.if_icmp .ne 11, 3) := by decide +kernel
theorem dX5_isSoundRiver_73 : decode cX5_isSoundRiver 73 = .ok (.iload 4, 2) := by decide +kernel
theorem dX5_isSoundRiver_75 : decode cX5_isSoundRiver 75 = .ok (.iload 6, 2) := by decide +kernel
theorem dX5_isSoundRiver_77 : decode cX5_isSoundRiver 77 = .ok (.iand, 1) := by decide +kernel
theorem dX5_isSoundRiver_78 : decode cX5_isSoundRiver 78 = .ok (.ifCond .eq 5, 3) := by decide +kernel
theorem dX5_isSoundRiver_81 : decode cX5_isSoundRiver 81 = .ok (.iconst 0, 1) := by decide +kernel
theorem dX5_isSoundRiver_82 : decode cX5_isSoundRiver 82 = .ok (.ireturn, 1) := by decide +kernel
theorem dX5_isSoundRiver_83 : decode cX5_isSoundRiver 83 = .ok (.iload 4, 2) := by decide +kernel
theorem dX5_isSoundRiver_85 : decode cX5_isSoundRiver 85 = .ok (.iload 6, 2) := by decide +kernel
theorem dX5_isSoundRiver_87 : decode cX5_isSoundRiver 87 = .ok (.ior, 1) := by decide +kernel
theorem dX5_isSoundRiver_88 : decode cX5_isSoundRiver 88 = .ok (.istore 4, 2) := by decide +kernel
theorem dX5_isSoundRiver_90 : decode cX5_isSoundRiver 90 = .ok (.iinc 5 1, 3) := by decide +kernel
theorem dX5_isSoundRiver_93 : decode cX5_isSoundRiver 93 = .ok (.goto (-54), 3) := by decide +kernel
theorem dX5_isSoundRiver_96 : decode cX5_isSoundRiver 96 = .ok (.iconst 1, 1) := by decide +kernel
theorem dX5_isSoundRiver_97 : decode cX5_isSoundRiver 97 = .ok (.ireturn, 1) := by decide +kernel
theorem dX5_isReadByReader_0 : decode cX5_isReadByReader 0 = .ok (.aload_n 0, 1) := by decide +kernel
theorem dX5_isReadByReader_1 : decode cX5_isReadByReader 1 = .ok (.getfield 53, 3) := by decide +kernel
theorem dX5_isReadByReader_4 : decode cX5_isReadByReader 4 = .ok (.iconst 4, 1) := by decide +kernel
theorem dX5_isReadByReader_5 : decode cX5_isReadByReader 5 = .ok (.iload_n 1, 1) := by decide +kernel
theorem dX5_isReadByReader_6 : decode cX5_isReadByReader 6 = .ok (.aload_n 0, 1) := by decide +kernel
theorem dX5_isReadByReader_7 : decode cX5_isReadByReader 7 = .ok (.getfield 25, 3) := by decide +kernel
theorem dX5_isReadByReader_10 : decode cX5_isReadByReader 10 = .ok (.iload_n 1, 1) := by decide +kernel
theorem dX5_isReadByReader_11 : decode cX5_isReadByReader 11 = .ok (.invokevirtual 167, 3) := by decide +kernel
theorem dX5_isReadByReader_14 : decode cX5_isReadByReader 14 = .ok (.invokevirtual 310, 3) := by decide +kernel
theorem dX5_isReadByReader_17 : decode cX5_isReadByReader 17 = .ok (.ireturn, 1) := by decide +kernel
theorem dX5_isReadByDevice_0 : decode cX5_isReadByDevice 0 = .ok (.aload_n 0, 1) := by decide +kernel
theorem dX5_isReadByDevice_1 : decode cX5_isReadByDevice 1 = .ok (.getfield 53, 3) := by decide +kernel
theorem dX5_isReadByDevice_4 : decode cX5_isReadByDevice 4 = .ok (.iload_n 1, 1) := by decide +kernel
theorem dX5_isReadByDevice_5 : decode cX5_isReadByDevice 5 = .ok (.iload_n 2, 1) := by decide +kernel
theorem dX5_isReadByDevice_6 : decode cX5_isReadByDevice 6 = .ok (.aload_n 0, 1) := by decide +kernel
theorem dX5_isReadByDevice_7 : decode cX5_isReadByDevice 7 = .ok (.getfield 46, 3) := by decide +kernel
theorem dX5_isReadByDevice_10 : decode cX5_isReadByDevice 10 = .ok (.iload_n 1, 1) := by decide +kernel
theorem dX5_isReadByDevice_11 : decode cX5_isReadByDevice 11 = .ok (.iload_n 2, 1) := by decide +kernel
theorem dX5_isReadByDevice_12 : decode cX5_isReadByDevice 12 = .ok (.invokevirtual 313, 3) := by decide +kernel
theorem dX5_isReadByDevice_15 : decode cX5_isReadByDevice 15 = .ok (.invokevirtual 310, 3) := by decide +kernel
theorem dX5_isReadByDevice_18 : decode cX5_isReadByDevice 18 = .ok (.ireturn, 1) := by decide +kernel
theorem dX5_markKnown_0 : decode cX5_markKnown 0 = .ok (.aload_n 0, 1) := by decide +kernel
theorem dX5_markKnown_1 : decode cX5_markKnown 1 = .ok (.iload_n 1, 1) := by decide +kernel
theorem dX5_markKnown_2 : decode cX5_markKnown 2 = .ok (.iload_n 2, 1) := by decide +kernel
theorem dX5_markKnown_3 : decode cX5_markKnown 3 = .ok (.invokevirtual 273, 3) := by decide +kernel
theorem dX5_markKnown_6 : decode cX5_markKnown 6 = .ok (.istore 4, 2) := by decide +kernel
theorem dX5_markKnown_8 : decode cX5_markKnown 8 = .ok (.aload_n 0, 1) := by decide +kernel
theorem dX5_markKnown_9 : decode cX5_markKnown 9 = .ok (.getfield 53, 3) := by decide +kernel
theorem dX5_markKnown_12 : decode cX5_markKnown 12 = .ok (.iload_n 1, 1) := by decide +kernel
theorem dX5_markKnown_13 : decode cX5_markKnown 13 = .ok (.iload_n 2, 1) := by decide +kernel
theorem dX5_markKnown_14 : decode cX5_markKnown 14 = .ok (.iload_n 3, 1) := by decide +kernel
theorem dX5_markKnown_15 : decode cX5_markKnown 15 = .ok (.aload_n 0, 1) := by decide +kernel
theorem dX5_markKnown_16 : decode cX5_markKnown 16 = .ok (.getfield 9, 3) := by decide +kernel
theorem dX5_markKnown_19 : decode cX5_markKnown 19 = .ok (.aload_n 0, 1) := by decide +kernel
theorem dX5_markKnown_20 : decode cX5_markKnown 20 = .ok (.getfield 46, 3) := by decide +kernel
theorem dX5_markKnown_23 : decode cX5_markKnown 23 = .ok (.iload_n 1, 1) := by decide +kernel
theorem dX5_markKnown_24 : decode cX5_markKnown 24 = .ok (.iload_n 2, 1) := by decide +kernel
theorem dX5_markKnown_25 : decode cX5_markKnown 25 = .ok (.invokevirtual 276, 3) := by decide +kernel
theorem dX5_markKnown_28 : decode cX5_markKnown 28 = .ok (.iconst 1, 1) := by decide +kernel
theorem dX5_markKnown_29 : decode cX5_markKnown 29 = .ok (.isub, 1) := by decide +kernel
theorem dX5_markKnown_30 : decode cX5_markKnown 30 = .ok (.invokevirtual 315, 3) := by decide +kernel
theorem dX5_markKnown_33 : decode cX5_markKnown 33 = .ok (.iload 4, 2) := by decide +kernel
theorem dX5_markKnown_35 : decode cX5_markKnown 35 = .ok (.ireturn, 1) := by decide +kernel
theorem dX5_bringUpToDate_0 : decode cX5_bringUpToDate 0 = .ok (.aload_n 0, 1) := by decide +kernel
theorem dX5_bringUpToDate_1 : decode cX5_bringUpToDate 1 = .ok (.getfield 53, 3) := by decide +kernel
theorem dX5_bringUpToDate_4 : decode cX5_bringUpToDate 4 = .ok (.iconst 4, 1) := by decide +kernel
theorem dX5_bringUpToDate_5 : decode cX5_bringUpToDate 5 = .ok (.iload_n 1, 1) := by decide +kernel
theorem dX5_bringUpToDate_6 : decode cX5_bringUpToDate 6 = .ok (.iload_n 2, 1) := by decide +kernel
theorem dX5_bringUpToDate_7 : decode cX5_bringUpToDate 7 = .ok (.invokevirtual 270, 3) := by decide +kernel
theorem dX5_bringUpToDate_10 : decode cX5_bringUpToDate 10 = .ok (.aload_n 0, 1) := by decide +kernel
theorem dX5_bringUpToDate_11 : decode cX5_bringUpToDate 11 = .ok (.getfield 46, 3) := by decide +kernel
theorem dX5_bringUpToDate_14 : decode cX5_bringUpToDate 14 = .ok (.iload_n 1, 1) := by decide +kernel
theorem dX5_bringUpToDate_15 : decode cX5_bringUpToDate 15 = .ok (.iload_n 2, 1) := by decide +kernel
theorem dX5_bringUpToDate_16 : decode cX5_bringUpToDate 16 = .ok (.aload_n 0, 1) := by decide +kernel
theorem dX5_bringUpToDate_17 : decode cX5_bringUpToDate 17 = .ok (.getfield 25, 3) := by decide +kernel
theorem dX5_bringUpToDate_20 : decode cX5_bringUpToDate 20 = .ok (.iload_n 2, 1) := by decide +kernel
theorem dX5_bringUpToDate_21 : decode cX5_bringUpToDate 21 = .ok (.invokevirtual 164, 3) := by decide +kernel
theorem dX5_bringUpToDate_24 : decode cX5_bringUpToDate 24 = .ok (.aload_n 0, 1) := by decide +kernel
theorem dX5_bringUpToDate_25 : decode cX5_bringUpToDate 25 = .ok (.getfield 25, 3) := by decide +kernel
theorem dX5_bringUpToDate_28 : decode cX5_bringUpToDate 28 = .ok (.iload_n 2, 1) := by decide +kernel
theorem dX5_bringUpToDate_29 : decode cX5_bringUpToDate 29 = .ok (.invokevirtual 167, 3) := by decide +kernel
theorem dX5_bringUpToDate_32 : decode cX5_bringUpToDate 32 = .ok (.invokevirtual 319, 3) := by decide +kernel
theorem dX5_bringUpToDate_35 : decode cX5_bringUpToDate 35 = .ok (.return_, 1) := by decide +kernel
theorem dJx00060_init_a7421_0 : decode cJx00060_init_a7421 0 = .ok (.aload_n 0, 1) := by decide +kernel
theorem dJx00060_init_a7421_1 : decode cJx00060_init_a7421 1 = .ok (.aload_n 1, 1) := by decide +kernel
theorem dJx00060_init_a7421_2 : decode cJx00060_init_a7421 2 = .ok (.invokespecial 7, 3) := by decide +kernel
theorem dJx00060_init_a7421_5 : decode cJx00060_init_a7421 5 = .ok (.return_, 1) := by decide +kernel
theorem dJ13_bitCount_95d88_0 : decode cJ13_bitCount_95d88 0 = .ok (.lload_n 0, 1) := by decide +kernel
theorem dJ13_bitCount_95d88_1 : decode cJ13_bitCount_95d88 1 = .ok (.lload_n 0, 1) := by decide +kernel
theorem dJ13_bitCount_95d88_2 : decode cJ13_bitCount_95d88 2 = .ok (.iconst 1, 1) := by decide +kernel
theorem dJ13_bitCount_95d88_3 : decode cJ13_bitCount_95d88 3 = .ok (.lushr, 1) := by decide +kernel
theorem dJ13_bitCount_95d88_4 : decode cJ13_bitCount_95d88 4 = .ok (.ldc2_w 314, 3) := by decide +kernel
theorem dJ13_bitCount_95d88_7 : decode cJ13_bitCount_95d88 7 = .ok (.land, 1) := by decide +kernel
theorem dJ13_bitCount_95d88_8 : decode cJ13_bitCount_95d88 8 = .ok (.lsub, 1) := by decide +kernel
theorem dJ13_bitCount_95d88_9 : decode cJ13_bitCount_95d88 9 = .ok (.lstore_n 0, 1) := by decide +kernel
theorem dJ13_bitCount_95d88_10 : decode cJ13_bitCount_95d88 10 = .ok (.lload_n 0, 1) := by decide +kernel
theorem dJ13_bitCount_95d88_11 : decode cJ13_bitCount_95d88 11 = .ok (.ldc2_w 316, 3) := by decide +kernel
theorem dJ13_bitCount_95d88_14 : decode cJ13_bitCount_95d88 14 = .ok (.land, 1) := by decide +kernel
theorem dJ13_bitCount_95d88_15 : decode cJ13_bitCount_95d88 15 = .ok (.lload_n 0, 1) := by decide +kernel
theorem dJ13_bitCount_95d88_16 : decode cJ13_bitCount_95d88 16 = .ok (.iconst 2, 1) := by decide +kernel
theorem dJ13_bitCount_95d88_17 : decode cJ13_bitCount_95d88 17 = .ok (.lushr, 1) := by decide +kernel
theorem dJ13_bitCount_95d88_18 : decode cJ13_bitCount_95d88 18 = .ok (.ldc2_w 316, 3) := by decide +kernel
theorem dJ13_bitCount_95d88_21 : decode cJ13_bitCount_95d88 21 = .ok (.land, 1) := by decide +kernel
theorem dJ13_bitCount_95d88_22 : decode cJ13_bitCount_95d88 22 = .ok (.ladd, 1) := by decide +kernel
theorem dJ13_bitCount_95d88_23 : decode cJ13_bitCount_95d88 23 = .ok (.lstore_n 0, 1) := by decide +kernel
theorem dJ13_bitCount_95d88_24 : decode cJ13_bitCount_95d88 24 = .ok (.lload_n 0, 1) := by decide +kernel
theorem dJ13_bitCount_95d88_25 : decode cJ13_bitCount_95d88 25 = .ok (.lload_n 0, 1) := by decide +kernel
theorem dJ13_bitCount_95d88_26 : decode cJ13_bitCount_95d88 26 = .ok (.iconst 4, 1) := by decide +kernel
theorem dJ13_bitCount_95d88_27 : decode cJ13_bitCount_95d88 27 = .ok (.lushr, 1) := by decide +kernel
theorem dJ13_bitCount_95d88_28 : decode cJ13_bitCount_95d88 28 = .ok (.ladd, 1) := by decide +kernel
theorem dJ13_bitCount_95d88_29 : decode cJ13_bitCount_95d88 29 = .ok (.ldc2_w 318, 3) := by decide +kernel
theorem dJ13_bitCount_95d88_32 : decode cJ13_bitCount_95d88 32 = .ok (.land, 1) := by decide +kernel
theorem dJ13_bitCount_95d88_33 : decode cJ13_bitCount_95d88 33 = .ok (.lstore_n 0, 1) := by decide +kernel
theorem dJ13_bitCount_95d88_34 : decode cJ13_bitCount_95d88 34 = .ok (.lload_n 0, 1) := by decide +kernel
theorem dJ13_bitCount_95d88_35 : decode cJ13_bitCount_95d88 35 = .ok (.lload_n 0, 1) := by decide +kernel
theorem dJ13_bitCount_95d88_36 : decode cJ13_bitCount_95d88 36 = .ok (.bipush 8, 2) := by decide +kernel
theorem dJ13_bitCount_95d88_38 : decode cJ13_bitCount_95d88 38 = .ok (.lushr, 1) := by decide +kernel
theorem dJ13_bitCount_95d88_39 : decode cJ13_bitCount_95d88 39 = .ok (.ladd, 1) := by decide +kernel
theorem dJ13_bitCount_95d88_40 : decode cJ13_bitCount_95d88 40 = .ok (.lstore_n 0, 1) := by decide +kernel
theorem dJ13_bitCount_95d88_41 : decode cJ13_bitCount_95d88 41 = .ok (.lload_n 0, 1) := by decide +kernel
theorem dJ13_bitCount_95d88_42 : decode cJ13_bitCount_95d88 42 = .ok (.lload_n 0, 1) := by decide +kernel
theorem dJ13_bitCount_95d88_43 : decode cJ13_bitCount_95d88 43 = .ok (.bipush 16, 2) := by decide +kernel
theorem dJ13_bitCount_95d88_45 : decode cJ13_bitCount_95d88 45 = .ok (.lushr, 1) := by decide +kernel
theorem dJ13_bitCount_95d88_46 : decode cJ13_bitCount_95d88 46 = .ok (.ladd, 1) := by decide +kernel
theorem dJ13_bitCount_95d88_47 : decode cJ13_bitCount_95d88 47 = .ok (.lstore_n 0, 1) := by decide +kernel
theorem dJ13_bitCount_95d88_48 : decode cJ13_bitCount_95d88 48 = .ok (.lload_n 0, 1) := by decide +kernel
theorem dJ13_bitCount_95d88_49 : decode cJ13_bitCount_95d88 49 = .ok (.lload_n 0, 1) := by decide +kernel
theorem dJ13_bitCount_95d88_50 : decode cJ13_bitCount_95d88 50 = .ok (.bipush 32, 2) := by decide +kernel
theorem dJ13_bitCount_95d88_52 : decode cJ13_bitCount_95d88 52 = .ok (.lushr, 1) := by decide +kernel
theorem dJ13_bitCount_95d88_53 : decode cJ13_bitCount_95d88 53 = .ok (.ladd, 1) := by decide +kernel
theorem dJ13_bitCount_95d88_54 : decode cJ13_bitCount_95d88 54 = .ok (.lstore_n 0, 1) := by decide +kernel
theorem dJ13_bitCount_95d88_55 : decode cJ13_bitCount_95d88 55 = .ok (.lload_n 0, 1) := by decide +kernel
theorem dJ13_bitCount_95d88_56 : decode cJ13_bitCount_95d88 56 = .ok (.l2i, 1) := by decide +kernel
theorem dJ13_bitCount_95d88_57 : decode cJ13_bitCount_95d88 57 = .ok (.bipush 127, 2) := by decide +kernel
theorem dJ13_bitCount_95d88_59 : decode cJ13_bitCount_95d88 59 = .ok (.iand, 1) := by decide +kernel
theorem dJ13_bitCount_95d88_60 : decode cJ13_bitCount_95d88 60 = .ok (.ireturn, 1) := by decide +kernel
theorem dJ9_floorMod_7cf53_0 : decode cJ9_floorMod_7cf53 0 = .ok (.iload_n 0, 1) := by decide +kernel
theorem dJ9_floorMod_7cf53_1 : decode cJ9_floorMod_7cf53 1 = .ok (.iload_n 1, 1) := by decide +kernel
theorem dJ9_floorMod_7cf53_2 : decode cJ9_floorMod_7cf53 2 = .ok (.irem, 1) := by decide +kernel
theorem dJ9_floorMod_7cf53_3 : decode cJ9_floorMod_7cf53 3 = .ok (.istore_n 2, 1) := by decide +kernel
theorem dJ9_floorMod_7cf53_4 : decode cJ9_floorMod_7cf53 4 = .ok (.iload_n 0, 1) := by decide +kernel
theorem dJ9_floorMod_7cf53_5 : decode cJ9_floorMod_7cf53 5 = .ok (.iload_n 1, 1) := by decide +kernel
theorem dJ9_floorMod_7cf53_6 : decode cJ9_floorMod_7cf53 6 = .ok (.ixor, 1) := by decide +kernel
theorem dJ9_floorMod_7cf53_7 : decode cJ9_floorMod_7cf53 7 = .ok (.ifCond .ge 11, 3) := by decide +kernel
theorem dJ9_floorMod_7cf53_10 : decode cJ9_floorMod_7cf53 10 = .ok (.iload_n 2, 1) := by decide +kernel
theorem dJ9_floorMod_7cf53_11 : decode cJ9_floorMod_7cf53 11 = .ok (.ifCond .eq 7, 3) := by decide +kernel
theorem dJ9_floorMod_7cf53_14 : decode cJ9_floorMod_7cf53 14 = .ok (.iload_n 2, 1) := by decide +kernel
theorem dJ9_floorMod_7cf53_15 : decode cJ9_floorMod_7cf53 15 = .ok (.iload_n 1, 1) := by decide +kernel
theorem dJ9_floorMod_7cf53_16 : decode cJ9_floorMod_7cf53 16 = .ok (.iadd, 1) := by decide +kernel
theorem dJ9_floorMod_7cf53_17 : decode cJ9_floorMod_7cf53 17 = .ok (.ireturn, 1) := by decide +kernel
theorem dJ9_floorMod_7cf53_18 : decode cJ9_floorMod_7cf53 18 = .ok (.iload_n 2, 1) := by decide +kernel
theorem dJ9_floorMod_7cf53_19 : decode cJ9_floorMod_7cf53 19 = .ok (.ireturn, 1) := by decide +kernel
