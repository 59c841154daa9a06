theorem dX0_init_0 : decode cX0_init 0 = .ok (.aload_n 0, 1) := by decide +kernel
theorem dX0_init_1 : decode cX0_init 1 = .ok (.invokespecial 3, 3) := by decide +kernel
theorem dX0_init_4 : decode cX0_init 4 = .ok (.aload_n 0, 1) := by decide +kernel
theorem dX0_init_5 : decode cX0_init 5 = .ok (.iconst 0, 1) := by decide +kernel
theorem dX0_init_6 : decode cX0_init 6 = .ok (.putfield 9, 3) := by decide +kernel
theorem dX0_init_9 : decode cX0_init 9 = .ok (.aload_n 0, 1) := by decide +kernel
theorem dX0_init_10 : decode cX0_init 10 = .ok (.iconst 0, 1) := by decide +kernel
theorem dX0_init_11 : decode cX0_init 11 = .ok (.putfield 15, 3) := by decide +kernel
theorem dX0_init_14 : decode cX0_init 14 = .ok (.aload_n 0, 1) := by decide +kernel
theorem dX0_init_15 : decode cX0_init 15 = .ok (.iconst 0, 1) := by decide +kernel
theorem dX0_init_16 : decode cX0_init 16 = .ok (.putfield 18, 3) := by decide +kernel
theorem dX0_init_19 : decode cX0_init 19 = .ok (.aload_n 0, 1) := by decide +kernel
theorem dX0_init_20 : decode cX0_init 20 = .ok (.iconst 0, 1) := by decide +kernel
theorem dX0_init_21 : decode cX0_init 21 = .ok (.putfield 21, 3) := by decide +kernel
theorem dX0_init_24 : decode cX0_init 24 = .ok (.aload_n 0, 1) := by decide +kernel
theorem dX0_init_25 : decode cX0_init 25 = .ok (.bipush 121, 2) := by decide +kernel
theorem dX0_init_27 : decode cX0_init 27 = .ok (.newarray .int, 2) := by decide +kernel
theorem dX0_init_29 : decode cX0_init 29 = .ok (.putfield 24, 3) := by decide +kernel
theorem dX0_init_32 : decode cX0_init 32 = .ok (.aload_n 0, 1) := by decide +kernel
theorem dX0_init_33 : decode cX0_init 33 = .ok (.bipush 121, 2) := by decide +kernel
theorem dX0_init_35 : decode cX0_init 35 = .ok (.newarray .int, 2) := by decide +kernel
theorem dX0_init_37 : decode cX0_init 37 = .ok (.putfield 28, 3) := by decide +kernel
theorem dX0_init_40 : decode cX0_init 40 = .ok (.aload_n 0, 1) := by decide +kernel
theorem dX0_init_41 : decode cX0_init 41 = .ok (.bipush 121, 2) := by decide +kernel
theorem dX0_init_43 : decode cX0_init 43 = .ok (.newarray .int, 2) := by decide +kernel
theorem dX0_init_45 : decode cX0_init 45 = .ok (.putfield 31, 3) := by decide +kernel
theorem dX0_init_48 : decode cX0_init 48 = .ok (.aload_n 0, 1) := by decide +kernel
theorem dX0_init_49 : decode cX0_init 49 = .ok (.bipush 121, 2) := by decide +kernel
theorem dX0_init_51 : decode cX0_init 51 = .ok (.newarray .int, 2) := by decide +kernel
theorem dX0_init_53 : decode cX0_init 53 = .ok (.putfield 34, 3) := by decide +kernel
theorem dX0_init_56 : decode cX0_init 56 = .ok (.aload_n 0, 1) := by decide +kernel
theorem dX0_init_57 : decode cX0_init 57 = .ok (.bipush 40, 2) := by decide +kernel
theorem dX0_init_59 : decode cX0_init 59 = .ok (.newarray .int, 2) := by decide +kernel
theorem dX0_init_61 : decode cX0_init 61 = .ok (.putfield 37, 3) := by decide +kernel
theorem dX0_init_64 : decode cX0_init 64 = .ok (.aload_n 0, 1) := by decide +kernel
theorem dX0_init_65 : decode cX0_init 65 = .ok (.bipush 40, 2) := by decide +kernel
theorem dX0_init_67 : decode cX0_init 67 = .ok (.newarray .int, 2) := by decide +kernel
theorem dX0_init_69 : decode cX0_init 69 = .ok (.putfield 40, 3) := by decide +kernel
theorem dX0_init_72 : decode cX0_init 72 = .ok (.aload_n 0, 1) := by decide +kernel
theorem dX0_init_73 : decode cX0_init 73 = .ok (.bipush 40, 2) := by decide +kernel
theorem dX0_init_75 : decode cX0_init 75 = .ok (.newarray .int, 2) := by decide +kernel
theorem dX0_init_77 : decode cX0_init 77 = .ok (.putfield 43, 3) := by decide +kernel
theorem dX0_init_80 : decode cX0_init 80 = .ok (.aload_n 0, 1) := by decide +kernel
theorem dX0_init_81 : decode cX0_init 81 = .ok (.bipush 40, 2) := by decide +kernel
theorem dX0_init_83 : decode cX0_init 83 = .ok (.newarray .int, 2) := by decide +kernel
theorem dX0_init_85 : decode cX0_init 85 = .ok (.putfield 46, 3) := by decide +kernel
theorem dX0_init_88 : decode cX0_init 88 = .ok (.return_, 1) := by decide +kernel
theorem dX0_clear_0 : decode cX0_clear 0 = .ok (.aload_n 0, 1) := by decide +kernel
theorem dX0_clear_1 : decode cX0_clear 1 = .ok (.iconst 0, 1) := by decide +kernel
theorem dX0_clear_2 : decode cX0_clear 2 = .ok (.putfield 9, 3) := by decide +kernel
theorem dX0_clear_5 : decode cX0_clear 5 = .ok (.aload_n 0, 1) := by decide +kernel
theorem dX0_clear_6 : decode cX0_clear 6 = .ok (.iconst 0, 1) := by decide +kernel
theorem dX0_clear_7 : decode cX0_clear 7 = .ok (.putfield 15, 3) := by decide +kernel
theorem dX0_clear_10 : decode cX0_clear 10 = .ok (.aload_n 0, 1) := by decide +kernel
theorem dX0_clear_11 : decode cX0_clear 11 = .ok (.iconst 0, 1) := by decide +kernel
theorem dX0_clear_12 : decode cX0_clear 12 = .ok (.putfield 18, 3) := by decide +kernel
theorem dX0_clear_15 : decode cX0_clear 15 = .ok (.aload_n 0, 1) := by decide +kernel
theorem dX0_clear_16 : decode cX0_clear 16 = .ok (.iconst 0, 1) := by decide +kernel
theorem dX0_clear_17 : decode cX0_clear 17 = .ok (.putfield 21, 3) := by decide +kernel
theorem dX0_clear_20 : decode cX0_clear 20 = .ok (.return_, 1) := by decide +kernel
theorem dX0_add_0 : decode cX0_add 0 = .ok (.aload_n 0, 1) := by decide +kernel
theorem dX0_add_1 : decode cX0_add 1 = .ok (.getfield 21, 3) := by decide +kernel
theorem dX0_add_4 : decode cX0_add 4 = .ok (.istore 5, 2) := by decide +kernel
theorem dX0_add_6 : decode cX0_add 6 = .ok (.iload 5, 2) := by decide +kernel
theorem dX0_add_8 : decode cX0_add 8 = .ok (.ifCond .lt 10, 3) := by decide +kernel
theorem dX0_add_11 : decode cX0_add 11 = .ok (.iload 5, 2) := by decide +kernel
theorem dX0_add_13 : decode cX0_add 13 = .ok (.bipush 121, 2) := by decide +kernel
theorem dX0_add_15 : decode cX0_add 15 = .ok (.if_icmp .lt 5, 3) := by decide +kernel
theorem dX0_add_18 : decode cX0_add 18 = .ok (.iconst (-1), 1) := by decide +kernel
theorem dX0_add_19 : decode cX0_add 19 = .ok (.ireturn, 1) := by decide +kernel
theorem dX0_add_20 : decode cX0_add 20 = .ok (.aload_n 0, 1) := by decide +kernel
theorem dX0_add_21 : decode cX0_add 21 = .ok (.getfield 24, 3) := by decide +kernel
theorem dX0_add_24 : decode cX0_add 24 = .ok (.iload 5, 2) := by decide +kernel
theorem dX0_add_26 : decode cX0_add 26 = .ok (.iload_n 1, 1) := by decide +kernel
theorem dX0_add_27 : decode cX0_add 27 = .ok (.iastore, 1) := by decide +kernel
theorem dX0_add_28 : decode cX0_add 28 = .ok (.aload_n 0, 1) := by decide +kernel
theorem dX0_add_29 : decode cX0_add 29 = .ok (.getfield 28, 3) := by decide +kernel
theorem dX0_add_32 : decode cX0_add 32 = .ok (.iload 5, 2) := by decide +kernel
theorem dX0_add_34 : decode cX0_add 34 = .ok (.iload_n 2, 1) := by decide +kernel
theorem dX0_add_35 : decode cX0_add 35 = .ok (.iastore, 1) := by decide +kernel
theorem dX0_add_36 : decode cX0_add 36 = .ok (.aload_n 0, 1) := by decide +kernel
theorem dX0_add_37 : decode cX0_add 37 = .ok (.getfield 31, 3) := by decide +kernel
theorem dX0_add_40 : decode cX0_add 40 = .ok (.iload 5, 2) := by decide +kernel
theorem dX0_add_42 : decode cX0_add 42 = .ok (.iload_n 3, 1) := by decide +kernel
theorem dX0_add_43 : decode cX0_add 43 = .ok (.iastore, 1) := by decide +kernel
theorem dX0_add_44 : decode cX0_add 44 = .ok (.aload_n 0, 1) := by decide +kernel
theorem dX0_add_45 : decode cX0_add 45 = .ok (.getfield 34, 3) := by decide +kernel
theorem dX0_add_48 : decode cX0_add 48 = .ok (.iload 5, 2) := by decide +kernel
theorem dX0_add_50 : decode cX0_add 50 = .ok (.iload 4, 2) := by decide +kernel
theorem dX0_add_52 : decode cX0_add 52 = .ok (.iastore, 1) := by decide +kernel
theorem dX0_add_53 : decode cX0_add 53 = .ok (.aload_n 0, 1) := by decide +kernel
theorem dX0_add_54 : decode cX0_add 54 = .ok (.dup, 1) := by decide +kernel
theorem dX0_add_55 : decode cX0_add 55 = .ok (.getfield 21, 3) := by decide +kernel
theorem dX0_add_58 : decode cX0_add 58 = .ok (.iconst 1, 1) := by decide +kernel
theorem dX0_add_59 : decode cX0_add 59 = .ok (.iadd, 1) := by decide +kernel
theorem dX0_add_60 : decode cX0_add 60 = .ok (.putfield 21, 3) := by decide +kernel
theorem dX0_add_63 : decode cX0_add 63 = .ok (.iload 5, 2) := by decide +kernel
theorem dX0_add_65 : decode cX0_add 65 = .ok (.ireturn, 1) := by decide +kernel
theorem dX0_addDo_0 : decode cX0_addDo 0 = .ok (.aload_n 0, 1) := by decide +kernel
theorem dX0_addDo_1 : decode cX0_addDo 1 = .ok (.getfield 15, 3) := by decide +kernel
theorem dX0_addDo_4 : decode cX0_addDo 4 = .ok (.istore 4, 2) := by decide +kernel
theorem dX0_addDo_6 : decode cX0_addDo 6 = .ok (.iload 4, 2) := by decide +kernel
theorem dX0_addDo_8 : decode cX0_addDo 8 = .ok (.ifCond .lt 10, 3) := by decide +kernel
theorem dX0_addDo_11 : decode cX0_addDo 11 = .ok (.iload 4, 2) := by decide +kernel
theorem dX0_addDo_13 : decode cX0_addDo 13 = .ok (.bipush 40, 2) := by decide +kernel
theorem dX0_addDo_15 : decode cX0_addDo 15 = .ok (.if_icmp .lt 4, 3) := by decide +kernel
theorem dX0_addDo_18 : decode cX0_addDo 18 = .ok (.return_, 1) := by decide +kernel
theorem dX0_addDo_19 : decode cX0_addDo 19 = .ok (.aload_n 0, 1) := by decide +kernel
theorem dX0_addDo_20 : decode cX0_addDo 20 = .ok (.getfield 37, 3) := by decide +kernel
theorem dX0_addDo_23 : decode cX0_addDo 23 = .ok (.iload 4, 2) := by decide +kernel
theorem dX0_addDo_25 : decode cX0_addDo 25 = .ok (.iload_n 1, 1) := by decide +kernel
theorem dX0_addDo_26 : decode cX0_addDo 26 = .ok (.iastore, 1) := by decide +kernel
theorem dX0_addDo_27 : decode cX0_addDo 27 = .ok (.aload_n 0, 1) := by decide +kernel
theorem dX0_addDo_28 : decode cX0_addDo 28 = .ok (.getfield 40, 3) := by decide +kernel
theorem dX0_addDo_31 : decode cX0_addDo 31 = .ok (.iload 4, 2) := by decide +kernel
theorem dX0_addDo_33 : decode cX0_addDo 33 = .ok (.iload_n 2, 1) := by decide +kernel
theorem dX0_addDo_34 : decode cX0_addDo 34 = .ok (.iastore, 1) := by decide +kernel
theorem dX0_addDo_35 : decode cX0_addDo 35 = .ok (.aload_n 0, 1) := by decide +kernel
theorem dX0_addDo_36 : decode cX0_addDo 36 = .ok (.getfield 43, 3) := by decide +kernel
theorem dX0_addDo_39 : decode cX0_addDo 39 = .ok (.iload 4, 2) := by decide +kernel
theorem dX0_addDo_41 : decode cX0_addDo 41 = .ok (.iload_n 3, 1) := by decide +kernel
theorem dX0_addDo_42 : decode cX0_addDo 42 = .ok (.iastore, 1) := by decide +kernel
theorem dX0_addDo_43 : decode cX0_addDo 43 = .ok (.aload_n 0, 1) := by decide +kernel
theorem dX0_addDo_44 : decode cX0_addDo 44 = .ok (.getfield 46, 3) := by decide +kernel
theorem dX0_addDo_47 : decode cX0_addDo 47 = .ok (.iload 4, 2) := by decide +kernel
theorem dX0_addDo_49 : decode cX0_addDo 49 = .ok (.aload_n 0, 1) := by decide +kernel
theorem dX0_addDo_50 : decode cX0_addDo 50 = .ok (.iconst 0, 1) := by decide +kernel
theorem dX0_addDo_51 : decode cX0_addDo 51 = .ok (.iload 4, 2) := by decide +kernel
theorem dX0_addDo_53 : decode cX0_addDo 53 = .ok (.iconst 0, 1) := by decide +kernel
theorem dX0_addDo_54 : decode cX0_addDo 54 = .ok (.iconst 0, 1) := by decide +kernel
theorem dX0_addDo_55 : decode cX0_addDo 55 = .ok (.invokevirtual 49, 3) := by decide +kernel
theorem dX0_addDo_58 : decode cX0_addDo 58 = .ok (.iastore, 1) := by decide +kernel
theorem dX0_addDo_59 : decode cX0_addDo 59 = .ok (.aload_n 0, 1) := by decide +kernel
theorem dX0_addDo_60 : decode cX0_addDo 60 = .ok (.dup, 1) := by decide +kernel
theorem dX0_addDo_61 : decode cX0_addDo 61 = .ok (.getfield 15, 3) := by decide +kernel
theorem dX0_addDo_64 : decode cX0_addDo 64 = .ok (.iconst 1, 1) := by decide +kernel
theorem dX0_addDo_65 : decode cX0_addDo 65 = .ok (.iadd, 1) := by decide +kernel
theorem dX0_addDo_66 : decode cX0_addDo 66 = .ok (.putfield 15, 3) := by decide +kernel
theorem dX0_addDo_69 : decode cX0_addDo 69 = .ok (.return_, 1) := by decide +kernel
theorem dX0_addFork_0 : decode cX0_addFork 0 = .ok (.aload_n 0, 1) := by decide +kernel
theorem dX0_addFork_1 : decode cX0_addFork 1 = .ok (.iconst 4, 1) := by decide +kernel
theorem dX0_addFork_2 : decode cX0_addFork 2 = .ok (.aload_n 0, 1) := by decide +kernel
theorem dX0_addFork_3 : decode cX0_addFork 3 = .ok (.getfield 18, 3) := by decide +kernel
theorem dX0_addFork_6 : decode cX0_addFork 6 = .ok (.iconst 0, 1) := by decide +kernel
theorem dX0_addFork_7 : decode cX0_addFork 7 = .ok (.iconst 0, 1) := by decide +kernel
theorem dX0_addFork_8 : decode cX0_addFork 8 = .ok (.invokevirtual 49, 3) := by decide +kernel
theorem dX0_addFork_11 : decode cX0_addFork 11 = .ok (.istore_n 1, 1) := by decide +kernel
theorem dX0_addFork_12 : decode cX0_addFork 12 = .ok (.aload_n 0, 1) := by decide +kernel
theorem dX0_addFork_13 : decode cX0_addFork 13 = .ok (.dup, 1) := by decide +kernel
theorem dX0_addFork_14 : decode cX0_addFork 14 = .ok (.getfield 18, 3) := by decide +kernel
theorem dX0_addFork_17 : decode cX0_addFork 17 = .ok (.iconst 1, 1) := by decide +kernel
theorem dX0_addFork_18 : decode cX0_addFork 18 = .ok (.iadd, 1) := by decide +kernel
theorem dX0_addFork_19 : decode cX0_addFork 19 = .ok (.putfield 18, 3) := by decide +kernel
theorem dX0_addFork_22 : decode cX0_addFork 22 = .ok (.iload_n 1, 1) := by decide +kernel
theorem dX0_addFork_23 : decode cX0_addFork 23 = .ok (.ireturn, 1) := by decide +kernel
theorem dX0_aim_0 : decode cX0_aim 0 = .ok (.aload_n 0, 1) := by decide +kernel
theorem dX0_aim_1 : decode cX0_aim 1 = .ok (.iload_n 1, 1) := by decide +kernel
theorem dX0_aim_2 : decode cX0_aim 2 = .ok (.invokevirtual 53, 3) := by decide +kernel
theorem dX0_aim_5 : decode cX0_aim 5 = .ok (.ifCond .eq 10, 3) := by decide +kernel
theorem dX0_aim_8 : decode cX0_aim 8 = .ok (.aload_n 0, 1) := by decide +kernel
theorem dX0_aim_9 : decode cX0_aim 9 = .ok (.getfield 34, 3) := by decide +kernel
theorem dX0_aim_12 : decode cX0_aim 12 = .ok (.iload_n 1, 1) := by decide +kernel
theorem dX0_aim_13 : decode cX0_aim 13 = .ok (.iload_n 2, 1) := by decide +kernel
theorem dX0_aim_14 : decode cX0_aim 14 = .ok (.iastore, 1) := by decide +kernel
theorem dX0_aim_15 : decode cX0_aim 15 = .ok (.return_, 1) := by decide +kernel
theorem dX0_subjectAt_0 : decode cX0_subjectAt 0 = .ok (.aload_n 0, 1) := by decide +kernel
theorem dX0_subjectAt_1 : decode cX0_subjectAt 1 = .ok (.iload_n 1, 1) := by decide +kernel
theorem dX0_subjectAt_2 : decode cX0_subjectAt 2 = .ok (.invokevirtual 53, 3) := by decide +kernel
theorem dX0_subjectAt_5 : decode cX0_subjectAt 5 = .ok (.ifCond .eq 12, 3) := by decide +kernel
theorem dX0_subjectAt_8 : decode cX0_subjectAt 8 = .ok (.aload_n 0, 1) := by decide +kernel
theorem dX0_subjectAt_9 : decode cX0_subjectAt 9 = .ok (.getfield 28, 3) := by decide +kernel
theorem dX0_subjectAt_12 : decode cX0_subjectAt 12 = .ok (.iload_n 1, 1) := by decide +kernel
theorem dX0_subjectAt_13 : decode cX0_subjectAt 13 = .ok (.iaload, 1) := by decide +kernel
theorem dX0_subjectAt_14 : decode cX0_subjectAt 14 = .ok (.goto 4, 3) := by decide +kernel
theorem dX0_subjectAt_17 : decode cX0_subjectAt 17 = .ok (.iconst 0, 1) := by decide +kernel
theorem dX0_subjectAt_18 : decode cX0_subjectAt 18 = .ok (.ireturn, 1) := by decide +kernel
theorem dX0_hasOrder_0 : decode cX0_hasOrder 0 = .ok (.iload_n 1, 1) := by decide +kernel
theorem dX0_hasOrder_1 : decode cX0_hasOrder 1 = .ok (.ifCond .lt 21, 3) := by decide +kernel
theorem dX0_hasOrder_4 : decode cX0_hasOrder 4 = .ok (.iload_n 1, 1) := by decide +kernel
theorem dX0_hasOrder_5 : decode cX0_hasOrder 5 = .ok (.aload_n 0, 1) := by decide +kernel
theorem dX0_hasOrder_6 : decode cX0_hasOrder 6 = .ok (.getfield 21, 3) := by decide +kernel
theorem dX0_hasOrder_9 : decode cX0_hasOrder 9 = .ok (.if_icmp .ge 13, 3) := by decide +kernel
theorem dX0_hasOrder_12 : decode cX0_hasOrder 12 = .ok (.iload_n 1, 1) := by decide +kernel
theorem dX0_hasOrder_13 : decode cX0_hasOrder 13 = .ok (.bipush 121, 2) := by decide +kernel
theorem dX0_hasOrder_15 : decode cX0_hasOrder 15 = .ok (.if_icmp .ge 7, 3) := by decide +kernel
theorem dX0_hasOrder_18 : decode cX0_hasOrder 18 = .ok (.iconst 1, 1) := by decide +kernel
theorem dX0_hasOrder_19 : decode cX0_hasOrder 19 = .ok (.goto 4, 3) := by decide +kernel
theorem dX0_hasOrder_22 : decode cX0_hasOrder 22 = .ok (.iconst 0, 1) := by decide +kernel
theorem dX0_hasOrder_23 : decode cX0_hasOrder 23 = .ok (.ireturn, 1) := by decide +kernel
theorem dX0_roleOf_0 : decode cX0_roleOf 0 = .ok (.aload_n 0, 1) := by decide +kernel
theorem dX0_roleOf_1 : decode cX0_roleOf 1 = .ok (.iload_n 1, 1) := by decide +kernel
theorem dX0_roleOf_2 : decode cX0_roleOf 2 = .ok (.invokevirtual 57, 3) := by decide +kernel
theorem dX0_roleOf_5 : decode cX0_roleOf 5 = .ok (.ifCond .eq 12, 3) := by decide +kernel
theorem dX0_roleOf_8 : decode cX0_roleOf 8 = .ok (.aload_n 0, 1) := by decide +kernel
theorem dX0_roleOf_9 : decode cX0_roleOf 9 = .ok (.getfield 37, 3) := by decide +kernel
theorem dX0_roleOf_12 : decode cX0_roleOf 12 = .ok (.iload_n 1, 1) := by decide +kernel
theorem dX0_roleOf_13 : decode cX0_roleOf 13 = .ok (.iaload, 1) := by decide +kernel
theorem dX0_roleOf_14 : decode cX0_roleOf 14 = .ok (.goto 4, 3) := by decide +kernel
theorem dX0_roleOf_17 : decode cX0_roleOf 17 = .ok (.iconst 0, 1) := by decide +kernel
theorem dX0_roleOf_18 : decode cX0_roleOf 18 = .ok (.ireturn, 1) := by decide +kernel
theorem dX0_hoursOf_0 : decode cX0_hoursOf 0 = .ok (.aload_n 0, 1) := by decide +kernel
theorem dX0_hoursOf_1 : decode cX0_hoursOf 1 = .ok (.iload_n 1, 1) := by decide +kernel
theorem dX0_hoursOf_2 : decode cX0_hoursOf 2 = .ok (.invokevirtual 57, 3) := by decide +kernel
theorem dX0_hoursOf_5 : decode cX0_hoursOf 5 = .ok (.ifCond .eq 12, 3) := by decide +kernel
theorem dX0_hoursOf_8 : decode cX0_hoursOf 8 = .ok (.aload_n 0, 1) := by decide +kernel
theorem dX0_hoursOf_9 : decode cX0_hoursOf 9 = .ok (.getfield 40, 3) := by decide +kernel
theorem dX0_hoursOf_12 : decode cX0_hoursOf 12 = .ok (.iload_n 1, 1) := by decide +kernel
theorem dX0_hoursOf_13 : decode cX0_hoursOf 13 = .ok (.iaload, 1) := by decide +kernel
theorem dX0_hoursOf_14 : decode cX0_hoursOf 14 = .ok (.goto 4, 3) := by decide +kernel
theorem dX0_hoursOf_17 : decode cX0_hoursOf 17 = .ok (.iconst 1, 1) := by decide +kernel
theorem dX0_hoursOf_18 : decode cX0_hoursOf 18 = .ok (.ireturn, 1) := by decide +kernel
theorem dX0_eyesOf_0 : decode cX0_eyesOf 0 = .ok (.aload_n 0, 1) := by decide +kernel
theorem dX0_eyesOf_1 : decode cX0_eyesOf 1 = .ok (.iload_n 1, 1) := by decide +kernel
theorem dX0_eyesOf_2 : decode cX0_eyesOf 2 = .ok (.invokevirtual 57, 3) := by decide +kernel
theorem dX0_eyesOf_5 : decode cX0_eyesOf 5 = .ok (.ifCond .eq 12, 3) := by decide +kernel
theorem dX0_eyesOf_8 : decode cX0_eyesOf 8 = .ok (.aload_n 0, 1) := by decide +kernel
theorem dX0_eyesOf_9 : decode cX0_eyesOf 9 = .ok (.getfield 43, 3) := by decide +kernel
theorem dX0_eyesOf_12 : decode cX0_eyesOf 12 = .ok (.iload_n 1, 1) := by decide +kernel
theorem dX0_eyesOf_13 : decode cX0_eyesOf 13 = .ok (.iaload, 1) := by decide +kernel
theorem dX0_eyesOf_14 : decode cX0_eyesOf 14 = .ok (.goto 4, 3) := by decide +kernel
theorem dX0_eyesOf_17 : decode cX0_eyesOf 17 = .ok (.iconst (-1), 1) := by decide +kernel
theorem dX0_eyesOf_18 : decode cX0_eyesOf 18 = .ok (.ireturn, 1) := by decide +kernel
theorem dX0_placeBehind_0 : decode cX0_placeBehind 0 = .ok (.aload_n 0, 1) := by decide +kernel
theorem dX0_placeBehind_1 : decode cX0_placeBehind 1 = .ok (.iload_n 1, 1) := by decide +kernel
theorem dX0_placeBehind_2 : decode cX0_placeBehind 2 = .ok (.invokevirtual 57, 3) := by decide +kernel
theorem dX0_placeBehind_5 : decode cX0_placeBehind 5 = .ok (.ifCond .eq 14, 3) := by decide +kernel
theorem dX0_placeBehind_8 : decode cX0_placeBehind 8 = .ok (.aload_n 0, 1) := by decide +kernel
theorem dX0_placeBehind_9 : decode cX0_placeBehind 9 = .ok (.getfield 46, 3) := by decide +kernel
theorem dX0_placeBehind_12 : decode cX0_placeBehind 12 = .ok (.iload_n 1, 1) := by decide +kernel
theorem dX0_placeBehind_13 : decode cX0_placeBehind 13 = .ok (.iaload, 1) := by decide +kernel
theorem dX0_placeBehind_14 : decode cX0_placeBehind 14 = .ok (.iconst 1, 1) := by decide +kernel
theorem dX0_placeBehind_15 : decode cX0_placeBehind 15 = .ok (.iadd, 1) := by decide +kernel
theorem dX0_placeBehind_16 : decode cX0_placeBehind 16 = .ok (.goto 4, 3) := by decide +kernel
theorem dX0_placeBehind_19 : decode cX0_placeBehind 19 = .ok (.iconst (-1), 1) := by decide +kernel
theorem dX0_placeBehind_20 : decode cX0_placeBehind 20 = .ok (.ireturn, 1) := by decide +kernel
theorem dX0_hasDo_0 : decode cX0_hasDo 0 = .ok (.iload_n 1, 1) := by decide +kernel
theorem dX0_hasDo_1 : decode cX0_hasDo 1 = .ok (.ifCond .lt 21, 3) := by decide +kernel
theorem dX0_hasDo_4 : decode cX0_hasDo 4 = .ok (.iload_n 1, 1) := by decide +kernel
theorem dX0_hasDo_5 : decode cX0_hasDo 5 = .ok (.aload_n 0, 1) := by decide +kernel
theorem dX0_hasDo_6 : decode cX0_hasDo 6 = .ok (.getfield 15, 3) := by decide +kernel
theorem dX0_hasDo_9 : decode cX0_hasDo 9 = .ok (.if_icmp .ge 13, 3) := by decide +kernel
theorem dX0_hasDo_12 : decode cX0_hasDo 12 = .ok (.iload_n 1, 1) := by decide +kernel
theorem dX0_hasDo_13 : decode cX0_hasDo 13 = .ok (.bipush 40, 2) := by decide +kernel
theorem dX0_hasDo_15 : decode cX0_hasDo 15 = .ok (.if_icmp .ge 7, 3) := by decide +kernel
theorem dX0_hasDo_18 : decode cX0_hasDo 18 = .ok (.iconst 1, 1) := by decide +kernel
theorem dX0_hasDo_19 : decode cX0_hasDo 19 = .ok (.goto 4, 3) := by decide +kernel
theorem dX0_hasDo_22 : decode cX0_hasDo 22 = .ok (.iconst 0, 1) := by decide +kernel
theorem dX0_hasDo_23 : decode cX0_hasDo 23 = .ok (.ireturn, 1) := by decide +kernel
theorem dX1_endOfWorkingHour_0 : decode cX1_endOfWorkingHour 0 = .ok (.iload_n 0, 1) := by decide +kernel
theorem dX1_endOfWorkingHour_1 : decode cX1_endOfWorkingHour 1 = .ok (.invokestatic 9, 3) := by decide +kernel
theorem dX1_endOfWorkingHour_4 : decode cX1_endOfWorkingHour 4 = .ok (.iload_n 1, 1) := by decide +kernel
theorem dX1_endOfWorkingHour_5 : decode cX1_endOfWorkingHour 5 = .ok (.iadd, 1) := by decide +kernel
theorem dX1_endOfWorkingHour_6 : decode cX1_endOfWorkingHour 6 = .ok (.iconst 1, 1) := by decide +kernel
theorem dX1_endOfWorkingHour_7 : decode cX1_endOfWorkingHour 7 = .ok (.isub, 1) := by decide +kernel
theorem dX1_endOfWorkingHour_8 : decode cX1_endOfWorkingHour 8 = .ok (.istore_n 2, 1) := by decide +kernel
theorem dX1_endOfWorkingHour_9 : decode cX1_endOfWorkingHour 9 = .ok (.iload_n 2, 1) := by decide +kernel
theorem dX1_endOfWorkingHour_10 : decode cX1_endOfWorkingHour 10 = .ok (.bipush 40, 2) := by decide +kernel
theorem dX1_endOfWorkingHour_12 : decode cX1_endOfWorkingHour 12 = .ok (.irem, 1) := by decide +kernel
theorem dX1_endOfWorkingHour_13 : decode cX1_endOfWorkingHour 13 = .ok (.istore_n 3, 1) := by decide +kernel
theorem dX1_endOfWorkingHour_14 : decode cX1_endOfWorkingHour 14 = .ok (.iload_n 2, 1) := by decide +kernel
theorem dX1_endOfWorkingHour_15 : decode cX1_endOfWorkingHour 15 = .ok (.bipush 40, 2) := by decide +kernel
theorem dX1_endOfWorkingHour_17 : decode cX1_endOfWorkingHour 17 = .ok (.idiv, 1) := by decide +kernel
theorem dX1_endOfWorkingHour_18 : decode cX1_endOfWorkingHour 18 = .ok (.sipush 168, 3) := by decide +kernel
theorem dX1_endOfWorkingHour_21 : decode cX1_endOfWorkingHour 21 = .ok (.imul, 1) := by decide +kernel
theorem dX1_endOfWorkingHour_22 : decode cX1_endOfWorkingHour 22 = .ok (.iload_n 3, 1) := by decide +kernel
theorem dX1_endOfWorkingHour_23 : decode cX1_endOfWorkingHour 23 = .ok (.bipush 8, 2) := by decide +kernel
theorem dX1_endOfWorkingHour_25 : decode cX1_endOfWorkingHour 25 = .ok (.idiv, 1) := by decide +kernel
theorem dX1_endOfWorkingHour_26 : decode cX1_endOfWorkingHour 26 = .ok (.bipush 24, 2) := by decide +kernel
theorem dX1_endOfWorkingHour_28 : decode cX1_endOfWorkingHour 28 = .ok (.imul, 1) := by decide +kernel
theorem dX1_endOfWorkingHour_29 : decode cX1_endOfWorkingHour 29 = .ok (.iadd, 1) := by decide +kernel
theorem dX1_endOfWorkingHour_30 : decode cX1_endOfWorkingHour 30 = .ok (.bipush 9, 2) := by decide +kernel
theorem dX1_endOfWorkingHour_32 : decode cX1_endOfWorkingHour 32 = .ok (.iadd, 1) := by decide +kernel
theorem dX1_endOfWorkingHour_33 : decode cX1_endOfWorkingHour 33 = .ok (.iload_n 3, 1) := by decide +kernel
theorem dX1_endOfWorkingHour_34 : decode cX1_endOfWorkingHour 34 = .ok (.bipush 8, 2) := by decide +kernel
theorem dX1_endOfWorkingHour_36 : decode cX1_endOfWorkingHour 36 = .ok (.irem, 1) := by decide +kernel
theorem dX1_endOfWorkingHour_37 : decode cX1_endOfWorkingHour 37 = .ok (.iadd, 1) := by decide +kernel
theorem dX1_endOfWorkingHour_38 : decode cX1_endOfWorkingHour 38 = .ok (.istore 4, 2) := by decide +kernel
theorem dX1_endOfWorkingHour_40 : decode cX1_endOfWorkingHour 40 = .ok (.iload 4, 2) := by decide +kernel
theorem dX1_endOfWorkingHour_42 : decode cX1_endOfWorkingHour 42 = .ok (.iconst 1, 1) := by decide +kernel
theorem dX1_endOfWorkingHour_43 : decode cX1_endOfWorkingHour 43 = .ok (.iadd, 1) := by decide +kernel
theorem dX1_endOfWorkingHour_44 : decode cX1_endOfWorkingHour 44 = .ok (.ireturn, 1) := by decide +kernel
theorem dX1_workingHoursBefore_0 : decode cX1_workingHoursBefore 0 = .ok (.iload_n 0, 1) := by decide +kernel
theorem dX1_workingHoursBefore_1 : decode cX1_workingHoursBefore 1 = .ok (.sipush 168, 3) := by decide +kernel
theorem dX1_workingHoursBefore_4 : decode cX1_workingHoursBefore 4 = .ok (.irem, 1) := by decide +kernel
theorem dX1_workingHoursBefore_5 : decode cX1_workingHoursBefore 5 = .ok (.istore_n 1, 1) := by decide +kernel
theorem dX1_workingHoursBefore_6 : decode cX1_workingHoursBefore 6 = .ok (.iload_n 1, 1) := by decide +kernel
theorem dX1_workingHoursBefore_7 : decode cX1_workingHoursBefore 7 = .ok (.bipush 24, 2) := by decide +kernel
theorem dX1_workingHoursBefore_9 : decode cX1_workingHoursBefore 9 = .ok (.idiv, 1) := by decide +kernel
theorem dX1_workingHoursBefore_10 : decode cX1_workingHoursBefore 10 = .ok (.istore_n 2, 1) := by decide +kernel
theorem dX1_workingHoursBefore_11 : decode cX1_workingHoursBefore 11 = .ok (.iload_n 1, 1) := by decide +kernel
theorem dX1_workingHoursBefore_12 : decode cX1_workingHoursBefore 12 = .ok (.bipush 24, 2) := by decide +kernel
theorem dX1_workingHoursBefore_14 : decode cX1_workingHoursBefore 14 = .ok (.irem, 1) := by decide +kernel
theorem dX1_workingHoursBefore_15 : decode cX1_workingHoursBefore 15 = .ok (.bipush 9, 2) := by decide +kernel
theorem dX1_workingHoursBefore_17 : decode cX1_workingHoursBefore 17 = .ok (.isub, 1) := by decide +kernel
theorem dX1_workingHoursBefore_18 : decode cX1_workingHoursBefore 18 = .ok (.iconst 0, 1) := by decide +kernel
theorem dX1_workingHoursBefore_19 : decode cX1_workingHoursBefore 19 = .ok (.invokestatic 13, 3) := by decide +kernel
theorem dX1_workingHoursBefore_22 : decode cX1_workingHoursBefore 22 = .ok (.bipush 8, 2) := by decide +kernel
theorem dX1_workingHoursBefore_24 : decode cX1_workingHoursBefore 24 = .ok (.invokestatic 19, 3) := by decide +kernel
theorem dX1_workingHoursBefore_27 : decode cX1_workingHoursBefore 27 = .ok (.istore_n 3, 1) := by decide +kernel
theorem dX1_workingHoursBefore_28 : decode cX1_workingHoursBefore 28 = .ok (.iload_n 2, 1) := by decide +kernel
theorem dX1_workingHoursBefore_29 : decode cX1_workingHoursBefore 29 = .ok (.iconst 5, 1) := by decide +kernel
theorem dX1_workingHoursBefore_30 : decode cX1_workingHoursBefore 30 = .ok (.if_icmp .ge 12, 3) := by decide +kernel
theorem dX1_workingHoursBefore_33 : decode cX1_workingHoursBefore 33 = .ok (.iload_n 2, 1) := by decide +kernel
theorem dX1_workingHoursBefore_34 : decode cX1_workingHoursBefore 34 = .ok (.bipush 8, 2) := by decide +kernel
theorem dX1_workingHoursBefore_36 : decode cX1_workingHoursBefore 36 = .ok (.imul, 1) := by decide +kernel
theorem dX1_workingHoursBefore_37 : decode cX1_workingHoursBefore 37 = .ok (.iload_n 3, 1) := by decide +kernel
theorem dX1_workingHoursBefore_38 : decode cX1_workingHoursBefore 38 = .ok (.iadd, 1) := by decide +kernel
theorem dX1_workingHoursBefore_39 : decode cX1_workingHoursBefore 39 = .ok (.goto 5, 3) := by decide +kernel
theorem dX1_workingHoursBefore_42 : decode cX1_workingHoursBefore 42 = .ok (.bipush 40, 2) := by decide +kernel
theorem dX1_workingHoursBefore_44 : decode cX1_workingHoursBefore 44 = .ok (.istore 4, 2) := by decide +kernel
theorem dX1_workingHoursBefore_46 : decode cX1_workingHoursBefore 46 = .ok (.iload_n 0, 1) := by decide +kernel
theorem dX1_workingHoursBefore_47 : decode cX1_workingHoursBefore 47 = .ok (.sipush 168, 3) := by decide +kernel
theorem dX1_workingHoursBefore_50 : decode cX1_workingHoursBefore 50 = .ok (.idiv, 1) := by decide +kernel
theorem dX1_workingHoursBefore_51 : decode cX1_workingHoursBefore 51 = .ok (.bipush 40, 2) := by decide +kernel
theorem dX1_workingHoursBefore_53 : decode cX1_workingHoursBefore 53 = .ok (.imul, 1) := by decide +kernel
theorem dX1_workingHoursBefore_54 : decode cX1_workingHoursBefore 54 = .ok (.iload 4, 2) := by decide +kernel
theorem dX1_workingHoursBefore_56 : decode cX1_workingHoursBefore 56 = .ok (.iadd, 1) := by decide +kernel
theorem dX1_workingHoursBefore_57 : decode cX1_workingHoursBefore 57 = .ok (.ireturn, 1) := by decide +kernel
theorem dX2_init_0 : decode cX2_init 0 = .ok (.aload_n 0, 1) := by decide +kernel
theorem dX2_init_1 : decode cX2_init 1 = .ok (.invokespecial 3, 3) := by decide +kernel
theorem dX2_init_4 : decode cX2_init 4 = .ok (.aload_n 0, 1) := by decide +kernel
theorem dX2_init_5 : decode cX2_init 5 = .ok (.iconst 0, 1) := by decide +kernel
theorem dX2_init_6 : decode cX2_init 6 = .ok (.putfield 9, 3) := by decide +kernel
theorem dX2_init_9 : decode cX2_init 9 = .ok (.aload_n 0, 1) := by decide +kernel
theorem dX2_init_10 : decode cX2_init 10 = .ok (.bipush 8, 2) := by decide +kernel
theorem dX2_init_12 : decode cX2_init 12 = .ok (.newarray .int, 2) := by decide +kernel
theorem dX2_init_14 : decode cX2_init 14 = .ok (.putfield 15, 3) := by decide +kernel
theorem dX2_init_17 : decode cX2_init 17 = .ok (.aload_n 0, 1) := by decide +kernel
theorem dX2_init_18 : decode cX2_init 18 = .ok (.bipush 8, 2) := by decide +kernel
theorem dX2_init_20 : decode cX2_init 20 = .ok (.newarray .int, 2) := by decide +kernel
theorem dX2_init_22 : decode cX2_init 22 = .ok (.putfield 19, 3) := by decide +kernel
theorem dX2_init_25 : decode cX2_init 25 = .ok (.aload_n 0, 1) := by decide +kernel
theorem dX2_init_26 : decode cX2_init 26 = .ok (.bipush 8, 2) := by decide +kernel
theorem dX2_init_28 : decode cX2_init 28 = .ok (.newarray .int, 2) := by decide +kernel
theorem dX2_init_30 : decode cX2_init 30 = .ok (.putfield 22, 3) := by decide +kernel
theorem dX2_init_33 : decode cX2_init 33 = .ok (.aload_n 0, 1) := by decide +kernel
theorem dX2_init_34 : decode cX2_init 34 = .ok (.bipush 8, 2) := by decide +kernel
theorem dX2_init_36 : decode cX2_init 36 = .ok (.newarray .int, 2) := by decide +kernel
theorem dX2_init_38 : decode cX2_init 38 = .ok (.putfield 25, 3) := by decide +kernel
theorem dX2_init_41 : decode cX2_init 41 = .ok (.aload_n 0, 1) := by decide +kernel
theorem dX2_init_42 : decode cX2_init 42 = .ok (.bipush 8, 2) := by decide +kernel
theorem dX2_init_44 : decode cX2_init 44 = .ok (.newarray .int, 2) := by decide +kernel
theorem dX2_init_46 : decode cX2_init 46 = .ok (.putfield 28, 3) := by decide +kernel
theorem dX2_init_49 : decode cX2_init 49 = .ok (.aload_n 0, 1) := by decide +kernel
theorem dX2_init_50 : decode cX2_init 50 = .ok (.bipush 8, 2) := by decide +kernel
theorem dX2_init_52 : decode cX2_init 52 = .ok (.newarray .boolean, 2) := by decide +kernel
theorem dX2_init_54 : decode cX2_init 54 = .ok (.putfield 31, 3) := by decide +kernel
theorem dX2_init_57 : decode cX2_init 57 = .ok (.return_, 1) := by decide +kernel
theorem dX2_has_0 : decode cX2_has 0 = .ok (.iload_n 1, 1) := by decide +kernel
theorem dX2_has_1 : decode cX2_has 1 = .ok (.ifCond .lt 21, 3) := by decide +kernel
theorem dX2_has_4 : decode cX2_has 4 = .ok (.iload_n 1, 1) := by decide +kernel
theorem dX2_has_5 : decode cX2_has 5 = .ok (.aload_n 0, 1) := by decide +kernel
theorem dX2_has_6 : decode cX2_has 6 = .ok (.getfield 9, 3) := by decide +kernel
theorem dX2_has_9 : decode cX2_has 9 = .ok (.if_icmp .ge 13, 3) := by decide +kernel
theorem dX2_has_12 : decode cX2_has 12 = .ok (.iload_n 1, 1) := by decide +kernel
theorem dX2_has_13 : decode cX2_has 13 = .ok (.bipush 8, 2) := by decide +kernel
theorem dX2_has_15 : decode cX2_has 15 = .ok (.if_icmp .ge 7, 3) := by decide +kernel
theorem dX2_has_18 : decode cX2_has 18 = .ok (.iconst 1, 1) := by decide +kernel
theorem dX2_has_19 : decode cX2_has 19 = .ok (.goto 4, 3) := by decide +kernel
theorem dX2_has_22 : decode cX2_has 22 = .ok (.iconst 0, 1) := by decide +kernel
theorem dX2_has_23 : decode cX2_has 23 = .ok (.ireturn, 1) := by decide +kernel
theorem dX2_add_0 : decode cX2_add 0 = .ok (.aload_n 0, 1) := by decide +kernel
theorem dX2_add_1 : decode cX2_add 1 = .ok (.getfield 9, 3) := by decide +kernel
theorem dX2_add_4 : decode cX2_add 4 = .ok (.istore_n 3, 1) := by decide +kernel
theorem dX2_add_5 : decode cX2_add 5 = .ok (.iload_n 3, 1) := by decide +kernel
theorem dX2_add_6 : decode cX2_add 6 = .ok (.ifCond .lt 9, 3) := by decide +kernel
theorem dX2_add_9 : decode cX2_add 9 = .ok (.iload_n 3, 1) := by decide +kernel
theorem dX2_add_10 : decode cX2_add 10 = .ok (.bipush 8, 2) := by decide +kernel
theorem dX2_add_12 : decode cX2_add 12 = .ok (.if_icmp .lt 5, 3) := by decide +kernel
theorem dX2_add_15 : decode cX2_add 15 = .ok (.iconst (-1), 1) := by decide +kernel
theorem dX2_add_16 : decode cX2_add 16 = .ok (.ireturn, 1) := by decide +kernel
theorem dX2_add_17 : decode cX2_add 17 = .ok (.aload_n 0, 1) := by decide +kernel
theorem dX2_add_18 : decode cX2_add 18 = .ok (.getfield 15, 3) := by decide +kernel
theorem dX2_add_21 : decode cX2_add 21 = .ok (.iload_n 3, 1) := by decide +kernel
theorem dX2_add_22 : decode cX2_add 22 = .ok (.iload_n 1, 1) := by decide +kernel
theorem dX2_add_23 : decode cX2_add 23 = .ok (.iastore, 1) := by decide +kernel
theorem dX2_add_24 : decode cX2_add 24 = .ok (.aload_n 0, 1) := by decide +kernel
theorem dX2_add_25 : decode cX2_add 25 = .ok (.getfield 19, 3) := by decide +kernel
theorem dX2_add_28 : decode cX2_add 28 = .ok (.iload_n 3, 1) := by decide +kernel
theorem dX2_add_29 : decode cX2_add 29 = .ok (.iload_n 2, 1) := by decide +kernel
theorem dX2_add_30 : decode cX2_add 30 = .ok (.iastore, 1) := by decide +kernel
theorem dX2_add_31 : decode cX2_add 31 = .ok (.aload_n 0, 1) := by decide +kernel
theorem dX2_add_32 : decode cX2_add 32 = .ok (.getfield 22, 3) := by decide +kernel
theorem dX2_add_35 : decode cX2_add 35 = .ok (.iload_n 3, 1) := by decide +kernel
theorem dX2_add_36 : decode cX2_add 36 = .ok (.iconst 0, 1) := by decide +kernel
theorem dX2_add_37 : decode cX2_add 37 = .ok (.iastore, 1) := by decide +kernel
theorem dX2_add_38 : decode cX2_add 38 = .ok (.aload_n 0, 1) := by decide +kernel
theorem dX2_add_39 : decode cX2_add 39 = .ok (.getfield 25, 3) := by decide +kernel
theorem dX2_add_42 : decode cX2_add 42 = .ok (.iload_n 3, 1) := by decide +kernel
theorem dX2_add_43 : decode cX2_add 43 = .ok (.iconst 0, 1) := by decide +kernel
theorem dX2_add_44 : decode cX2_add 44 = .ok (.iastore, 1) := by decide +kernel
theorem dX2_add_45 : decode cX2_add 45 = .ok (.aload_n 0, 1) := by decide +kernel
theorem dX2_add_46 : decode cX2_add 46 = .ok (.getfield 28, 3) := by decide +kernel
theorem dX2_add_49 : decode cX2_add 49 = .ok (.iload_n 3, 1) := by decide +kernel
theorem dX2_add_50 : decode cX2_add 50 = .ok (.iconst (-1), 1) := by decide +kernel
theorem dX2_add_51 : decode cX2_add 51 = .ok (.iastore, 1) := by decide +kernel
theorem dX2_add_52 : decode cX2_add 52 = .ok (.aload_n 0, 1) := by decide +kernel
theorem dX2_add_53 : decode cX2_add 53 = .ok (.getfield 31, 3) := by decide +kernel
theorem dX2_add_56 : decode cX2_add 56 = .ok (.iload_n 3, 1) := by decide +kernel
theorem dX2_add_57 : decode cX2_add 57 = .ok (.iconst 0, 1) := by decide +kernel
theorem dX2_add_58 : decode cX2_add 58 = .ok (.bastore, 1) := by decide +kernel
theorem dX2_add_59 : decode cX2_add 59 = .ok (.aload_n 0, 1) := by decide +kernel
theorem dX2_add_60 : decode cX2_add 60 = .ok (.dup, 1) := by decide +kernel
theorem dX2_add_61 : decode cX2_add 61 = .ok (.getfield 9, 3) := by decide +kernel
theorem dX2_add_64 : decode cX2_add 64 = .ok (.iconst 1, 1) := by decide +kernel
theorem dX2_add_65 : decode cX2_add 65 = .ok (.iadd, 1) := by decide +kernel
theorem dX2_add_66 : decode cX2_add 66 = .ok (.putfield 9, 3) := by decide +kernel
theorem dX2_add_69 : decode cX2_add 69 = .ok (.iload_n 3, 1) := by decide +kernel
theorem dX2_add_70 : decode cX2_add 70 = .ok (.ireturn, 1) := by decide +kernel
theorem dX2_standInFor_0 : decode cX2_standInFor 0 = .ok (.iload_n 1, 1) := by decide +kernel
theorem dX2_standInFor_1 : decode cX2_standInFor 1 = .ok (.istore_n 2, 1) := by decide +kernel
theorem dX2_standInFor_2 : decode cX2_standInFor 2 = .ok (.iconst 0, 1) := by decide +kernel
theorem dX2_standInFor_3 : decode cX2_standInFor 3 = .ok (.istore_n 3, 1) := by decide +kernel
theorem dX2_standInFor_4 : decode cX2_standInFor 4 = .ok (.iload_n 3, 1) := by decide +kernel
theorem dX2_standInFor_5 : decode cX2_standInFor 5 = .ok (.bipush 8, 2) := by decide +kernel
theorem dX2_standInFor_7 : decode cX2_standInFor 7 = .ok (.if_icmp .ge 35, 3) := by decide +kernel
theorem dX2_standInFor_10 : decode cX2_standInFor 10 = .ok (.aload_n 0, 1) := by decide +kernel
theorem dX2_standInFor_11 : decode cX2_standInFor 11 = .ok (.iload_n 2, 1) := by decide +kernel
theorem dX2_standInFor_12 : decode cX2_standInFor 12 = .ok (.invokevirtual 35, 3) := by decide +kernel
theorem dX2_standInFor_15 : decode cX2_standInFor 15 = .ok (.ifCond .eq 27, 3) := by decide +kernel
theorem dX2_standInFor_18 : decode cX2_standInFor 18 = .ok (.aload_n 0, 1) := by decide +kernel
theorem dX2_standInFor_19 : decode cX2_standInFor 19 = .ok (.getfield 31, 3) := by decide +kernel
theorem dX2_standInFor_22 : decode cX2_standInFor 22 = .ok (.iload_n 2, 1) := by decide +kernel
theorem dX2_standInFor_23 : decode cX2_standInFor 23 = .ok (.baload, 1) := by decide +kernel
theorem dX2_standInFor_24 : decode cX2_standInFor 24 = .ok (.ifCond .ne 5, 3) := by decide +kernel
theorem dX2_standInFor_27 : decode cX2_standInFor 27 = .ok (.iload_n 2, 1) := by decide +kernel
theorem dX2_standInFor_28 : decode cX2_standInFor 28 = .ok (.ireturn, 1) := by decide +kernel
theorem dX2_standInFor_29 : decode cX2_standInFor 29 = .ok (.aload_n 0, 1) := by decide +kernel
theorem dX2_standInFor_30 : decode cX2_standInFor 30 = .ok (.getfield 28, 3) := by decide +kernel
theorem dX2_standInFor_33 : decode cX2_standInFor 33 = .ok (.iload_n 2, 1) := by decide +kernel
theorem dX2_standInFor_34 : decode cX2_standInFor 34 = .ok (.iaload, 1) := by decide +kernel
theorem dX2_standInFor_35 : decode cX2_standInFor 35 = .ok (.istore_n 2, 1) := by decide +kernel
theorem dX2_standInFor_36 : decode cX2_standInFor 36 = .ok (.iinc 3 1, 3) := by decide +kernel
theorem dX2_standInFor_39 : decode cX2_standInFor 39 = .ok (.goto (-35), 3) := by decide +kernel
theorem dX2_standInFor_42 : decode cX2_standInFor 42 = .ok (.iconst (-1), 1) := by decide +kernel
theorem dX2_standInFor_43 : decode cX2_standInFor 43 = .ok (.ireturn, 1) := by decide +kernel
theorem dX2_rolesServed_0 : decode cX2_rolesServed 0 = .ok (.aload_n 0, 1) := by decide +kernel
theorem dX2_rolesServed_1 : decode cX2_rolesServed 1 = .ok (.iload_n 1, 1) := by decide +kernel
theorem dX2_rolesServed_2 : decode cX2_rolesServed 2 = .ok (.invokevirtual 35, 3) := by decide +kernel
theorem dX2_rolesServed_5 : decode cX2_rolesServed 5 = .ok (.ifCond .eq 12, 3) := by decide +kernel
theorem dX2_rolesServed_8 : decode cX2_rolesServed 8 = .ok (.aload_n 0, 1) := by decide +kernel
theorem dX2_rolesServed_9 : decode cX2_rolesServed 9 = .ok (.getfield 31, 3) := by decide +kernel
theorem dX2_rolesServed_12 : decode cX2_rolesServed 12 = .ok (.iload_n 1, 1) := by decide +kernel
theorem dX2_rolesServed_13 : decode cX2_rolesServed 13 = .ok (.baload, 1) := by decide +kernel
theorem dX2_rolesServed_14 : decode cX2_rolesServed 14 = .ok (.ifCond .eq 5, 3) := by decide +kernel
theorem dX2_rolesServed_17 : decode cX2_rolesServed 17 = .ok (.iconst 0, 1) := by decide +kernel
theorem dX2_rolesServed_18 : decode cX2_rolesServed 18 = .ok (.ireturn, 1) := by decide +kernel
theorem dX2_rolesServed_19 : decode cX2_rolesServed 19 = .ok (.aload_n 0, 1) := by decide +kernel
theorem dX2_rolesServed_20 : decode cX2_rolesServed 20 = .ok (.getfield 15, 3) := by decide +kernel
theorem dX2_rolesServed_23 : decode cX2_rolesServed 23 = .ok (.iload_n 1, 1) := by decide +kernel
theorem dX2_rolesServed_24 : decode cX2_rolesServed 24 = .ok (.iaload, 1) := by decide +kernel
theorem dX2_rolesServed_25 : decode cX2_rolesServed 25 = .ok (.istore_n 2, 1) := by decide +kernel
theorem dX2_rolesServed_26 : decode cX2_rolesServed 26 = .ok (.iconst 0, 1) := by decide +kernel
theorem dX2_rolesServed_27 : decode cX2_rolesServed 27 = .ok (.istore_n 3, 1) := by decide +kernel
theorem dX2_rolesServed_28 : decode cX2_rolesServed 28 = .ok (.iload_n 3, 1) := by decide +kernel
theorem dX2_rolesServed_29 : decode cX2_rolesServed 29 = .ok (.aload_n 0, 1) := by decide +kernel
theorem dX2_rolesServed_30 : decode cX2_rolesServed 30 = .ok (.getfield 9, 3) := by decide +kernel
theorem dX2_rolesServed_33 : decode cX2_rolesServed 33 = .ok (.if_icmp .ge 27, 3) := by decide +kernel
theorem dX2_rolesServed_36 : decode cX2_rolesServed 36 = .ok (.aload_n 0, 1) := by decide +kernel
theorem dX2_rolesServed_37 : decode cX2_rolesServed 37 = .ok (.iload_n 3, 1) := by decide +kernel
theorem dX2_rolesServed_38 : decode cX2_rolesServed 38 = .ok (.invokevirtual 39, 3) := by decide +kernel
theorem dX2_rolesServed_41 : decode cX2_rolesServed 41 = .ok (.iload_n 1, 1) := by decide +kernel
theorem dX2_rolesServed_42 : decode cX2_rolesServed 42 = .ok (.if_icmp .ne 12, 3) := by decide +kernel
theorem dX2_rolesServed_45 : decode cX2_rolesServed 45 = .ok (.iload_n 2, 1) := by decide +kernel
theorem dX2_rolesServed_46 : decode cX2_rolesServed 46 = .ok (.aload_n 0, 1) := by decide +kernel
theorem dX2_rolesServed_47 : decode cX2_rolesServed 47 = .ok (.getfield 15, 3) := by decide +kernel
theorem dX2_rolesServed_50 : decode cX2_rolesServed 50 = .ok (.iload_n 3, 1) := by decide +kernel
theorem dX2_rolesServed_51 : decode cX2_rolesServed 51 = .ok (.iaload, 1) := by decide +kernel
theorem dX2_rolesServed_52 : decode cX2_rolesServed 52 = .ok (.ior, 1) := by decide +kernel
theorem dX2_rolesServed_53 : decode cX2_rolesServed 53 = .ok (.istore_n 2, 1) := by decide +kernel
theorem dX2_rolesServed_54 : decode cX2_rolesServed 54 = .ok (.iinc 3 1, 3) := by decide +kernel
theorem dX2_rolesServed_57 : decode cX2_rolesServed 57 = .ok (.goto (-29), 3) := by decide +kernel
theorem dX2_rolesServed_60 : decode cX2_rolesServed 60 = .ok (.iload_n 2, 1) := by decide +kernel
theorem dX2_rolesServed_61 : decode cX2_rolesServed 61 = .ok (.ireturn, 1) := by decide +kernel
theorem dX2_hasRoom_0 : decode cX2_hasRoom 0 = .ok (.aload_n 0, 1) := by decide +kernel
theorem dX2_hasRoom_1 : decode cX2_hasRoom 1 = .ok (.iload_n 1, 1) := by decide +kernel
theorem dX2_hasRoom_2 : decode cX2_hasRoom 2 = .ok (.invokevirtual 35, 3) := by decide +kernel
theorem dX2_hasRoom_5 : decode cX2_hasRoom 5 = .ok (.ifCond .eq 22, 3) := by decide +kernel
theorem dX2_hasRoom_8 : decode cX2_hasRoom 8 = .ok (.aload_n 0, 1) := by decide +kernel
theorem dX2_hasRoom_9 : decode cX2_hasRoom 9 = .ok (.getfield 22, 3) := by decide +kernel
theorem dX2_hasRoom_12 : decode cX2_hasRoom 12 = .ok (.iload_n 1, 1) := by decide +kernel
theorem dX2_hasRoom_13 : decode cX2_hasRoom 13 = .ok (.iaload, 1) := by decide +kernel
theorem dX2_hasRoom_14 : decode cX2_hasRoom 14 = .ok (.aload_n 0, 1) := by decide +kernel
theorem dX2_hasRoom_15 : decode cX2_hasRoom 15 = .ok (.getfield 19, 3) := by decide +kernel
theorem dX2_hasRoom_18 : decode cX2_hasRoom 18 = .ok (.iload_n 1, 1) := by decide +kernel
theorem dX2_hasRoom_19 : decode cX2_hasRoom 19 = .ok (.iaload, 1) := by decide +kernel
theorem dX2_hasRoom_20 : decode cX2_hasRoom 20 = .ok (.if_icmp .ge 7, 3) := by decide +kernel
theorem dX2_hasRoom_23 : decode cX2_hasRoom 23 = .ok (.iconst 1, 1) := by decide +kernel
theorem dX2_hasRoom_24 : decode cX2_hasRoom 24 = .ok (.goto 4, 3) := by decide +kernel
theorem dX2_hasRoom_27 : decode cX2_hasRoom 27 = .ok (.iconst 0, 1) := by decide +kernel
theorem dX2_hasRoom_28 : decode cX2_hasRoom 28 = .ok (.ireturn, 1) := by decide +kernel
theorem dX2_dropClaim_0 : decode cX2_dropClaim 0 = .ok (.aload_n 0, 1) := by decide +kernel
theorem dX2_dropClaim_1 : decode cX2_dropClaim 1 = .ok (.iload_n 1, 1) := by decide +kernel
theorem dX2_dropClaim_2 : decode cX2_dropClaim 2 = .ok (.invokevirtual 35, 3) := by decide +kernel
theorem dX2_dropClaim_5 : decode cX2_dropClaim 5 = .ok (.ifCond .eq 13, 3) := by decide +kernel
theorem dX2_dropClaim_8 : decode cX2_dropClaim 8 = .ok (.aload_n 0, 1) := by decide +kernel
theorem dX2_dropClaim_9 : decode cX2_dropClaim 9 = .ok (.getfield 22, 3) := by decide +kernel
theorem dX2_dropClaim_12 : decode cX2_dropClaim 12 = .ok (.iload_n 1, 1) := by decide +kernel
theorem dX2_dropClaim_13 : decode cX2_dropClaim 13 = .ok (.dup2, 1) := by decide +kernel
theorem dX2_dropClaim_14 : decode cX2_dropClaim 14 = .ok (.iaload, 1) := by decide +kernel
theorem dX2_dropClaim_15 : decode cX2_dropClaim 15 = .ok (.iconst 1, 1) := by decide +kernel
theorem dX2_dropClaim_16 : decode cX2_dropClaim 16 = .ok (.isub, 1) := by decide +kernel
theorem dX2_dropClaim_17 : decode cX2_dropClaim 17 = .ok (.iastore, 1) := by decide +kernel
theorem dX2_dropClaim_18 : decode cX2_dropClaim 18 = .ok (.return_, 1) := by decide +kernel
theorem dX2_countFinished_0 : decode cX2_countFinished 0 = .ok (.aload_n 0, 1) := by decide +kernel
theorem dX2_countFinished_1 : decode cX2_countFinished 1 = .ok (.iload_n 1, 1) := by decide +kernel
theorem dX2_countFinished_2 : decode cX2_countFinished 2 = .ok (.invokevirtual 35, 3) := by decide +kernel
theorem dX2_countFinished_5 : decode cX2_countFinished 5 = .ok (.ifCond .eq 13, 3) := by decide +kernel
theorem dX2_countFinished_8 : decode cX2_countFinished 8 = .ok (.aload_n 0, 1) := by decide +kernel
theorem dX2_countFinished_9 : decode cX2_countFinished 9 = .ok (.getfield 25, 3) := by decide +kernel
theorem dX2_countFinished_12 : decode cX2_countFinished 12 = .ok (.iload_n 1, 1) := by decide +kernel
theorem dX2_countFinished_13 : decode cX2_countFinished 13 = .ok (.dup2, 1) := by decide +kernel
theorem dX2_countFinished_14 : decode cX2_countFinished 14 = .ok (.iaload, 1) := by decide +kernel
theorem dX2_countFinished_15 : decode cX2_countFinished 15 = .ok (.iconst 1, 1) := by decide +kernel
theorem dX2_countFinished_16 : decode cX2_countFinished 16 = .ok (.iadd, 1) := by decide +kernel
theorem dX2_countFinished_17 : decode cX2_countFinished 17 = .ok (.iastore, 1) := by decide +kernel
theorem dX2_countFinished_18 : decode cX2_countFinished 18 = .ok (.return_, 1) := by decide +kernel
theorem dX4_init_0 : decode cX4_init 0 = .ok (.aload_n 0, 1) := by decide +kernel
theorem dX4_init_1 : decode cX4_init 1 = .ok (.invokespecial 3, 3) := by decide +kernel
theorem dX4_init_4 : decode cX4_init 4 = .ok (.aload_n 0, 1) := by decide +kernel
theorem dX4_init_5 : decode cX4_init 5 = .ok (.iload_n 1, 1) := by decide +kernel
theorem dX4_init_6 : decode cX4_init 6 = .ok (.putfield 9, 3) := by decide +kernel
theorem dX4_init_9 : decode cX4_init 9 = .ok (.aload_n 0, 1) := by decide +kernel
theorem dX4_init_10 : decode cX4_init 10 = .ok (.aload_n 2, 1) := by decide +kernel
theorem dX4_init_11 : decode cX4_init 11 = .ok (.putfield 15, 3) := by decide +kernel
theorem dX4_init_14 : decode cX4_init 14 = .ok (.aload_n 0, 1) := by decide +kernel
theorem dX4_init_15 : decode cX4_init 15 = .ok (.iconst 4, 1) := by decide +kernel
theorem dX4_init_16 : decode cX4_init 16 = .ok (.newarray .int, 2) := by decide +kernel
theorem dX4_init_18 : decode cX4_init 18 = .ok (.putfield 19, 3) := by decide +kernel
theorem dX4_init_21 : decode cX4_init 21 = .ok (.aload_n 0, 1) := by decide +kernel
theorem dX4_init_22 : decode cX4_init 22 = .ok (.bipush 40, 2) := by decide +kernel
theorem dX4_init_24 : decode cX4_init 24 = .ok (.newarray .int, 2) := by decide +kernel
theorem dX4_init_26 : decode cX4_init 26 = .ok (.putfield 23, 3) := by decide +kernel
theorem dX4_init_29 : decode cX4_init 29 = .ok (.aload_n 0, 1) := by decide +kernel
theorem dX4_init_30 : decode cX4_init 30 = .ok (.bipush 40, 2) := by decide +kernel
theorem dX4_init_32 : decode cX4_init 32 = .ok (.newarray .int, 2) := by decide +kernel
theorem dX4_init_34 : decode cX4_init 34 = .ok (.putfield 26, 3) := by decide +kernel
theorem dX4_init_37 : decode cX4_init 37 = .ok (.iconst 0, 1) := by decide +kernel
theorem dX4_init_38 : decode cX4_init 38 = .ok (.istore_n 3, 1) := by decide +kernel
theorem dX4_init_39 : decode cX4_init 39 = .ok (.iload_n 3, 1) := by decide +kernel
theorem dX4_init_40 : decode cX4_init 40 = .ok (.bipush 40, 2) := by decide +kernel
theorem dX4_init_42 : decode cX4_init 42 = .ok (.if_icmp .ge 16, 3) := by decide +kernel
theorem dX4_init_45 : decode cX4_init 45 = .ok (.aload_n 0, 1) := by decide +kernel
theorem dX4_init_46 : decode cX4_init 46 = .ok (.getfield 26, 3) := by decide +kernel
theorem dX4_init_49 : decode cX4_init 49 = .ok (.iload_n 3, 1) := by decide +kernel
theorem dX4_init_50 : decode cX4_init 50 = .ok (.iconst (-1), 1) := by decide +kernel
theorem dX4_init_51 : decode cX4_init 51 = .ok (.iastore, 1) := by decide +kernel
theorem dX4_init_52 : decode cX4_init 52 = .ok (.iinc 3 1, 3) := by decide +kernel
theorem dX4_init_55 : decode cX4_init 55 = .ok (.goto (-16), 3) := by decide +kernel
theorem dX4_init_58 : decode cX4_init 58 = .ok (.aload_n 0, 1) := by decide +kernel
theorem dX4_init_59 : decode cX4_init 59 = .ok (.iconst 0, 1) := by decide +kernel
theorem dX4_init_60 : decode cX4_init 60 = .ok (.putfield 29, 3) := by decide +kernel
theorem dX4_init_63 : decode cX4_init 63 = .ok (.aload_n 0, 1) := by decide +kernel
theorem dX4_init_64 : decode cX4_init 64 = .ok (.iconst 0, 1) := by decide +kernel
theorem dX4_init_65 : decode cX4_init 65 = .ok (.putfield 33, 3) := by decide +kernel
theorem dX4_init_68 : decode cX4_init 68 = .ok (.return_, 1) := by decide +kernel
theorem dX4_lastDoerOf_0 : decode cX4_lastDoerOf 0 = .ok (.iload_n 1, 1) := by decide +kernel
theorem dX4_lastDoerOf_1 : decode cX4_lastDoerOf 1 = .ok (.ifCond .lt 18, 3) := by decide +kernel
theorem dX4_lastDoerOf_4 : decode cX4_lastDoerOf 4 = .ok (.iload_n 1, 1) := by decide +kernel
theorem dX4_lastDoerOf_5 : decode cX4_lastDoerOf 5 = .ok (.bipush 40, 2) := by decide +kernel
theorem dX4_lastDoerOf_7 : decode cX4_lastDoerOf 7 = .ok (.if_icmp .ge 12, 3) := by decide +kernel
theorem dX4_lastDoerOf_10 : decode cX4_lastDoerOf 10 = .ok (.aload_n 0, 1) := by decide +kernel
theorem dX4_lastDoerOf_11 : decode cX4_lastDoerOf 11 = .ok (.getfield 26, 3) := by decide +kernel
theorem dX4_lastDoerOf_14 : decode cX4_lastDoerOf 14 = .ok (.iload_n 1, 1) := by decide +kernel
theorem dX4_lastDoerOf_15 : decode cX4_lastDoerOf 15 = .ok (.iaload, 1) := by decide +kernel
theorem dX4_lastDoerOf_16 : decode cX4_lastDoerOf 16 = .ok (.goto 4, 3) := by decide +kernel
theorem dX4_lastDoerOf_19 : decode cX4_lastDoerOf 19 = .ok (.iconst (-1), 1) := by decide +kernel
theorem dX4_lastDoerOf_20 : decode cX4_lastDoerOf 20 = .ok (.ireturn, 1) := by decide +kernel
theorem dX4_noteDoer_0 : decode cX4_noteDoer 0 = .ok (.iload_n 1, 1) := by decide +kernel
theorem dX4_noteDoer_1 : decode cX4_noteDoer 1 = .ok (.ifCond .lt 16, 3) := by decide +kernel
theorem dX4_noteDoer_4 : decode cX4_noteDoer 4 = .ok (.iload_n 1, 1) := by decide +kernel
theorem dX4_noteDoer_5 : decode cX4_noteDoer 5 = .ok (.bipush 40, 2) := by decide +kernel
theorem dX4_noteDoer_7 : decode cX4_noteDoer 7 = .ok (.if_icmp .ge 10, 3) := by decide +kernel
theorem dX4_noteDoer_10 : decode cX4_noteDoer 10 = .ok (.aload_n 0, 1) := by decide +kernel
theorem dX4_noteDoer_11 : decode cX4_noteDoer 11 = .ok (.getfield 26, 3) := by decide +kernel
theorem dX4_noteDoer_14 : decode cX4_noteDoer 14 = .ok (.iload_n 1, 1) := by decide +kernel
theorem dX4_noteDoer_15 : decode cX4_noteDoer 15 = .ok (.iload_n 2, 1) := by decide +kernel
theorem dX4_noteDoer_16 : decode cX4_noteDoer 16 = .ok (.iastore, 1) := by decide +kernel
theorem dX4_noteDoer_17 : decode cX4_noteDoer 17 = .ok (.return_, 1) := by decide +kernel
theorem dX4_take_0 : decode cX4_take 0 = .ok (.aload_n 1, 1) := by decide +kernel
theorem dX4_take_1 : decode cX4_take 1 = .ok (.getfield 36, 3) := by decide +kernel
theorem dX4_take_4 : decode cX4_take 4 = .ok (.iconst 0, 1) := by decide +kernel
theorem dX4_take_5 : decode cX4_take 5 = .ok (.aload_n 0, 1) := by decide +kernel
theorem dX4_take_6 : decode cX4_take 6 = .ok (.getfield 19, 3) := by decide +kernel
theorem dX4_take_9 : decode cX4_take 9 = .ok (.iconst 0, 1) := by decide +kernel
theorem dX4_take_10 : decode cX4_take 10 = .ok (.iconst 4, 1) := by decide +kernel
theorem dX4_take_11 : decode cX4_take 11 = .ok (.invokestatic 39, 3) := by decide +kernel
theorem dX4_take_14 : decode cX4_take 14 = .ok (.aload_n 1, 1) := by decide +kernel
theorem dX4_take_15 : decode cX4_take 15 = .ok (.getfield 45, 3) := by decide +kernel
theorem dX4_take_18 : decode cX4_take 18 = .ok (.iconst 0, 1) := by decide +kernel
theorem dX4_take_19 : decode cX4_take 19 = .ok (.aload_n 0, 1) := by decide +kernel
theorem dX4_take_20 : decode cX4_take 20 = .ok (.getfield 23, 3) := by decide +kernel
theorem dX4_take_23 : decode cX4_take 23 = .ok (.iconst 0, 1) := by decide +kernel
theorem dX4_take_24 : decode cX4_take 24 = .ok (.bipush 40, 2) := by decide +kernel
theorem dX4_take_26 : decode cX4_take 26 = .ok (.invokestatic 39, 3) := by decide +kernel
theorem dX4_take_29 : decode cX4_take 29 = .ok (.aload_n 0, 1) := by decide +kernel
theorem dX4_take_30 : decode cX4_take 30 = .ok (.aload_n 1, 1) := by decide +kernel
theorem dX4_take_31 : decode cX4_take 31 = .ok (.getfield 46, 3) := by decide +kernel
theorem dX4_take_34 : decode cX4_take 34 = .ok (.putfield 29, 3) := by decide +kernel
theorem dX4_take_37 : decode cX4_take 37 = .ok (.return_, 1) := by decide +kernel
theorem dX6_init_0 : decode cX6_init 0 = .ok (.aload_n 0, 1) := by decide +kernel
theorem dX6_init_1 : decode cX6_init 1 = .ok (.invokespecial 3, 3) := by decide +kernel
theorem dX6_init_4 : decode cX6_init 4 = .ok (.aload_n 0, 1) := by decide +kernel
theorem dX6_init_5 : decode cX6_init 5 = .ok (.iconst 0, 1) := by decide +kernel
theorem dX6_init_6 : decode cX6_init 6 = .ok (.putfield 9, 3) := by decide +kernel
theorem dX6_init_9 : decode cX6_init 9 = .ok (.aload_n 0, 1) := by decide +kernel
theorem dX6_init_10 : decode cX6_init 10 = .ok (.sipush 200, 3) := by decide +kernel
theorem dX6_init_13 : decode cX6_init 13 = .ok (.newarray .int, 2) := by decide +kernel
theorem dX6_init_15 : decode cX6_init 15 = .ok (.putfield 15, 3) := by decide +kernel
theorem dX6_init_18 : decode cX6_init 18 = .ok (.aload_n 0, 1) := by decide +kernel
theorem dX6_init_19 : decode cX6_init 19 = .ok (.sipush 200, 3) := by decide +kernel
theorem dX6_init_22 : decode cX6_init 22 = .ok (.newarray .int, 2) := by decide +kernel
theorem dX6_init_24 : decode cX6_init 24 = .ok (.putfield 19, 3) := by decide +kernel
theorem dX6_init_27 : decode cX6_init 27 = .ok (.aload_n 0, 1) := by decide +kernel
theorem dX6_init_28 : decode cX6_init 28 = .ok (.sipush 200, 3) := by decide +kernel
theorem dX6_init_31 : decode cX6_init 31 = .ok (.newarray .int, 2) := by decide +kernel
theorem dX6_init_33 : decode cX6_init 33 = .ok (.putfield 22, 3) := by decide +kernel
theorem dX6_init_36 : decode cX6_init 36 = .ok (.aload_n 0, 1) := by decide +kernel
theorem dX6_init_37 : decode cX6_init 37 = .ok (.sipush 200, 3) := by decide +kernel
theorem dX6_init_40 : decode cX6_init 40 = .ok (.newarray .int, 2) := by decide +kernel
theorem dX6_init_42 : decode cX6_init 42 = .ok (.putfield 25, 3) := by decide +kernel
theorem dX6_init_45 : decode cX6_init 45 = .ok (.aload_n 0, 1) := by decide +kernel
theorem dX6_init_46 : decode cX6_init 46 = .ok (.sipush 200, 3) := by decide +kernel
theorem dX6_init_49 : decode cX6_init 49 = .ok (.newarray .int, 2) := by decide +kernel
theorem dX6_init_51 : decode cX6_init 51 = .ok (.putfield 28, 3) := by decide +kernel
theorem dX6_init_54 : decode cX6_init 54 = .ok (.aload_n 0, 1) := by decide +kernel
theorem dX6_init_55 : decode cX6_init 55 = .ok (.sipush 200, 3) := by decide +kernel
theorem dX6_init_58 : decode cX6_init 58 = .ok (.newarray .int, 2) := by decide +kernel
theorem dX6_init_60 : decode cX6_init 60 = .ok (.putfield 31, 3) := by decide +kernel
theorem dX6_init_63 : decode cX6_init 63 = .ok (.aload_n 0, 1) := by decide +kernel
theorem dX6_init_64 : decode cX6_init 64 = .ok (.sipush 200, 3) := by decide +kernel
theorem dX6_init_67 : decode cX6_init 67 = .ok (.newarray .int, 2) := by decide +kernel
theorem dX6_init_69 : decode cX6_init 69 = .ok (.putfield 34, 3) := by decide +kernel
theorem dX6_init_72 : decode cX6_init 72 = .ok (.aload_n 0, 1) := by decide +kernel
theorem dX6_init_73 : decode cX6_init 73 = .ok (.sipush 200, 3) := by decide +kernel
theorem dX6_init_76 : decode cX6_init 76 = .ok (.newarray .int, 2) := by decide +kernel
theorem dX6_init_78 : decode cX6_init 78 = .ok (.putfield 37, 3) := by decide +kernel
theorem dX6_init_81 : decode cX6_init 81 = .ok (.aload_n 0, 1) := by decide +kernel
theorem dX6_init_82 : decode cX6_init 82 = .ok (.sipush 200, 3) := by decide +kernel
theorem dX6_init_85 : decode cX6_init 85 = .ok (.newarray .int, 2) := by decide +kernel
theorem dX6_init_87 : decode cX6_init 87 = .ok (.putfield 40, 3) := by decide +kernel
theorem dX6_init_90 : decode cX6_init 90 = .ok (.return_, 1) := by decide +kernel
theorem dX6_has_0 : decode cX6_has 0 = .ok (.iload_n 1, 1) := by decide +kernel
theorem dX6_has_1 : decode cX6_has 1 = .ok (.ifCond .lt 22, 3) := by decide +kernel
theorem dX6_has_4 : decode cX6_has 4 = .ok (.iload_n 1, 1) := by decide +kernel
theorem dX6_has_5 : decode cX6_has 5 = .ok (.aload_n 0, 1) := by decide +kernel
theorem dX6_has_6 : decode cX6_has 6 = .ok (.getfield 9, 3) := by decide +kernel
theorem dX6_has_9 : decode cX6_has 9 = .ok (.if_icmp .ge 14, 3) := by decide +kernel
theorem dX6_has_12 : decode cX6_has 12 = .ok (.iload_n 1, 1) := by decide +kernel
theorem dX6_has_13 : decode cX6_has 13 = .ok (.sipush 200, 3) := by decide +kernel
theorem dX6_has_16 : decode cX6_has 16 = .ok (.if_icmp .ge 7, 3) := by decide +kernel
theorem dX6_has_19 : decode cX6_has 19 = .ok (.iconst 1, 1) := by decide +kernel
theorem dX6_has_20 : decode cX6_has 20 = .ok (.goto 4, 3) := by decide +kernel
theorem dX6_has_23 : decode cX6_has 23 = .ok (.iconst 0, 1) := by decide +kernel
theorem dX6_has_24 : decode cX6_has 24 = .ok (.ireturn, 1) := by decide +kernel
theorem dX6_isIn_0 : decode cX6_isIn 0 = .ok (.aload_n 0, 1) := by decide +kernel
theorem dX6_isIn_1 : decode cX6_isIn 1 = .ok (.iload_n 1, 1) := by decide +kernel
theorem dX6_isIn_2 : decode cX6_isIn 2 = .ok (.invokevirtual 43, 3) := by decide +kernel
theorem dX6_isIn_5 : decode cX6_isIn 5 = .ok (.ifCond .eq 17, 3) := by decide +kernel
theorem dX6_isIn_8 : decode cX6_isIn 8 = .ok (.aload_n 0, 1) := by decide +kernel
theorem dX6_isIn_9 : decode cX6_isIn 9 = .ok (.getfield 31, 3) := by decide +kernel
theorem dX6_isIn_12 : decode cX6_isIn 12 = .ok (.iload_n 1, 1) := by decide +kernel
theorem dX6_isIn_13 : decode cX6_isIn 13 = .ok (.iaload, 1) := by decide +kernel
theorem dX6_isIn_14 : decode cX6_isIn 14 = .ok (.iload_n 2, 1) := by decide +kernel
theorem dX6_isIn_15 : decode cX6_isIn 15 = .ok (.if_icmp .ne 7, 3) := by decide +kernel
theorem dX6_isIn_18 : decode cX6_isIn 18 = .ok (.iconst 1, 1) := by decide +kernel
theorem dX6_isIn_19 : decode cX6_isIn 19 = .ok (.goto 4, 3) := by decide +kernel
theorem dX6_isIn_22 : decode cX6_isIn 22 = .ok (.iconst 0, 1) := by decide +kernel
theorem dX6_isIn_23 : decode cX6_isIn 23 = .ok (.ireturn, 1) := by decide +kernel
theorem dX6_hasRoomFor_0 : decode cX6_hasRoomFor 0 = .ok (.aload_n 0, 1) := by decide +kernel
theorem dX6_hasRoomFor_1 : decode cX6_hasRoomFor 1 = .ok (.getfield 9, 3) := by decide +kernel
theorem dX6_hasRoomFor_4 : decode cX6_hasRoomFor 4 = .ok (.iload_n 1, 1) := by decide +kernel
theorem dX6_hasRoomFor_5 : decode cX6_hasRoomFor 5 = .ok (.iadd, 1) := by decide +kernel
theorem dX6_hasRoomFor_6 : decode cX6_hasRoomFor 6 = .ok (.sipush 200, 3) := by decide +kernel
theorem dX6_hasRoomFor_9 : decode cX6_hasRoomFor 9 = .ok (.if_icmp .gt 7, 3) := by decide +kernel
theorem dX6_hasRoomFor_12 : decode cX6_hasRoomFor 12 = .ok (.iconst 1, 1) := by decide +kernel
theorem dX6_hasRoomFor_13 : decode cX6_hasRoomFor 13 = .ok (.goto 4, 3) := by decide +kernel
theorem dX6_hasRoomFor_16 : decode cX6_hasRoomFor 16 = .ok (.iconst 0, 1) := by decide +kernel
theorem dX6_hasRoomFor_17 : decode cX6_hasRoomFor 17 = .ok (.ireturn, 1) := by decide +kernel
theorem dX6_add_0 : decode cX6_add 0 = .ok (.aload_n 0, 1) := by decide +kernel
theorem dX6_add_1 : decode cX6_add 1 = .ok (.getfield 9, 3) := by decide +kernel
theorem dX6_add_4 : decode cX6_add 4 = .ok (.istore 6, 2) := by decide +kernel
theorem dX6_add_6 : decode cX6_add 6 = .ok (.iload 6, 2) := by decide +kernel
theorem dX6_add_8 : decode cX6_add 8 = .ok (.ifCond .lt 11, 3) := by decide +kernel
theorem dX6_add_11 : decode cX6_add 11 = .ok (.iload 6, 2) := by decide +kernel
theorem dX6_add_13 : decode cX6_add 13 = .ok (.sipush 200, 3) := by decide +kernel
theorem dX6_add_16 : decode cX6_add 16 = .ok (.if_icmp .lt 4, 3) := by decide +kernel
theorem dX6_add_19 : decode cX6_add 19 = .ok (.return_, 1) := by decide +kernel
theorem dX6_add_20 : decode cX6_add 20 = .ok (.aload_n 0, 1) := by decide +kernel
theorem dX6_add_21 : decode cX6_add 21 = .ok (.getfield 15, 3) := by decide +kernel
theorem dX6_add_24 : decode cX6_add 24 = .ok (.iload 6, 2) := by decide +kernel
theorem dX6_add_26 : decode cX6_add 26 = .ok (.iload_n 1, 1) := by decide +kernel
theorem dX6_add_27 : decode cX6_add 27 = .ok (.iastore, 1) := by decide +kernel
theorem dX6_add_28 : decode cX6_add 28 = .ok (.aload_n 0, 1) := by decide +kernel
theorem dX6_add_29 : decode cX6_add 29 = .ok (.getfield 19, 3) := by decide +kernel
theorem dX6_add_32 : decode cX6_add 32 = .ok (.iload 6, 2) := by decide +kernel
theorem dX6_add_34 : decode cX6_add 34 = .ok (.iload_n 2, 1) := by decide +kernel
theorem dX6_add_35 : decode cX6_add 35 = .ok (.iastore, 1) := by decide +kernel
theorem dX6_add_36 : decode cX6_add 36 = .ok (.aload_n 0, 1) := by decide +kernel
theorem dX6_add_37 : decode cX6_add 37 = .ok (.getfield 22, 3) := by decide +kernel
theorem dX6_add_40 : decode cX6_add 40 = .ok (.iload 6, 2) := by decide +kernel
theorem dX6_add_42 : decode cX6_add 42 = .ok (.iload_n 3, 1) := by decide +kernel
theorem dX6_add_43 : decode cX6_add 43 = .ok (.iastore, 1) := by decide +kernel
theorem dX6_add_44 : decode cX6_add 44 = .ok (.aload_n 0, 1) := by decide +kernel
theorem dX6_add_45 : decode cX6_add 45 = .ok (.getfield 25, 3) := by decide +kernel
theorem dX6_add_48 : decode cX6_add 48 = .ok (.iload 6, 2) := by decide +kernel
theorem dX6_add_50 : decode cX6_add 50 = .ok (.iload 4, 2) := by decide +kernel
theorem dX6_add_52 : decode cX6_add 52 = .ok (.iastore, 1) := by decide +kernel
theorem dX6_add_53 : decode cX6_add 53 = .ok (.aload_n 0, 1) := by decide +kernel
theorem dX6_add_54 : decode cX6_add 54 = .ok (.getfield 28, 3) := by decide +kernel
theorem dX6_add_57 : decode cX6_add 57 = .ok (.iload 6, 2) := by decide +kernel
theorem dX6_add_59 : decode cX6_add 59 = .ok (.iload 5, 2) := by decide +kernel
theorem dX6_add_61 : decode cX6_add 61 = .ok (.iastore, 1) := by decide +kernel
theorem dX6_add_62 : decode cX6_add 62 = .ok (.aload_n 0, 1) := by decide +kernel
theorem dX6_add_63 : decode cX6_add 63 = .ok (.getfield 31, 3) := by decide +kernel
theorem dX6_add_66 : decode cX6_add 66 = .ok (.iload 6, 2) := by decide +kernel
theorem dX6_add_68 : decode cX6_add 68 = .ok (.iconst 0, 1) := by decide +kernel
theorem dX6_add_69 : decode cX6_add 69 = .ok (.iastore, 1) := by decide +kernel
theorem dX6_add_70 : decode cX6_add 70 = .ok (.aload_n 0, 1) := by decide +kernel
theorem dX6_add_71 : decode cX6_add 71 = .ok (.getfield 34, 3) := by decide +kernel
theorem dX6_add_74 : decode cX6_add 74 = .ok (.iload 6, 2) := by decide +kernel
theorem dX6_add_76 : decode cX6_add 76 = .ok (.iconst (-1), 1) := by decide +kernel
theorem dX6_add_77 : decode cX6_add 77 = .ok (.iastore, 1) := by decide +kernel
theorem dX6_add_78 : decode cX6_add 78 = .ok (.aload_n 0, 1) := by decide +kernel
theorem dX6_add_79 : decode cX6_add 79 = .ok (.getfield 37, 3) := by decide +kernel
theorem dX6_add_82 : decode cX6_add 82 = .ok (.iload 6, 2) := by decide +kernel
theorem dX6_add_84 : decode cX6_add 84 = .ok (.iconst (-1), 1) := by decide +kernel
theorem dX6_add_85 : decode cX6_add 85 = .ok (.iastore, 1) := by decide +kernel
theorem dX6_add_86 : decode cX6_add 86 = .ok (.aload_n 0, 1) := by decide +kernel
theorem dX6_add_87 : decode cX6_add 87 = .ok (.iload 6, 2) := by decide +kernel
theorem dX6_add_89 : decode cX6_add 89 = .ok (.invokevirtual 47, 3) := by decide +kernel
theorem dX6_add_92 : decode cX6_add 92 = .ok (.aload_n 0, 1) := by decide +kernel
theorem dX6_add_93 : decode cX6_add 93 = .ok (.dup, 1) := by decide +kernel
theorem dX6_add_94 : decode cX6_add 94 = .ok (.getfield 9, 3) := by decide +kernel
theorem dX6_add_97 : decode cX6_add 97 = .ok (.iconst 1, 1) := by decide +kernel
theorem dX6_add_98 : decode cX6_add 98 = .ok (.iadd, 1) := by decide +kernel
theorem dX6_add_99 : decode cX6_add 99 = .ok (.putfield 9, 3) := by decide +kernel
theorem dX6_add_102 : decode cX6_add 102 = .ok (.return_, 1) := by decide +kernel
theorem dX6_putByDue_0 : decode cX6_putByDue 0 = .ok (.iload_n 1, 1) := by decide +kernel
theorem dX6_putByDue_1 : decode cX6_putByDue 1 = .ok (.istore_n 2, 1) := by decide +kernel
theorem dX6_putByDue_2 : decode cX6_putByDue 2 = .ok (.iload_n 2, 1) := by decide +kernel
theorem dX6_putByDue_3 : decode cX6_putByDue 3 = .ok (.ifCond .le 39, 3) := by decide +kernel
theorem dX6_putByDue_6 : decode cX6_putByDue 6 = .ok (.aload_n 0, 1) := by decide +kernel
theorem dX6_putByDue_7 : decode cX6_putByDue 7 = .ok (.aload_n 0, 1) := by decide +kernel
theorem dX6_putByDue_8 : decode cX6_putByDue 8 = .ok (.getfield 40, 3) := by decide +kernel
theorem dX6_putByDue_11 : decode cX6_putByDue 11 = .ok (.iload_n 2, 1) := by decide +kernel
theorem dX6_putByDue_12 : decode cX6_putByDue 12 = .ok (.iconst 1, 1) := by decide +kernel
theorem dX6_putByDue_13 : decode cX6_putByDue 13 = .ok (.isub, 1) := by decide +kernel
theorem dX6_putByDue_14 : decode cX6_putByDue 14 = .ok (.iaload, 1) := by decide +kernel
theorem dX6_putByDue_15 : decode cX6_putByDue 15 = .ok (.iload_n 1, 1) := by decide +kernel
theorem dX6_putByDue_16 : decode cX6_putByDue 16 = .ok (.invokevirtual 51, 3) := by decide +kernel
theorem dX6_putByDue_19 : decode cX6_putByDue 19 = .ok (.ifCond .eq 23, 3) := by decide +kernel
theorem dX6_putByDue_22 : decode cX6_putByDue 22 = .ok (.aload_n 0, 1) := by decide +kernel
theorem dX6_putByDue_23 : decode cX6_putByDue 23 = .ok (.getfield 40, 3) := by decide +kernel
theorem dX6_putByDue_26 : decode cX6_putByDue 26 = .ok (.iload_n 2, 1) := by decide +kernel
theorem dX6_putByDue_27 : decode cX6_putByDue 27 = .ok (.aload_n 0, 1) := by decide +kernel
theorem dX6_putByDue_28 : decode cX6_putByDue 28 = .ok (.getfield 40, 3) := by decide +kernel
theorem dX6_putByDue_31 : decode cX6_putByDue 31 = .ok (.iload_n 2, 1) := by decide +kernel
theorem dX6_putByDue_32 : decode cX6_putByDue 32 = .ok (.iconst 1, 1) := by decide +kernel
theorem dX6_putByDue_33 : decode cX6_putByDue 33 = .ok (.isub, 1) := by decide +kernel
theorem dX6_putByDue_34 : decode cX6_putByDue 34 = .ok (.iaload, 1) := by decide +kernel
theorem dX6_putByDue_35 : decode cX6_putByDue 35 = .ok (.iastore, 1) := by decide +kernel
theorem dX6_putByDue_36 : decode cX6_putByDue 36 = .ok (.iinc 2 (-1), 3) := by decide +kernel
theorem dX6_putByDue_39 : decode cX6_putByDue 39 = .ok (.goto (-37), 3) := by decide +kernel
theorem dX6_putByDue_42 : decode cX6_putByDue 42 = .ok (.aload_n 0, 1) := by decide +kernel
theorem dX6_putByDue_43 : decode cX6_putByDue 43 = .ok (.getfield 40, 3) := by decide +kernel
theorem dX6_putByDue_46 : decode cX6_putByDue 46 = .ok (.iload_n 2, 1) := by decide +kernel
theorem dX6_putByDue_47 : decode cX6_putByDue 47 = .ok (.iload_n 1, 1) := by decide +kernel
theorem dX6_putByDue_48 : decode cX6_putByDue 48 = .ok (.iastore, 1) := by decide +kernel
theorem dX6_putByDue_49 : decode cX6_putByDue 49 = .ok (.return_, 1) := by decide +kernel
theorem dX6_isDueBehind_0 : decode cX6_isDueBehind 0 = .ok (.aload_n 0, 1) := by decide +kernel
theorem dX6_isDueBehind_1 : decode cX6_isDueBehind 1 = .ok (.iload_n 1, 1) := by decide +kernel
theorem dX6_isDueBehind_2 : decode cX6_isDueBehind 2 = .ok (.invokevirtual 43, 3) := by decide +kernel
theorem dX6_isDueBehind_5 : decode cX6_isDueBehind 5 = .ok (.ifCond .eq 22, 3) := by decide +kernel
theorem dX6_isDueBehind_8 : decode cX6_isDueBehind 8 = .ok (.aload_n 0, 1) := by decide +kernel
theorem dX6_isDueBehind_9 : decode cX6_isDueBehind 9 = .ok (.getfield 28, 3) := by decide +kernel
theorem dX6_isDueBehind_12 : decode cX6_isDueBehind 12 = .ok (.iload_n 1, 1) := by decide +kernel
theorem dX6_isDueBehind_13 : decode cX6_isDueBehind 13 = .ok (.iaload, 1) := by decide +kernel
theorem dX6_isDueBehind_14 : decode cX6_isDueBehind 14 = .ok (.aload_n 0, 1) := by decide +kernel
theorem dX6_isDueBehind_15 : decode cX6_isDueBehind 15 = .ok (.getfield 28, 3) := by decide +kernel
theorem dX6_isDueBehind_18 : decode cX6_isDueBehind 18 = .ok (.iload_n 2, 1) := by decide +kernel
theorem dX6_isDueBehind_19 : decode cX6_isDueBehind 19 = .ok (.iaload, 1) := by decide +kernel
theorem dX6_isDueBehind_20 : decode cX6_isDueBehind 20 = .ok (.if_icmp .le 7, 3) := by decide +kernel
theorem dX6_isDueBehind_23 : decode cX6_isDueBehind 23 = .ok (.iconst 1, 1) := by decide +kernel
theorem dX6_isDueBehind_24 : decode cX6_isDueBehind 24 = .ok (.goto 4, 3) := by decide +kernel
theorem dX6_isDueBehind_27 : decode cX6_isDueBehind 27 = .ok (.iconst 0, 1) := by decide +kernel
theorem dX6_isDueBehind_28 : decode cX6_isDueBehind 28 = .ok (.ireturn, 1) := by decide +kernel
theorem dX6_give_0 : decode cX6_give 0 = .ok (.aload_n 0, 1) := by decide +kernel
theorem dX6_give_1 : decode cX6_give 1 = .ok (.iload_n 1, 1) := by decide +kernel
theorem dX6_give_2 : decode cX6_give 2 = .ok (.invokevirtual 43, 3) := by decide +kernel
theorem dX6_give_5 : decode cX6_give 5 = .ok (.ifCond .eq 17, 3) := by decide +kernel
theorem dX6_give_8 : decode cX6_give 8 = .ok (.aload_n 0, 1) := by decide +kernel
theorem dX6_give_9 : decode cX6_give 9 = .ok (.getfield 31, 3) := by decide +kernel
theorem dX6_give_12 : decode cX6_give 12 = .ok (.iload_n 1, 1) := by decide +kernel
theorem dX6_give_13 : decode cX6_give 13 = .ok (.iconst 1, 1) := by decide +kernel
theorem dX6_give_14 : decode cX6_give 14 = .ok (.iastore, 1) := by decide +kernel
theorem dX6_give_15 : decode cX6_give 15 = .ok (.aload_n 0, 1) := by decide +kernel
theorem dX6_give_16 : decode cX6_give 16 = .ok (.getfield 34, 3) := by decide +kernel
theorem dX6_give_19 : decode cX6_give 19 = .ok (.iload_n 1, 1) := by decide +kernel
theorem dX6_give_20 : decode cX6_give 20 = .ok (.iload_n 2, 1) := by decide +kernel
theorem dX6_give_21 : decode cX6_give 21 = .ok (.iastore, 1) := by decide +kernel
theorem dX6_give_22 : decode cX6_give 22 = .ok (.return_, 1) := by decide +kernel
theorem dX6_reopen_0 : decode cX6_reopen 0 = .ok (.aload_n 0, 1) := by decide +kernel
theorem dX6_reopen_1 : decode cX6_reopen 1 = .ok (.iload_n 1, 1) := by decide +kernel
theorem dX6_reopen_2 : decode cX6_reopen 2 = .ok (.invokevirtual 43, 3) := by decide +kernel
theorem dX6_reopen_5 : decode cX6_reopen 5 = .ok (.ifCond .eq 17, 3) := by decide +kernel
theorem dX6_reopen_8 : decode cX6_reopen 8 = .ok (.aload_n 0, 1) := by decide +kernel
theorem dX6_reopen_9 : decode cX6_reopen 9 = .ok (.getfield 31, 3) := by decide +kernel
theorem dX6_reopen_12 : decode cX6_reopen 12 = .ok (.iload_n 1, 1) := by decide +kernel
theorem dX6_reopen_13 : decode cX6_reopen 13 = .ok (.iconst 0, 1) := by decide +kernel
theorem dX6_reopen_14 : decode cX6_reopen 14 = .ok (.iastore, 1) := by decide +kernel
theorem dX6_reopen_15 : decode cX6_reopen 15 = .ok (.aload_n 0, 1) := by decide +kernel
theorem dX6_reopen_16 : decode cX6_reopen 16 = .ok (.getfield 34, 3) := by decide +kernel
theorem dX6_reopen_19 : decode cX6_reopen 19 = .ok (.iload_n 1, 1) := by decide +kernel
theorem dX6_reopen_20 : decode cX6_reopen 20 = .ok (.iconst (-1), 1) := by decide +kernel
theorem dX6_reopen_21 : decode cX6_reopen 21 = .ok (.iastore, 1) := by decide +kernel
theorem dX6_reopen_22 : decode cX6_reopen 22 = .ok (.return_, 1) := by decide +kernel
theorem dX6_reopenAllOf_0 : decode cX6_reopenAllOf 0 = .ok (.iconst 0, 1) := by decide +kernel
theorem dX6_reopenAllOf_1 : decode cX6_reopenAllOf 1 = .ok (.istore_n 2, 1) := by decide +kernel
theorem dX6_reopenAllOf_2 : decode cX6_reopenAllOf 2 = .ok (.iload_n 2, 1) := by decide +kernel
theorem dX6_reopenAllOf_3 : decode cX6_reopenAllOf 3 = .ok (.aload_n 0, 1) := by decide +kernel
theorem dX6_reopenAllOf_4 : decode cX6_reopenAllOf 4 = .ok (.getfield 9, 3) := by decide +kernel
theorem dX6_reopenAllOf_7 : decode cX6_reopenAllOf 7 = .ok (.if_icmp .ge 33, 3) := by decide +kernel
theorem dX6_reopenAllOf_10 : decode cX6_reopenAllOf 10 = .ok (.aload_n 0, 1) := by decide +kernel
theorem dX6_reopenAllOf_11 : decode cX6_reopenAllOf 11 = .ok (.iload_n 2, 1) := by decide +kernel
theorem dX6_reopenAllOf_12 : decode cX6_reopenAllOf 12 = .ok (.iconst 1, 1) := by decide +kernel
theorem dX6_reopenAllOf_13 : decode cX6_reopenAllOf 13 = .ok (.invokevirtual 55, 3) := by decide +kernel
theorem dX6_reopenAllOf_16 : decode cX6_reopenAllOf 16 = .ok (.ifCond .eq 18, 3) := by decide +kernel
theorem dX6_reopenAllOf_19 : decode cX6_reopenAllOf 19 = .ok (.aload_n 0, 1) := by decide +kernel
theorem dX6_reopenAllOf_20 : decode cX6_reopenAllOf 20 = .ok (.getfield 34, 3) := by decide +kernel
theorem dX6_reopenAllOf_23 : decode cX6_reopenAllOf 23 = .ok (.iload_n 2, 1) := by decide +kernel
theorem dX6_reopenAllOf_24 : decode cX6_reopenAllOf 24 = .ok (.iaload, 1) := by decide +kernel
theorem dX6_reopenAllOf_25 : decode cX6_reopenAllOf 25 = .ok (.iload_n 1, 1) := by decide +kernel
theorem dX6_reopenAllOf_26 : decode cX6_reopenAllOf 26 = .ok (.if_icmp .ne 8, 3) := by decide +kernel
theorem dX6_reopenAllOf_29 : decode cX6_reopenAllOf 29 = .ok (.aload_n 0, 1) := by decide +kernel
theorem dX6_reopenAllOf_30 : decode cX6_reopenAllOf 30 = .ok (.iload_n 2, 1) := by decide +kernel
theorem dX6_reopenAllOf_31 : decode cX6_reopenAllOf 31 = .ok (.invokevirtual 58, 3) := by decide +kernel
theorem dX6_reopenAllOf_34 : decode cX6_reopenAllOf 34 = .ok (.iinc 2 1, 3) := by decide +kernel
theorem dX6_reopenAllOf_37 : decode cX6_reopenAllOf 37 = .ok (.goto (-35), 3) := by decide +kernel
theorem dX6_reopenAllOf_40 : decode cX6_reopenAllOf 40 = .ok (.return_, 1) := by decide +kernel
theorem dX6_finish_0 : decode cX6_finish 0 = .ok (.aload_n 0, 1) := by decide +kernel
theorem dX6_finish_1 : decode cX6_finish 1 = .ok (.iload_n 1, 1) := by decide +kernel
theorem dX6_finish_2 : decode cX6_finish 2 = .ok (.invokevirtual 43, 3) := by decide +kernel
theorem dX6_finish_5 : decode cX6_finish 5 = .ok (.ifCond .eq 17, 3) := by decide +kernel
theorem dX6_finish_8 : decode cX6_finish 8 = .ok (.aload_n 0, 1) := by decide +kernel
theorem dX6_finish_9 : decode cX6_finish 9 = .ok (.getfield 31, 3) := by decide +kernel
theorem dX6_finish_12 : decode cX6_finish 12 = .ok (.iload_n 1, 1) := by decide +kernel
theorem dX6_finish_13 : decode cX6_finish 13 = .ok (.iconst 2, 1) := by decide +kernel
theorem dX6_finish_14 : decode cX6_finish 14 = .ok (.iastore, 1) := by decide +kernel
theorem dX6_finish_15 : decode cX6_finish 15 = .ok (.aload_n 0, 1) := by decide +kernel
theorem dX6_finish_16 : decode cX6_finish 16 = .ok (.getfield 37, 3) := by decide +kernel
theorem dX6_finish_19 : decode cX6_finish 19 = .ok (.iload_n 1, 1) := by decide +kernel
theorem dX6_finish_20 : decode cX6_finish 20 = .ok (.iload_n 2, 1) := by decide +kernel
theorem dX6_finish_21 : decode cX6_finish 21 = .ok (.iastore, 1) := by decide +kernel
theorem dX6_finish_22 : decode cX6_finish 22 = .ok (.return_, 1) := by decide +kernel
theorem dX7_init_0 : decode cX7_init 0 = .ok (.aload_n 0, 1) := by decide +kernel
theorem dX7_init_1 : decode cX7_init 1 = .ok (.invokespecial 3, 3) := by decide +kernel
theorem dX7_init_4 : decode cX7_init 4 = .ok (.aload_n 0, 1) := by decide +kernel
theorem dX7_init_5 : decode cX7_init 5 = .ok (.iconst 4, 1) := by decide +kernel
theorem dX7_init_6 : decode cX7_init 6 = .ok (.newarray .int, 2) := by decide +kernel
theorem dX7_init_8 : decode cX7_init 8 = .ok (.putfield 9, 3) := by decide +kernel
theorem dX7_init_11 : decode cX7_init 11 = .ok (.aload_n 0, 1) := by decide +kernel
theorem dX7_init_12 : decode cX7_init 12 = .ok (.bipush 40, 2) := by decide +kernel
theorem dX7_init_14 : decode cX7_init 14 = .ok (.newarray .int, 2) := by decide +kernel
theorem dX7_init_16 : decode cX7_init 16 = .ok (.putfield 15, 3) := by decide +kernel
theorem dX7_init_19 : decode cX7_init 19 = .ok (.aload_n 0, 1) := by decide +kernel
theorem dX7_init_20 : decode cX7_init 20 = .ok (.bipush 40, 2) := by decide +kernel
theorem dX7_init_22 : decode cX7_init 22 = .ok (.newarray .int, 2) := by decide +kernel
theorem dX7_init_24 : decode cX7_init 24 = .ok (.putfield 18, 3) := by decide +kernel
theorem dX7_init_27 : decode cX7_init 27 = .ok (.aload_n 0, 1) := by decide +kernel
theorem dX7_init_28 : decode cX7_init 28 = .ok (.iconst 0, 1) := by decide +kernel
theorem dX7_init_29 : decode cX7_init 29 = .ok (.putfield 21, 3) := by decide +kernel
theorem dX7_init_32 : decode cX7_init 32 = .ok (.aload_n 0, 1) := by decide +kernel
theorem dX7_init_33 : decode cX7_init 33 = .ok (.iconst 0, 1) := by decide +kernel
theorem dX7_init_34 : decode cX7_init 34 = .ok (.putfield 25, 3) := by decide +kernel
theorem dX7_init_37 : decode cX7_init 37 = .ok (.aload_n 0, 1) := by decide +kernel
theorem dX7_init_38 : decode cX7_init 38 = .ok (.bipush 40, 2) := by decide +kernel
theorem dX7_init_40 : decode cX7_init 40 = .ok (.newarray .int, 2) := by decide +kernel
theorem dX7_init_42 : decode cX7_init 42 = .ok (.putfield 29, 3) := by decide +kernel
theorem dX7_init_45 : decode cX7_init 45 = .ok (.aload_n 0, 1) := by decide +kernel
theorem dX7_init_46 : decode cX7_init 46 = .ok (.iconst 0, 1) := by decide +kernel
theorem dX7_init_47 : decode cX7_init 47 = .ok (.putfield 32, 3) := by decide +kernel
theorem dX7_init_50 : decode cX7_init 50 = .ok (.return_, 1) := by decide +kernel
theorem dX7_startAnew_0 : decode cX7_startAnew 0 = .ok (.iconst 0, 1) := by decide +kernel
theorem dX7_startAnew_1 : decode cX7_startAnew 1 = .ok (.istore_n 1, 1) := by decide +kernel
theorem dX7_startAnew_2 : decode cX7_startAnew 2 = .ok (.iload_n 1, 1) := by decide +kernel
theorem dX7_startAnew_3 : decode cX7_startAnew 3 = .ok (.iconst 4, 1) := by decide +kernel
theorem dX7_startAnew_4 : decode cX7_startAnew 4 = .ok (.if_icmp .ge 16, 3) := by decide +kernel
theorem dX7_startAnew_7 : decode cX7_startAnew 7 = .ok (.aload_n 0, 1) := by decide +kernel
theorem dX7_startAnew_8 : decode cX7_startAnew 8 = .ok (.getfield 9, 3) := by decide +kernel
theorem dX7_startAnew_11 : decode cX7_startAnew 11 = .ok (.iload_n 1, 1) := by decide +kernel
theorem dX7_startAnew_12 : decode cX7_startAnew 12 = .ok (.iconst 0, 1) := by decide +kernel
theorem dX7_startAnew_13 : decode cX7_startAnew 13 = .ok (.iastore, 1) := by decide +kernel
theorem dX7_startAnew_14 : decode cX7_startAnew 14 = .ok (.iinc 1 1, 3) := by decide +kernel
theorem dX7_startAnew_17 : decode cX7_startAnew 17 = .ok (.goto (-15), 3) := by decide +kernel
theorem dX7_startAnew_20 : decode cX7_startAnew 20 = .ok (.iconst 0, 1) := by decide +kernel
theorem dX7_startAnew_21 : decode cX7_startAnew 21 = .ok (.istore_n 1, 1) := by decide +kernel
theorem dX7_startAnew_22 : decode cX7_startAnew 22 = .ok (.iload_n 1, 1) := by decide +kernel
theorem dX7_startAnew_23 : decode cX7_startAnew 23 = .ok (.bipush 40, 2) := by decide +kernel
theorem dX7_startAnew_25 : decode cX7_startAnew 25 = .ok (.if_icmp .ge 16, 3) := by decide +kernel
theorem dX7_startAnew_28 : decode cX7_startAnew 28 = .ok (.aload_n 0, 1) := by decide +kernel
theorem dX7_startAnew_29 : decode cX7_startAnew 29 = .ok (.getfield 15, 3) := by decide +kernel
theorem dX7_startAnew_32 : decode cX7_startAnew 32 = .ok (.iload_n 1, 1) := by decide +kernel
theorem dX7_startAnew_33 : decode cX7_startAnew 33 = .ok (.iconst 0, 1) := by decide +kernel
theorem dX7_startAnew_34 : decode cX7_startAnew 34 = .ok (.iastore, 1) := by decide +kernel
theorem dX7_startAnew_35 : decode cX7_startAnew 35 = .ok (.iinc 1 1, 3) := by decide +kernel
theorem dX7_startAnew_38 : decode cX7_startAnew 38 = .ok (.goto (-16), 3) := by decide +kernel
theorem dX7_startAnew_41 : decode cX7_startAnew 41 = .ok (.aload_n 0, 1) := by decide +kernel
theorem dX7_startAnew_42 : decode cX7_startAnew 42 = .ok (.invokevirtual 35, 3) := by decide +kernel
theorem dX7_startAnew_45 : decode cX7_startAnew 45 = .ok (.return_, 1) := by decide +kernel
theorem dX7_startFrom_0 : decode cX7_startFrom 0 = .ok (.aload_n 1, 1) := by decide +kernel
theorem dX7_startFrom_1 : decode cX7_startFrom 1 = .ok (.getfield 38, 3) := by decide +kernel
theorem dX7_startFrom_4 : decode cX7_startFrom 4 = .ok (.iconst 0, 1) := by decide +kernel
theorem dX7_startFrom_5 : decode cX7_startFrom 5 = .ok (.aload_n 0, 1) := by decide +kernel
theorem dX7_startFrom_6 : decode cX7_startFrom 6 = .ok (.getfield 9, 3) := by decide +kernel
theorem dX7_startFrom_9 : decode cX7_startFrom 9 = .ok (.iconst 0, 1) := by decide +kernel
theorem dX7_startFrom_10 : decode cX7_startFrom 10 = .ok (.iconst 4, 1) := by decide +kernel
theorem dX7_startFrom_11 : decode cX7_startFrom 11 = .ok (.invokestatic 41, 3) := by decide +kernel
theorem dX7_startFrom_14 : decode cX7_startFrom 14 = .ok (.aload_n 1, 1) := by decide +kernel
theorem dX7_startFrom_15 : decode cX7_startFrom 15 = .ok (.getfield 47, 3) := by decide +kernel
theorem dX7_startFrom_18 : decode cX7_startFrom 18 = .ok (.iconst 0, 1) := by decide +kernel
theorem dX7_startFrom_19 : decode cX7_startFrom 19 = .ok (.aload_n 0, 1) := by decide +kernel
theorem dX7_startFrom_20 : decode cX7_startFrom 20 = .ok (.getfield 15, 3) := by decide +kernel
theorem dX7_startFrom_23 : decode cX7_startFrom 23 = .ok (.iconst 0, 1) := by decide +kernel
theorem dX7_startFrom_24 : decode cX7_startFrom 24 = .ok (.bipush 40, 2) := by decide +kernel
theorem dX7_startFrom_26 : decode cX7_startFrom 26 = .ok (.invokestatic 41, 3) := by decide +kernel
theorem dX7_startFrom_29 : decode cX7_startFrom 29 = .ok (.aload_n 0, 1) := by decide +kernel
theorem dX7_startFrom_30 : decode cX7_startFrom 30 = .ok (.invokevirtual 35, 3) := by decide +kernel
theorem dX7_startFrom_33 : decode cX7_startFrom 33 = .ok (.return_, 1) := by decide +kernel
theorem dX7_forgetWhatCame_0 : decode cX7_forgetWhatCame 0 = .ok (.aload_n 0, 1) := by decide +kernel
theorem dX7_forgetWhatCame_1 : decode cX7_forgetWhatCame 1 = .ok (.iconst 0, 1) := by decide +kernel
theorem dX7_forgetWhatCame_2 : decode cX7_forgetWhatCame 2 = .ok (.putfield 21, 3) := by decide +kernel
theorem dX7_forgetWhatCame_5 : decode cX7_forgetWhatCame 5 = .ok (.aload_n 0, 1) := by decide +kernel
theorem dX7_forgetWhatCame_6 : decode cX7_forgetWhatCame 6 = .ok (.iconst 0, 1) := by decide +kernel
theorem dX7_forgetWhatCame_7 : decode cX7_forgetWhatCame 7 = .ok (.putfield 32, 3) := by decide +kernel
theorem dX7_forgetWhatCame_10 : decode cX7_forgetWhatCame 10 = .ok (.aload_n 0, 1) := by decide +kernel
theorem dX7_forgetWhatCame_11 : decode cX7_forgetWhatCame 11 = .ok (.iconst 0, 1) := by decide +kernel
theorem dX7_forgetWhatCame_12 : decode cX7_forgetWhatCame 12 = .ok (.putfield 25, 3) := by decide +kernel
theorem dX7_forgetWhatCame_15 : decode cX7_forgetWhatCame 15 = .ok (.return_, 1) := by decide +kernel
theorem dX7_put_0 : decode cX7_put 0 = .ok (.iload_n 1, 1) := by decide +kernel
theorem dX7_put_1 : decode cX7_put 1 = .ok (.ifCond .lt 15, 3) := by decide +kernel
theorem dX7_put_4 : decode cX7_put 4 = .ok (.iload_n 1, 1) := by decide +kernel
theorem dX7_put_5 : decode cX7_put 5 = .ok (.iconst 4, 1) := by decide +kernel
theorem dX7_put_6 : decode cX7_put 6 = .ok (.if_icmp .ge 10, 3) := by decide +kernel
theorem dX7_put_9 : decode cX7_put 9 = .ok (.aload_n 0, 1) := by decide +kernel
theorem dX7_put_10 : decode cX7_put 10 = .ok (.getfield 9, 3) := by decide +kernel
theorem dX7_put_13 : decode cX7_put 13 = .ok (.iload_n 1, 1) := by decide +kernel
theorem dX7_put_14 : decode cX7_put 14 = .ok (.iload_n 2, 1) := by decide +kernel
theorem dX7_put_15 : decode cX7_put 15 = .ok (.iastore, 1) := by decide +kernel
theorem dX7_put_16 : decode cX7_put 16 = .ok (.return_, 1) := by decide +kernel
theorem dX7_go_0 : decode cX7_go 0 = .ok (.iload_n 2, 1) := by decide +kernel
theorem dX7_go_1 : decode cX7_go 1 = .ok (.istore_n 3, 1) := by decide +kernel
theorem dX7_go_2 : decode cX7_go 2 = .ok (.iconst 0, 1) := by decide +kernel
theorem dX7_go_3 : decode cX7_go 3 = .ok (.istore 4, 2) := by decide +kernel
theorem dX7_go_5 : decode cX7_go 5 = .ok (.iload 4, 2) := by decide +kernel
theorem dX7_go_7 : decode cX7_go 7 = .ok (.sipush 1000, 3) := by decide +kernel
theorem dX7_go_10 : decode cX7_go 10 = .ok (.if_icmp .ge 31, 3) := by decide +kernel
theorem dX7_go_13 : decode cX7_go 13 = .ok (.iload_n 3, 1) := by decide +kernel
theorem dX7_go_14 : decode cX7_go 14 = .ok (.iconst (-1), 1) := by decide +kernel
theorem dX7_go_15 : decode cX7_go 15 = .ok (.if_icmp .eq 26, 3) := by decide +kernel
theorem dX7_go_18 : decode cX7_go 18 = .ok (.aload_n 0, 1) := by decide +kernel
theorem dX7_go_19 : decode cX7_go 19 = .ok (.aload_n 1, 1) := by decide +kernel
theorem dX7_go_20 : decode cX7_go 20 = .ok (.iload_n 3, 1) := by decide +kernel
theorem dX7_go_21 : decode cX7_go 21 = .ok (.invokevirtual 48, 3) := by decide +kernel
theorem dX7_go_24 : decode cX7_go 24 = .ok (.istore_n 3, 1) := by decide +kernel
theorem dX7_go_25 : decode cX7_go 25 = .ok (.iload_n 3, 1) := by decide +kernel
theorem dX7_go_26 : decode cX7_go 26 = .ok (.iconst (-1), 1) := by decide +kernel
theorem dX7_go_27 : decode cX7_go 27 = .ok (.if_icmp .ne 8, 3) := by decide +kernel
theorem dX7_go_30 : decode cX7_go 30 = .ok (.aload_n 0, 1) := by decide +kernel
theorem dX7_go_31 : decode cX7_go 31 = .ok (.invokevirtual 52, 3) := by decide +kernel
theorem dX7_go_34 : decode cX7_go 34 = .ok (.istore_n 3, 1) := by decide +kernel
theorem dX7_go_35 : decode cX7_go 35 = .ok (.iinc 4 1, 3) := by decide +kernel
theorem dX7_go_38 : decode cX7_go 38 = .ok (.goto (-33), 3) := by decide +kernel
theorem dX7_go_41 : decode cX7_go 41 = .ok (.return_, 1) := by decide +kernel
theorem dX7_follow_0 : decode cX7_follow 0 = .ok (.aload_n 1, 1) := by decide +kernel
theorem dX7_follow_1 : decode cX7_follow 1 = .ok (.iload_n 2, 1) := by decide +kernel
theorem dX7_follow_2 : decode cX7_follow 2 = .ok (.invokevirtual 56, 3) := by decide +kernel
theorem dX7_follow_5 : decode cX7_follow 5 = .ok (.ifCond .ne 5, 3) := by decide +kernel
theorem dX7_follow_8 : decode cX7_follow 8 = .ok (.iconst (-1), 1) := by decide +kernel
theorem dX7_follow_9 : decode cX7_follow 9 = .ok (.ireturn, 1) := by decide +kernel
theorem dX7_follow_10 : decode cX7_follow 10 = .ok (.aload_n 1, 1) := by decide +kernel
theorem dX7_follow_11 : decode cX7_follow 11 = .ok (.getfield 62, 3) := by decide +kernel
theorem dX7_follow_14 : decode cX7_follow 14 = .ok (.iload_n 2, 1) := by decide +kernel
theorem dX7_follow_15 : decode cX7_follow 15 = .ok (.iaload, 1) := by decide +kernel
theorem dX7_follow_16 : decode cX7_follow 16 = .ok (.istore_n 3, 1) := by decide +kernel
theorem dX7_follow_17 : decode cX7_follow 17 = .ok (.aload_n 1, 1) := by decide +kernel
theorem dX7_follow_18 : decode cX7_follow 18 = .ok (.getfield 65, 3) := by decide +kernel
theorem dX7_follow_21 : decode cX7_follow 21 = .ok (.iload_n 2, 1) := by decide +kernel
theorem dX7_follow_22 : decode cX7_follow 22 = .ok (.iaload, 1) := by decide +kernel
theorem dX7_follow_23 : decode cX7_follow 23 = .ok (.istore 4, 2) := by decide +kernel
theorem dX7_follow_25 : decode cX7_follow 25 = .ok (.aload_n 1, 1) := by decide +kernel
theorem dX7_follow_26 : decode cX7_follow 26 = .ok (.getfield 68, 3) := by decide +kernel
theorem dX7_follow_29 : decode cX7_follow 29 = .ok (.iload_n 2, 1) := by decide +kernel
theorem dX7_follow_30 : decode cX7_follow 30 = .ok (.iaload, 1) := by decide +kernel
theorem dX7_follow_31 : decode cX7_follow 31 = .ok (.istore 5, 2) := by decide +kernel
theorem dX7_follow_33 : decode cX7_follow 33 = .ok (.aload_n 1, 1) := by decide +kernel
theorem dX7_follow_34 : decode cX7_follow 34 = .ok (.getfield 71, 3) := by decide +kernel
theorem dX7_follow_37 : decode cX7_follow 37 = .ok (.iload_n 2, 1) := by decide +kernel
theorem dX7_follow_38 : decode cX7_follow 38 = .ok (.iaload, 1) := by decide +kernel
theorem dX7_follow_39 : decode cX7_follow 39 = .ok (.tableswitch 103 0 5 #[37, 44, 55, 74, 77, 88], 37) := by decide +kernel
theorem dX7_follow_76 : decode cX7_follow 76 = .ok (.aload_n 0, 1) := by decide +kernel
theorem dX7_follow_77 : decode cX7_follow 77 = .ok (.iload_n 3, 1) := by decide +kernel
theorem dX7_follow_78 : decode cX7_follow 78 = .ok (.invokevirtual 74, 3) := by decide +kernel
theorem dX7_follow_81 : decode cX7_follow 81 = .ok (.iconst (-1), 1) := by decide +kernel
theorem dX7_follow_82 : decode cX7_follow 82 = .ok (.ireturn, 1) := by decide +kernel
theorem dX7_follow_83 : decode cX7_follow 83 = .ok (.aload_n 0, 1) := by decide +kernel
theorem dX7_follow_84 : decode cX7_follow 84 = .ok (.iload_n 3, 1) := by decide +kernel
theorem dX7_follow_85 : decode cX7_follow 85 = .ok (.iload 4, 2) := by decide +kernel
theorem dX7_follow_87 : decode cX7_follow 87 = .ok (.invokevirtual 78, 3) := by decide +kernel
theorem dX7_follow_90 : decode cX7_follow 90 = .ok (.iload_n 2, 1) := by decide +kernel
theorem dX7_follow_91 : decode cX7_follow 91 = .ok (.iconst 1, 1) := by decide +kernel
theorem dX7_follow_92 : decode cX7_follow 92 = .ok (.iadd, 1) := by decide +kernel
theorem dX7_follow_93 : decode cX7_follow 93 = .ok (.ireturn, 1) := by decide +kernel
theorem dX7_follow_94 : decode cX7_follow 94 = .ok (.aload_n 0, 1) := by decide +kernel
theorem dX7_follow_95 : decode cX7_follow 95 = .ok (.iload_n 3, 1) := by decide +kernel
theorem dX7_follow_96 : decode cX7_follow 96 = .ok (.iload 4, 2) := by decide +kernel
theorem dX7_follow_98 : decode cX7_follow 98 = .ok (.invokevirtual 82, 3) := by decide +kernel
theorem dX7_follow_101 : decode cX7_follow 101 = .ok (.ifCond .eq 9, 3) := by decide +kernel
theorem dX7_follow_104 : decode cX7_follow 104 = .ok (.iload_n 2, 1) := by decide +kernel
theorem dX7_follow_105 : decode cX7_follow 105 = .ok (.iconst 1, 1) := by decide +kernel
theorem dX7_follow_106 : decode cX7_follow 106 = .ok (.iadd, 1) := by decide +kernel
theorem dX7_follow_107 : decode cX7_follow 107 = .ok (.goto 5, 3) := by decide +kernel
theorem dX7_follow_110 : decode cX7_follow 110 = .ok (.iload 5, 2) := by decide +kernel
theorem dX7_follow_112 : decode cX7_follow 112 = .ok (.ireturn, 1) := by decide +kernel
theorem dX7_follow_113 : decode cX7_follow 113 = .ok (.iload 5, 2) := by decide +kernel
theorem dX7_follow_115 : decode cX7_follow 115 = .ok (.ireturn, 1) := by decide +kernel
theorem dX7_follow_116 : decode cX7_follow 116 = .ok (.aload_n 0, 1) := by decide +kernel
theorem dX7_follow_117 : decode cX7_follow 117 = .ok (.iload_n 3, 1) := by decide +kernel
theorem dX7_follow_118 : decode cX7_follow 118 = .ok (.iload 5, 2) := by decide +kernel
theorem dX7_follow_120 : decode cX7_follow 120 = .ok (.invokevirtual 86, 3) := by decide +kernel
theorem dX7_follow_123 : decode cX7_follow 123 = .ok (.iload_n 2, 1) := by decide +kernel
theorem dX7_follow_124 : decode cX7_follow 124 = .ok (.iconst 1, 1) := by decide +kernel
theorem dX7_follow_125 : decode cX7_follow 125 = .ok (.iadd, 1) := by decide +kernel
theorem dX7_follow_126 : decode cX7_follow 126 = .ok (.ireturn, 1) := by decide +kernel
theorem dX7_follow_127 : decode cX7_follow 127 = .ok (.aload_n 0, 1) := by decide +kernel
theorem dX7_follow_128 : decode cX7_follow 128 = .ok (.iload_n 3, 1) := by decide +kernel
theorem dX7_follow_129 : decode cX7_follow 129 = .ok (.invokevirtual 89, 3) := by decide +kernel
theorem dX7_follow_132 : decode cX7_follow 132 = .ok (.ifCond .eq 8, 3) := by decide +kernel
theorem dX7_follow_135 : decode cX7_follow 135 = .ok (.iload 5, 2) := by decide +kernel
theorem dX7_follow_137 : decode cX7_follow 137 = .ok (.goto 4, 3) := by decide +kernel
theorem dX7_follow_140 : decode cX7_follow 140 = .ok (.iconst (-1), 1) := by decide +kernel
theorem dX7_follow_141 : decode cX7_follow 141 = .ok (.ireturn, 1) := by decide +kernel
theorem dX7_follow_142 : decode cX7_follow 142 = .ok (.aload_n 0, 1) := by decide +kernel
theorem dX7_follow_143 : decode cX7_follow 143 = .ok (.iconst 1, 1) := by decide +kernel
theorem dX7_follow_144 : decode cX7_follow 144 = .ok (.putfield 25, 3) := by decide +kernel
theorem dX7_follow_147 : decode cX7_follow 147 = .ok (.iconst (-1), 1) := by decide +kernel
theorem dX7_follow_148 : decode cX7_follow 148 = .ok (.ireturn, 1) := by decide +kernel
theorem dX7_nextSecondWay_0 : decode cX7_nextSecondWay 0 = .ok (.aload_n 0, 1) := by decide +kernel
theorem dX7_nextSecondWay_1 : decode cX7_nextSecondWay 1 = .ok (.getfield 32, 3) := by decide +kernel
theorem dX7_nextSecondWay_4 : decode cX7_nextSecondWay 4 = .ok (.ifCond .le 12, 3) := by decide +kernel
theorem dX7_nextSecondWay_7 : decode cX7_nextSecondWay 7 = .ok (.aload_n 0, 1) := by decide +kernel
theorem dX7_nextSecondWay_8 : decode cX7_nextSecondWay 8 = .ok (.getfield 32, 3) := by decide +kernel
theorem dX7_nextSecondWay_11 : decode cX7_nextSecondWay 11 = .ok (.bipush 40, 2) := by decide +kernel
theorem dX7_nextSecondWay_13 : decode cX7_nextSecondWay 13 = .ok (.if_icmp .le 5, 3) := by decide +kernel
theorem dX7_nextSecondWay_16 : decode cX7_nextSecondWay 16 = .ok (.iconst (-1), 1) := by decide +kernel
theorem dX7_nextSecondWay_17 : decode cX7_nextSecondWay 17 = .ok (.ireturn, 1) := by decide +kernel
theorem dX7_nextSecondWay_18 : decode cX7_nextSecondWay 18 = .ok (.aload_n 0, 1) := by decide +kernel
theorem dX7_nextSecondWay_19 : decode cX7_nextSecondWay 19 = .ok (.dup, 1) := by decide +kernel
theorem dX7_nextSecondWay_20 : decode cX7_nextSecondWay 20 = .ok (.getfield 32, 3) := by decide +kernel
theorem dX7_nextSecondWay_23 : decode cX7_nextSecondWay 23 = .ok (.iconst 1, 1) := by decide +kernel
theorem dX7_nextSecondWay_24 : decode cX7_nextSecondWay 24 = .ok (.isub, 1) := by decide +kernel
theorem dX7_nextSecondWay_25 : decode cX7_nextSecondWay 25 = .ok (.putfield 32, 3) := by decide +kernel
theorem dX7_nextSecondWay_28 : decode cX7_nextSecondWay 28 = .ok (.aload_n 0, 1) := by decide +kernel
theorem dX7_nextSecondWay_29 : decode cX7_nextSecondWay 29 = .ok (.getfield 29, 3) := by decide +kernel
theorem dX7_nextSecondWay_32 : decode cX7_nextSecondWay 32 = .ok (.aload_n 0, 1) := by decide +kernel
theorem dX7_nextSecondWay_33 : decode cX7_nextSecondWay 33 = .ok (.getfield 32, 3) := by decide +kernel
theorem dX7_nextSecondWay_36 : decode cX7_nextSecondWay 36 = .ok (.iaload, 1) := by decide +kernel
theorem dX7_nextSecondWay_37 : decode cX7_nextSecondWay 37 = .ok (.ireturn, 1) := by decide +kernel
theorem dX7_comeTo_0 : decode cX7_comeTo 0 = .ok (.aload_n 0, 1) := by decide +kernel
theorem dX7_comeTo_1 : decode cX7_comeTo 1 = .ok (.getfield 21, 3) := by decide +kernel
theorem dX7_comeTo_4 : decode cX7_comeTo 4 = .ok (.ifCond .lt 32, 3) := by decide +kernel
theorem dX7_comeTo_7 : decode cX7_comeTo 7 = .ok (.aload_n 0, 1) := by decide +kernel
theorem dX7_comeTo_8 : decode cX7_comeTo 8 = .ok (.getfield 21, 3) := by decide +kernel
theorem dX7_comeTo_11 : decode cX7_comeTo 11 = .ok (.bipush 40, 2) := by decide +kernel
theorem dX7_comeTo_13 : decode cX7_comeTo 13 = .ok (.if_icmp .ge 23, 3) := by decide +kernel
theorem dX7_comeTo_16 : decode cX7_comeTo 16 = .ok (.aload_n 0, 1) := by decide +kernel
theorem dX7_comeTo_17 : decode cX7_comeTo 17 = .ok (.getfield 18, 3) := by decide +kernel
theorem dX7_comeTo_20 : decode cX7_comeTo 20 = .ok (.aload_n 0, 1) := by decide +kernel
theorem dX7_comeTo_21 : decode cX7_comeTo 21 = .ok (.getfield 21, 3) := by decide +kernel
theorem dX7_comeTo_24 : decode cX7_comeTo 24 = .ok (.iload_n 1, 1) := by decide +kernel
theorem dX7_comeTo_25 : decode cX7_comeTo 25 = .ok (.iastore, 1) := by decide +kernel
theorem dX7_comeTo_26 : decode cX7_comeTo 26 = .ok (.aload_n 0, 1) := by decide +kernel
theorem dX7_comeTo_27 : decode cX7_comeTo 27 = .ok (.dup, 1) := by decide +kernel
theorem dX7_comeTo_28 : decode cX7_comeTo 28 = .ok (.getfield 21, 3) := by decide +kernel
theorem dX7_comeTo_31 : decode cX7_comeTo 31 = .ok (.iconst 1, 1) := by decide +kernel
theorem dX7_comeTo_32 : decode cX7_comeTo 32 = .ok (.iadd, 1) := by decide +kernel
theorem dX7_comeTo_33 : decode cX7_comeTo 33 = .ok (.putfield 21, 3) := by decide +kernel
theorem dX7_comeTo_36 : decode cX7_comeTo 36 = .ok (.return_, 1) := by decide +kernel
theorem dX7_isBelow_0 : decode cX7_isBelow 0 = .ok (.iload_n 1, 1) := by decide +kernel
theorem dX7_isBelow_1 : decode cX7_isBelow 1 = .ok (.ifCond .lt 22, 3) := by decide +kernel
theorem dX7_isBelow_4 : decode cX7_isBelow 4 = .ok (.iload_n 1, 1) := by decide +kernel
theorem dX7_isBelow_5 : decode cX7_isBelow 5 = .ok (.iconst 4, 1) := by decide +kernel
theorem dX7_isBelow_6 : decode cX7_isBelow 6 = .ok (.if_icmp .ge 17, 3) := by decide +kernel
theorem dX7_isBelow_9 : decode cX7_isBelow 9 = .ok (.aload_n 0, 1) := by decide +kernel
theorem dX7_isBelow_10 : decode cX7_isBelow 10 = .ok (.getfield 9, 3) := by decide +kernel
theorem dX7_isBelow_13 : decode cX7_isBelow 13 = .ok (.iload_n 1, 1) := by decide +kernel
theorem dX7_isBelow_14 : decode cX7_isBelow 14 = .ok (.iaload, 1) := by decide +kernel
theorem dX7_isBelow_15 : decode cX7_isBelow 15 = .ok (.iload_n 2, 1) := by decide +kernel
theorem dX7_isBelow_16 : decode cX7_isBelow 16 = .ok (.if_icmp .ge 7, 3) := by decide +kernel
theorem dX7_isBelow_19 : decode cX7_isBelow 19 = .ok (.iconst 1, 1) := by decide +kernel
theorem dX7_isBelow_20 : decode cX7_isBelow 20 = .ok (.goto 4, 3) := by decide +kernel
theorem dX7_isBelow_23 : decode cX7_isBelow 23 = .ok (.iconst 0, 1) := by decide +kernel
theorem dX7_isBelow_24 : decode cX7_isBelow 24 = .ok (.ireturn, 1) := by decide +kernel
theorem dX7_fork_0 : decode cX7_fork 0 = .ok (.iload_n 1, 1) := by decide +kernel
theorem dX7_fork_1 : decode cX7_fork 1 = .ok (.ifCond .lt 16, 3) := by decide +kernel
theorem dX7_fork_4 : decode cX7_fork 4 = .ok (.iload_n 1, 1) := by decide +kernel
theorem dX7_fork_5 : decode cX7_fork 5 = .ok (.bipush 40, 2) := by decide +kernel
theorem dX7_fork_7 : decode cX7_fork 7 = .ok (.if_icmp .ge 10, 3) := by decide +kernel
theorem dX7_fork_10 : decode cX7_fork 10 = .ok (.aload_n 0, 1) := by decide +kernel
theorem dX7_fork_11 : decode cX7_fork 11 = .ok (.getfield 15, 3) := by decide +kernel
theorem dX7_fork_14 : decode cX7_fork 14 = .ok (.iload_n 1, 1) := by decide +kernel
theorem dX7_fork_15 : decode cX7_fork 15 = .ok (.iconst 2, 1) := by decide +kernel
theorem dX7_fork_16 : decode cX7_fork 16 = .ok (.iastore, 1) := by decide +kernel
theorem dX7_fork_17 : decode cX7_fork 17 = .ok (.aload_n 0, 1) := by decide +kernel
theorem dX7_fork_18 : decode cX7_fork 18 = .ok (.getfield 32, 3) := by decide +kernel
theorem dX7_fork_21 : decode cX7_fork 21 = .ok (.ifCond .lt 32, 3) := by decide +kernel
theorem dX7_fork_24 : decode cX7_fork 24 = .ok (.aload_n 0, 1) := by decide +kernel
theorem dX7_fork_25 : decode cX7_fork 25 = .ok (.getfield 32, 3) := by decide +kernel
theorem dX7_fork_28 : decode cX7_fork 28 = .ok (.bipush 40, 2) := by decide +kernel
theorem dX7_fork_30 : decode cX7_fork 30 = .ok (.if_icmp .ge 23, 3) := by decide +kernel
theorem dX7_fork_33 : decode cX7_fork 33 = .ok (.aload_n 0, 1) := by decide +kernel
theorem dX7_fork_34 : decode cX7_fork 34 = .ok (.getfield 29, 3) := by decide +kernel
theorem dX7_fork_37 : decode cX7_fork 37 = .ok (.aload_n 0, 1) := by decide +kernel
theorem dX7_fork_38 : decode cX7_fork 38 = .ok (.getfield 32, 3) := by decide +kernel
theorem dX7_fork_41 : decode cX7_fork 41 = .ok (.iload_n 2, 1) := by decide +kernel
theorem dX7_fork_42 : decode cX7_fork 42 = .ok (.iastore, 1) := by decide +kernel
theorem dX7_fork_43 : decode cX7_fork 43 = .ok (.aload_n 0, 1) := by decide +kernel
theorem dX7_fork_44 : decode cX7_fork 44 = .ok (.dup, 1) := by decide +kernel
theorem dX7_fork_45 : decode cX7_fork 45 = .ok (.getfield 32, 3) := by decide +kernel
theorem dX7_fork_48 : decode cX7_fork 48 = .ok (.iconst 1, 1) := by decide +kernel
theorem dX7_fork_49 : decode cX7_fork 49 = .ok (.iadd, 1) := by decide +kernel
theorem dX7_fork_50 : decode cX7_fork 50 = .ok (.putfield 32, 3) := by decide +kernel
theorem dX7_fork_53 : decode cX7_fork 53 = .ok (.return_, 1) := by decide +kernel
theorem dX7_endsLastWay_0 : decode cX7_endsLastWay 0 = .ok (.iload_n 1, 1) := by decide +kernel
theorem dX7_endsLastWay_1 : decode cX7_endsLastWay 1 = .ok (.ifCond .lt 9, 3) := by decide +kernel
theorem dX7_endsLastWay_4 : decode cX7_endsLastWay 4 = .ok (.iload_n 1, 1) := by decide +kernel
theorem dX7_endsLastWay_5 : decode cX7_endsLastWay 5 = .ok (.bipush 40, 2) := by decide +kernel
theorem dX7_endsLastWay_7 : decode cX7_endsLastWay 7 = .ok (.if_icmp .lt 5, 3) := by decide +kernel
theorem dX7_endsLastWay_10 : decode cX7_endsLastWay 10 = .ok (.iconst 0, 1) := by decide +kernel
theorem dX7_endsLastWay_11 : decode cX7_endsLastWay 11 = .ok (.ireturn, 1) := by decide +kernel
theorem dX7_endsLastWay_12 : decode cX7_endsLastWay 12 = .ok (.aload_n 0, 1) := by decide +kernel
theorem dX7_endsLastWay_13 : decode cX7_endsLastWay 13 = .ok (.getfield 15, 3) := by decide +kernel
theorem dX7_endsLastWay_16 : decode cX7_endsLastWay 16 = .ok (.iload_n 1, 1) := by decide +kernel
theorem dX7_endsLastWay_17 : decode cX7_endsLastWay 17 = .ok (.dup2, 1) := by decide +kernel
theorem dX7_endsLastWay_18 : decode cX7_endsLastWay 18 = .ok (.iaload, 1) := by decide +kernel
theorem dX7_endsLastWay_19 : decode cX7_endsLastWay 19 = .ok (.iconst 1, 1) := by decide +kernel
theorem dX7_endsLastWay_20 : decode cX7_endsLastWay 20 = .ok (.isub, 1) := by decide +kernel
theorem dX7_endsLastWay_21 : decode cX7_endsLastWay 21 = .ok (.iastore, 1) := by decide +kernel
theorem dX7_endsLastWay_22 : decode cX7_endsLastWay 22 = .ok (.aload_n 0, 1) := by decide +kernel
theorem dX7_endsLastWay_23 : decode cX7_endsLastWay 23 = .ok (.getfield 15, 3) := by decide +kernel
theorem dX7_endsLastWay_26 : decode cX7_endsLastWay 26 = .ok (.iload_n 1, 1) := by decide +kernel
theorem dX7_endsLastWay_27 : decode cX7_endsLastWay 27 = .ok (.iaload, 1) := by decide +kernel
theorem dX7_endsLastWay_28 : decode cX7_endsLastWay 28 = .ok (.ifCond .ne 7, 3) := by decide +kernel
theorem dX7_endsLastWay_31 : decode cX7_endsLastWay 31 = .ok (.iconst 1, 1) := by decide +kernel
theorem dX7_endsLastWay_32 : decode cX7_endsLastWay 32 = .ok (.goto 4, 3) := by decide +kernel
theorem dX7_endsLastWay_35 : decode cX7_endsLastWay 35 = .ok (.iconst 0, 1) := by decide +kernel
theorem dX7_endsLastWay_36 : decode cX7_endsLastWay 36 = .ok (.ireturn, 1) := by decide +kernel
