theorem dX3_init_0 : decode cX3_init 0 = .ok (.aload_n 0, 1) := by decide +kernel
theorem dX3_init_1 : decode cX3_init 1 = .ok (.invokespecial 3, 3) := by decide +kernel
theorem dX3_init_4 : decode cX3_init 4 = .ok (.aload_n 0, 1) := by decide +kernel
theorem dX3_init_5 : decode cX3_init 5 = .ok (.new 9, 3) := by decide +kernel
theorem dX3_init_8 : decode cX3_init 8 = .ok (.dup, 1) := by decide +kernel
theorem dX3_init_9 : decode cX3_init 9 = .ok (.invokespecial 11, 3) := by decide +kernel
theorem dX3_init_12 : decode cX3_init 12 = .ok (.putfield 12, 3) := by decide +kernel
theorem dX3_init_15 : decode cX3_init 15 = .ok (.aload_n 0, 1) := by decide +kernel
theorem dX3_init_16 : decode cX3_init 16 = .ok (.iconst 0, 1) := by decide +kernel
theorem dX3_init_17 : decode cX3_init 17 = .ok (.putfield 18, 3) := by decide +kernel
theorem dX3_init_20 : decode cX3_init 20 = .ok (.aload_n 0, 1) := by decide +kernel
theorem dX3_init_21 : decode cX3_init 21 = .ok (.iconst (-1), 1) := by decide +kernel
theorem dX3_init_22 : decode cX3_init 22 = .ok (.putfield 22, 3) := by decide +kernel
theorem dX3_init_25 : decode cX3_init 25 = .ok (.aload_n 0, 1) := by decide +kernel
theorem dX3_init_26 : decode cX3_init 26 = .ok (.new 25, 3) := by decide +kernel
theorem dX3_init_29 : decode cX3_init 29 = .ok (.dup, 1) := by decide +kernel
theorem dX3_init_30 : decode cX3_init 30 = .ok (.invokespecial 27, 3) := by decide +kernel
theorem dX3_init_33 : decode cX3_init 33 = .ok (.putfield 28, 3) := by decide +kernel
theorem dX3_init_36 : decode cX3_init 36 = .ok (.aload_n 0, 1) := by decide +kernel
theorem dX3_init_37 : decode cX3_init 37 = .ok (.iconst 0, 1) := by decide +kernel
theorem dX3_init_38 : decode cX3_init 38 = .ok (.putfield 32, 3) := by decide +kernel
theorem dX3_init_41 : decode cX3_init 41 = .ok (.aload_n 0, 1) := by decide +kernel
theorem dX3_init_42 : decode cX3_init 42 = .ok (.iconst 0, 1) := by decide +kernel
theorem dX3_init_43 : decode cX3_init 43 = .ok (.putfield 36, 3) := by decide +kernel
theorem dX3_init_46 : decode cX3_init 46 = .ok (.aload_n 0, 1) := by decide +kernel
theorem dX3_init_47 : decode cX3_init 47 = .ok (.bipush 40, 2) := by decide +kernel
theorem dX3_init_49 : decode cX3_init 49 = .ok (.newarray .int, 2) := by decide +kernel
theorem dX3_init_51 : decode cX3_init 51 = .ok (.putfield 39, 3) := by decide +kernel
theorem dX3_init_54 : decode cX3_init 54 = .ok (.aload_n 0, 1) := by decide +kernel
theorem dX3_init_55 : decode cX3_init 55 = .ok (.iconst 0, 1) := by decide +kernel
theorem dX3_init_56 : decode cX3_init 56 = .ok (.putfield 43, 3) := by decide +kernel
theorem dX3_init_59 : decode cX3_init 59 = .ok (.aload_n 0, 1) := by decide +kernel
theorem dX3_init_60 : decode cX3_init 60 = .ok (.iconst 4, 1) := by decide +kernel
theorem dX3_init_61 : decode cX3_init 61 = .ok (.newarray .int, 2) := by decide +kernel
theorem dX3_init_63 : decode cX3_init 63 = .ok (.putfield 46, 3) := by decide +kernel
theorem dX3_init_66 : decode cX3_init 66 = .ok (.aload_n 0, 1) := by decide +kernel
theorem dX3_init_67 : decode cX3_init 67 = .ok (.iconst 4, 1) := by decide +kernel
theorem dX3_init_68 : decode cX3_init 68 = .ok (.newarray .int, 2) := by decide +kernel
theorem dX3_init_70 : decode cX3_init 70 = .ok (.putfield 49, 3) := by decide +kernel
theorem dX3_init_73 : decode cX3_init 73 = .ok (.aload_n 0, 1) := by decide +kernel
theorem dX3_init_74 : decode cX3_init 74 = .ok (.iconst 4, 1) := by decide +kernel
theorem dX3_init_75 : decode cX3_init 75 = .ok (.newarray .int, 2) := by decide +kernel
theorem dX3_init_77 : decode cX3_init 77 = .ok (.putfield 52, 3) := by decide +kernel
theorem dX3_init_80 : decode cX3_init 80 = .ok (.aload_n 0, 1) := by decide +kernel
theorem dX3_init_81 : decode cX3_init 81 = .ok (.iconst 4, 1) := by decide +kernel
theorem dX3_init_82 : decode cX3_init 82 = .ok (.newarray .boolean, 2) := by decide +kernel
theorem dX3_init_84 : decode cX3_init 84 = .ok (.putfield 55, 3) := by decide +kernel
theorem dX3_init_87 : decode cX3_init 87 = .ok (.aload_n 0, 1) := by decide +kernel
theorem dX3_init_88 : decode cX3_init 88 = .ok (.iconst 4, 1) := by decide +kernel
theorem dX3_init_89 : decode cX3_init 89 = .ok (.newarray .boolean, 2) := by decide +kernel
theorem dX3_init_91 : decode cX3_init 91 = .ok (.putfield 59, 3) := by decide +kernel
theorem dX3_init_94 : decode cX3_init 94 = .ok (.aload_n 0, 1) := by decide +kernel
theorem dX3_init_95 : decode cX3_init 95 = .ok (.iconst 5, 1) := by decide +kernel
theorem dX3_init_96 : decode cX3_init 96 = .ok (.newarray .boolean, 2) := by decide +kernel
theorem dX3_init_98 : decode cX3_init 98 = .ok (.putfield 62, 3) := by decide +kernel
theorem dX3_init_101 : decode cX3_init 101 = .ok (.return_, 1) := by decide +kernel
theorem dX3_read_0 : decode cX3_read 0 = .ok (.aload_n 0, 1) := by decide +kernel
theorem dX3_read_1 : decode cX3_read 1 = .ok (.invokevirtual 65, 3) := by decide +kernel
theorem dX3_read_4 : decode cX3_read 4 = .ok (.iconst 0, 1) := by decide +kernel
theorem dX3_read_5 : decode cX3_read 5 = .ok (.istore_n 1, 1) := by decide +kernel
theorem dX3_read_6 : decode cX3_read 6 = .ok (.iload_n 1, 1) := by decide +kernel
theorem dX3_read_7 : decode cX3_read 7 = .ok (.sipush 300, 3) := by decide +kernel
theorem dX3_read_10 : decode cX3_read 10 = .ok (.if_icmp .gt 93, 3) := by decide +kernel
theorem dX3_read_13 : decode cX3_read 13 = .ok (.aload_n 0, 1) := by decide +kernel
theorem dX3_read_14 : decode cX3_read 14 = .ok (.getfield 18, 3) := by decide +kernel
theorem dX3_read_17 : decode cX3_read 17 = .ok (.ifCond .ne 86, 3) := by decide +kernel
theorem dX3_read_20 : decode cX3_read 20 = .ok (.aload_n 0, 1) := by decide +kernel
theorem dX3_read_21 : decode cX3_read 21 = .ok (.getfield 32, 3) := by decide +kernel
theorem dX3_read_24 : decode cX3_read 24 = .ok (.ifCond .ne 79, 3) := by decide +kernel
theorem dX3_read_27 : decode cX3_read 27 = .ok (.aload_n 0, 1) := by decide +kernel
theorem dX3_read_28 : decode cX3_read 28 = .ok (.getfield 12, 3) := by decide +kernel
theorem dX3_read_31 : decode cX3_read 31 = .ok (.getfield 68, 3) := by decide +kernel
theorem dX3_read_34 : decode cX3_read 34 = .ok (.bipush 12, 2) := by decide +kernel
theorem dX3_read_36 : decode cX3_read 36 = .ok (.if_icmp .ne 17, 3) := by decide +kernel
theorem dX3_read_39 : decode cX3_read 39 = .ok (.aload_n 0, 1) := by decide +kernel
theorem dX3_read_40 : decode cX3_read 40 = .ok (.getfield 43, 3) := by decide +kernel
theorem dX3_read_43 : decode cX3_read 43 = .ok (.ifCond .le 10, 3) := by decide +kernel
theorem dX3_read_46 : decode cX3_read 46 = .ok (.aload_n 0, 1) := by decide +kernel
theorem dX3_read_47 : decode cX3_read 47 = .ok (.invokevirtual 71, 3) := by decide +kernel
theorem dX3_read_50 : decode cX3_read 50 = .ok (.goto 47, 3) := by decide +kernel
theorem dX3_read_53 : decode cX3_read 53 = .ok (.aload_n 0, 1) := by decide +kernel
theorem dX3_read_54 : decode cX3_read 54 = .ok (.getfield 12, 3) := by decide +kernel
theorem dX3_read_57 : decode cX3_read 57 = .ok (.getfield 68, 3) := by decide +kernel
theorem dX3_read_60 : decode cX3_read 60 = .ok (.bipush 15, 2) := by decide +kernel
theorem dX3_read_62 : decode cX3_read 62 = .ok (.if_icmp .ne 31, 3) := by decide +kernel
theorem dX3_read_65 : decode cX3_read 65 = .ok (.aload_n 0, 1) := by decide +kernel
theorem dX3_read_66 : decode cX3_read 66 = .ok (.getfield 43, 3) := by decide +kernel
theorem dX3_read_69 : decode cX3_read 69 = .ok (.ifCond .ne 24, 3) := by decide +kernel
theorem dX3_read_72 : decode cX3_read 72 = .ok (.aload_n 0, 1) := by decide +kernel
theorem dX3_read_73 : decode cX3_read 73 = .ok (.getfield 28, 3) := by decide +kernel
theorem dX3_read_76 : decode cX3_read 76 = .ok (.bipush 6, 2) := by decide +kernel
theorem dX3_read_78 : decode cX3_read 78 = .ok (.iconst 0, 1) := by decide +kernel
theorem dX3_read_79 : decode cX3_read 79 = .ok (.iconst 0, 1) := by decide +kernel
theorem dX3_read_80 : decode cX3_read 80 = .ok (.iconst 0, 1) := by decide +kernel
theorem dX3_read_81 : decode cX3_read 81 = .ok (.invokevirtual 74, 3) := by decide +kernel
theorem dX3_read_84 : decode cX3_read 84 = .ok (.pop, 1) := by decide +kernel
theorem dX3_read_85 : decode cX3_read 85 = .ok (.aload_n 0, 1) := by decide +kernel
theorem dX3_read_86 : decode cX3_read 86 = .ok (.iconst 1, 1) := by decide +kernel
theorem dX3_read_87 : decode cX3_read 87 = .ok (.putfield 32, 3) := by decide +kernel
theorem dX3_read_90 : decode cX3_read 90 = .ok (.goto 7, 3) := by decide +kernel
theorem dX3_read_93 : decode cX3_read 93 = .ok (.aload_n 0, 1) := by decide +kernel
theorem dX3_read_94 : decode cX3_read 94 = .ok (.invokevirtual 78, 3) := by decide +kernel
theorem dX3_read_97 : decode cX3_read 97 = .ok (.iinc 1 1, 3) := by decide +kernel
theorem dX3_read_100 : decode cX3_read 100 = .ok (.goto (-94), 3) := by decide +kernel
theorem dX3_read_103 : decode cX3_read 103 = .ok (.aload_n 0, 1) := by decide +kernel
theorem dX3_read_104 : decode cX3_read 104 = .ok (.getfield 32, 3) := by decide +kernel
theorem dX3_read_107 : decode cX3_read 107 = .ok (.ifCond .ne 5, 3) := by decide +kernel
theorem dX3_read_110 : decode cX3_read 110 = .ok (.aconst_null, 1) := by decide +kernel
theorem dX3_read_111 : decode cX3_read 111 = .ok (.areturn, 1) := by decide +kernel
theorem dX3_read_112 : decode cX3_read 112 = .ok (.aload_n 0, 1) := by decide +kernel
theorem dX3_read_113 : decode cX3_read 113 = .ok (.getfield 28, 3) := by decide +kernel
theorem dX3_read_116 : decode cX3_read 116 = .ok (.astore_n 1, 1) := by decide +kernel
theorem dX3_read_117 : decode cX3_read 117 = .ok (.aload_n 0, 1) := by decide +kernel
theorem dX3_read_118 : decode cX3_read 118 = .ok (.new 25, 3) := by decide +kernel
theorem dX3_read_121 : decode cX3_read 121 = .ok (.dup, 1) := by decide +kernel
theorem dX3_read_122 : decode cX3_read 122 = .ok (.invokespecial 27, 3) := by decide +kernel
theorem dX3_read_125 : decode cX3_read 125 = .ok (.putfield 28, 3) := by decide +kernel
theorem dX3_read_128 : decode cX3_read 128 = .ok (.aload_n 1, 1) := by decide +kernel
theorem dX3_read_129 : decode cX3_read 129 = .ok (.areturn, 1) := by decide +kernel
theorem dX3_begin_0 : decode cX3_begin 0 = .ok (.aload_n 0, 1) := by decide +kernel
theorem dX3_begin_1 : decode cX3_begin 1 = .ok (.iconst 0, 1) := by decide +kernel
theorem dX3_begin_2 : decode cX3_begin 2 = .ok (.putfield 18, 3) := by decide +kernel
theorem dX3_begin_5 : decode cX3_begin 5 = .ok (.aload_n 0, 1) := by decide +kernel
theorem dX3_begin_6 : decode cX3_begin 6 = .ok (.iconst (-1), 1) := by decide +kernel
theorem dX3_begin_7 : decode cX3_begin 7 = .ok (.putfield 22, 3) := by decide +kernel
theorem dX3_begin_10 : decode cX3_begin 10 = .ok (.aload_n 0, 1) := by decide +kernel
theorem dX3_begin_11 : decode cX3_begin 11 = .ok (.iconst 0, 1) := by decide +kernel
theorem dX3_begin_12 : decode cX3_begin 12 = .ok (.putfield 32, 3) := by decide +kernel
theorem dX3_begin_15 : decode cX3_begin 15 = .ok (.aload_n 0, 1) := by decide +kernel
theorem dX3_begin_16 : decode cX3_begin 16 = .ok (.iconst 0, 1) := by decide +kernel
theorem dX3_begin_17 : decode cX3_begin 17 = .ok (.putfield 36, 3) := by decide +kernel
theorem dX3_begin_20 : decode cX3_begin 20 = .ok (.aload_n 0, 1) := by decide +kernel
theorem dX3_begin_21 : decode cX3_begin 21 = .ok (.iconst 0, 1) := by decide +kernel
theorem dX3_begin_22 : decode cX3_begin 22 = .ok (.putfield 43, 3) := by decide +kernel
theorem dX3_begin_25 : decode cX3_begin 25 = .ok (.aload_n 0, 1) := by decide +kernel
theorem dX3_begin_26 : decode cX3_begin 26 = .ok (.getfield 62, 3) := by decide +kernel
theorem dX3_begin_29 : decode cX3_begin 29 = .ok (.iconst 0, 1) := by decide +kernel
theorem dX3_begin_30 : decode cX3_begin 30 = .ok (.iconst 0, 1) := by decide +kernel
theorem dX3_begin_31 : decode cX3_begin 31 = .ok (.bastore, 1) := by decide +kernel
theorem dX3_begin_32 : decode cX3_begin 32 = .ok (.aload_n 0, 1) := by decide +kernel
theorem dX3_begin_33 : decode cX3_begin 33 = .ok (.getfield 28, 3) := by decide +kernel
theorem dX3_begin_36 : decode cX3_begin 36 = .ok (.invokevirtual 81, 3) := by decide +kernel
theorem dX3_begin_39 : decode cX3_begin 39 = .ok (.aload_n 0, 1) := by decide +kernel
theorem dX3_begin_40 : decode cX3_begin 40 = .ok (.getfield 12, 3) := by decide +kernel
theorem dX3_begin_43 : decode cX3_begin 43 = .ok (.invokevirtual 84, 3) := by decide +kernel
theorem dX3_begin_46 : decode cX3_begin 46 = .ok (.return_, 1) := by decide +kernel
theorem dX3_fail_0 : decode cX3_fail 0 = .ok (.aload_n 0, 1) := by decide +kernel
theorem dX3_fail_1 : decode cX3_fail 1 = .ok (.getfield 18, 3) := by decide +kernel
theorem dX3_fail_4 : decode cX3_fail 4 = .ok (.ifCond .ne 19, 3) := by decide +kernel
theorem dX3_fail_7 : decode cX3_fail 7 = .ok (.aload_n 0, 1) := by decide +kernel
theorem dX3_fail_8 : decode cX3_fail 8 = .ok (.iload_n 1, 1) := by decide +kernel
theorem dX3_fail_9 : decode cX3_fail 9 = .ok (.putfield 18, 3) := by decide +kernel
theorem dX3_fail_12 : decode cX3_fail 12 = .ok (.aload_n 0, 1) := by decide +kernel
theorem dX3_fail_13 : decode cX3_fail 13 = .ok (.aload_n 0, 1) := by decide +kernel
theorem dX3_fail_14 : decode cX3_fail 14 = .ok (.getfield 12, 3) := by decide +kernel
theorem dX3_fail_17 : decode cX3_fail 17 = .ok (.getfield 87, 3) := by decide +kernel
theorem dX3_fail_20 : decode cX3_fail 20 = .ok (.putfield 22, 3) := by decide +kernel
theorem dX3_fail_23 : decode cX3_fail 23 = .ok (.return_, 1) := by decide +kernel
theorem dX3_readStep_0 : decode cX3_readStep 0 = .ok (.aload_n 0, 1) := by decide +kernel
theorem dX3_readStep_1 : decode cX3_readStep 1 = .ok (.getfield 12, 3) := by decide +kernel
theorem dX3_readStep_4 : decode cX3_readStep 4 = .ok (.getfield 68, 3) := by decide +kernel
theorem dX3_readStep_7 : decode cX3_readStep 7 = .ok (.istore_n 1, 1) := by decide +kernel
theorem dX3_readStep_8 : decode cX3_readStep 8 = .ok (.iload_n 1, 1) := by decide +kernel
theorem dX3_readStep_9 : decode cX3_readStep 9 = .ok (.iconst 4, 1) := by decide +kernel
theorem dX3_readStep_10 : decode cX3_readStep 10 = .ok (.if_icmp .eq 14, 3) := by decide +kernel
theorem dX3_readStep_13 : decode cX3_readStep 13 = .ok (.iload_n 1, 1) := by decide +kernel
theorem dX3_readStep_14 : decode cX3_readStep 14 = .ok (.iconst 5, 1) := by decide +kernel
theorem dX3_readStep_15 : decode cX3_readStep 15 = .ok (.if_icmp .eq 9, 3) := by decide +kernel
theorem dX3_readStep_18 : decode cX3_readStep 18 = .ok (.iload_n 1, 1) := by decide +kernel
theorem dX3_readStep_19 : decode cX3_readStep 19 = .ok (.bipush 7, 2) := by decide +kernel
theorem dX3_readStep_21 : decode cX3_readStep 21 = .ok (.if_icmp .ne 7, 3) := by decide +kernel
theorem dX3_readStep_24 : decode cX3_readStep 24 = .ok (.iconst 1, 1) := by decide +kernel
theorem dX3_readStep_25 : decode cX3_readStep 25 = .ok (.goto 4, 3) := by decide +kernel
theorem dX3_readStep_28 : decode cX3_readStep 28 = .ok (.iconst 0, 1) := by decide +kernel
theorem dX3_readStep_29 : decode cX3_readStep 29 = .ok (.istore_n 2, 1) := by decide +kernel
theorem dX3_readStep_30 : decode cX3_readStep 30 = .ok (.iload_n 2, 1) := by decide +kernel
theorem dX3_readStep_31 : decode cX3_readStep 31 = .ok (.ifCond .ne 19, 3) := by decide +kernel
theorem dX3_readStep_34 : decode cX3_readStep 34 = .ok (.iload_n 1, 1) := by decide +kernel
theorem dX3_readStep_35 : decode cX3_readStep 35 = .ok (.ifCond .eq 15, 3) := by decide +kernel
theorem dX3_readStep_38 : decode cX3_readStep 38 = .ok (.iload_n 1, 1) := by decide +kernel
theorem dX3_readStep_39 : decode cX3_readStep 39 = .ok (.bipush 8, 2) := by decide +kernel
theorem dX3_readStep_41 : decode cX3_readStep 41 = .ok (.if_icmp .eq 9, 3) := by decide +kernel
theorem dX3_readStep_44 : decode cX3_readStep 44 = .ok (.aload_n 0, 1) := by decide +kernel
theorem dX3_readStep_45 : decode cX3_readStep 45 = .ok (.iconst 1, 1) := by decide +kernel
theorem dX3_readStep_46 : decode cX3_readStep 46 = .ok (.invokevirtual 90, 3) := by decide +kernel
theorem dX3_readStep_49 : decode cX3_readStep 49 = .ok (.return_, 1) := by decide +kernel
theorem dX3_readStep_50 : decode cX3_readStep 50 = .ok (.aload_n 0, 1) := by decide +kernel
theorem dX3_readStep_51 : decode cX3_readStep 51 = .ok (.getfield 28, 3) := by decide +kernel
theorem dX3_readStep_54 : decode cX3_readStep 54 = .ok (.getfield 94, 3) := by decide +kernel
theorem dX3_readStep_57 : decode cX3_readStep 57 = .ok (.bipush 40, 2) := by decide +kernel
theorem dX3_readStep_59 : decode cX3_readStep 59 = .ok (.if_icmp .ge 15, 3) := by decide +kernel
theorem dX3_readStep_62 : decode cX3_readStep 62 = .ok (.iload_n 2, 1) := by decide +kernel
theorem dX3_readStep_63 : decode cX3_readStep 63 = .ok (.ifCond .eq 17, 3) := by decide +kernel
theorem dX3_readStep_66 : decode cX3_readStep 66 = .ok (.aload_n 0, 1) := by decide +kernel
theorem dX3_readStep_67 : decode cX3_readStep 67 = .ok (.getfield 43, 3) := by decide +kernel
theorem dX3_readStep_70 : decode cX3_readStep 70 = .ok (.iconst 4, 1) := by decide +kernel
theorem dX3_readStep_71 : decode cX3_readStep 71 = .ok (.if_icmp .lt 9, 3) := by decide +kernel
theorem dX3_readStep_74 : decode cX3_readStep 74 = .ok (.aload_n 0, 1) := by decide +kernel
theorem dX3_readStep_75 : decode cX3_readStep 75 = .ok (.iconst 4, 1) := by decide +kernel
theorem dX3_readStep_76 : decode cX3_readStep 76 = .ok (.invokevirtual 90, 3) := by decide +kernel
theorem dX3_readStep_79 : decode cX3_readStep 79 = .ok (.return_, 1) := by decide +kernel
theorem dX3_readStep_80 : decode cX3_readStep 80 = .ok (.aload_n 0, 1) := by decide +kernel
theorem dX3_readStep_81 : decode cX3_readStep 81 = .ok (.getfield 28, 3) := by decide +kernel
theorem dX3_readStep_84 : decode cX3_readStep 84 = .ok (.dup, 1) := by decide +kernel
theorem dX3_readStep_85 : decode cX3_readStep 85 = .ok (.getfield 94, 3) := by decide +kernel
theorem dX3_readStep_88 : decode cX3_readStep 88 = .ok (.iconst 1, 1) := by decide +kernel
theorem dX3_readStep_89 : decode cX3_readStep 89 = .ok (.iadd, 1) := by decide +kernel
theorem dX3_readStep_90 : decode cX3_readStep 90 = .ok (.putfield 94, 3) := by decide +kernel
theorem dX3_readStep_93 : decode cX3_readStep 93 = .ok (.aload_n 0, 1) := by decide +kernel
theorem dX3_readStep_94 : decode cX3_readStep 94 = .ok (.getfield 12, 3) := by decide +kernel
theorem dX3_readStep_97 : decode cX3_readStep 97 = .ok (.invokevirtual 97, 3) := by decide +kernel
theorem dX3_readStep_100 : decode cX3_readStep 100 = .ok (.iload_n 1, 1) := by decide +kernel
theorem dX3_readStep_101 : decode cX3_readStep 101 = .ok (.tableswitch 92 0 8 #[51, 92, 92, 92, 65, 80, 92, 92, 58], 51) := by decide +kernel
theorem dX3_readStep_152 : decode cX3_readStep 152 = .ok (.aload_n 0, 1) := by decide +kernel
theorem dX3_readStep_153 : decode cX3_readStep 153 = .ok (.invokevirtual 100, 3) := by decide +kernel
theorem dX3_readStep_156 : decode cX3_readStep 156 = .ok (.goto 66, 3) := by decide +kernel
theorem dX3_readStep_159 : decode cX3_readStep 159 = .ok (.aload_n 0, 1) := by decide +kernel
theorem dX3_readStep_160 : decode cX3_readStep 160 = .ok (.invokevirtual 103, 3) := by decide +kernel
theorem dX3_readStep_163 : decode cX3_readStep 163 = .ok (.goto 59, 3) := by decide +kernel
theorem dX3_readStep_166 : decode cX3_readStep 166 = .ok (.aload_n 0, 1) := by decide +kernel
theorem dX3_readStep_167 : decode cX3_readStep 167 = .ok (.iload_n 1, 1) := by decide +kernel
theorem dX3_readStep_168 : decode cX3_readStep 168 = .ok (.aload_n 0, 1) := by decide +kernel
theorem dX3_readStep_169 : decode cX3_readStep 169 = .ok (.getfield 28, 3) := by decide +kernel
theorem dX3_readStep_172 : decode cX3_readStep 172 = .ok (.invokevirtual 106, 3) := by decide +kernel
theorem dX3_readStep_175 : decode cX3_readStep 175 = .ok (.invokevirtual 110, 3) := by decide +kernel
theorem dX3_readStep_178 : decode cX3_readStep 178 = .ok (.goto 44, 3) := by decide +kernel
theorem dX3_readStep_181 : decode cX3_readStep 181 = .ok (.aload_n 0, 1) := by decide +kernel
theorem dX3_readStep_182 : decode cX3_readStep 182 = .ok (.iload_n 1, 1) := by decide +kernel
theorem dX3_readStep_183 : decode cX3_readStep 183 = .ok (.aload_n 0, 1) := by decide +kernel
theorem dX3_readStep_184 : decode cX3_readStep 184 = .ok (.invokevirtual 114, 3) := by decide +kernel
theorem dX3_readStep_187 : decode cX3_readStep 187 = .ok (.invokevirtual 110, 3) := by decide +kernel
theorem dX3_readStep_190 : decode cX3_readStep 190 = .ok (.goto 32, 3) := by decide +kernel
theorem dX3_readStep_193 : decode cX3_readStep 193 = .ok (.aload_n 0, 1) := by decide +kernel
theorem dX3_readStep_194 : decode cX3_readStep 194 = .ok (.getfield 28, 3) := by decide +kernel
theorem dX3_readStep_197 : decode cX3_readStep 197 = .ok (.iconst 3, 1) := by decide +kernel
theorem dX3_readStep_198 : decode cX3_readStep 198 = .ok (.iconst 0, 1) := by decide +kernel
theorem dX3_readStep_199 : decode cX3_readStep 199 = .ok (.iconst 0, 1) := by decide +kernel
theorem dX3_readStep_200 : decode cX3_readStep 200 = .ok (.aload_n 0, 1) := by decide +kernel
theorem dX3_readStep_201 : decode cX3_readStep 201 = .ok (.getfield 28, 3) := by decide +kernel
theorem dX3_readStep_204 : decode cX3_readStep 204 = .ok (.getfield 117, 3) := by decide +kernel
theorem dX3_readStep_207 : decode cX3_readStep 207 = .ok (.iconst 2, 1) := by decide +kernel
theorem dX3_readStep_208 : decode cX3_readStep 208 = .ok (.iadd, 1) := by decide +kernel
theorem dX3_readStep_209 : decode cX3_readStep 209 = .ok (.invokevirtual 74, 3) := by decide +kernel
theorem dX3_readStep_212 : decode cX3_readStep 212 = .ok (.pop, 1) := by decide +kernel
theorem dX3_readStep_213 : decode cX3_readStep 213 = .ok (.aload_n 0, 1) := by decide +kernel
theorem dX3_readStep_214 : decode cX3_readStep 214 = .ok (.iload_n 1, 1) := by decide +kernel
theorem dX3_readStep_215 : decode cX3_readStep 215 = .ok (.aload_n 0, 1) := by decide +kernel
theorem dX3_readStep_216 : decode cX3_readStep 216 = .ok (.invokevirtual 114, 3) := by decide +kernel
theorem dX3_readStep_219 : decode cX3_readStep 219 = .ok (.invokevirtual 110, 3) := by decide +kernel
theorem dX3_readStep_222 : decode cX3_readStep 222 = .ok (.return_, 1) := by decide +kernel
theorem dX3_readDo_0 : decode cX3_readDo 0 = .ok (.aload_n 0, 1) := by decide +kernel
theorem dX3_readDo_1 : decode cX3_readDo 1 = .ok (.invokevirtual 120, 3) := by decide +kernel
theorem dX3_readDo_4 : decode cX3_readDo 4 = .ok (.aload_n 0, 1) := by decide +kernel
theorem dX3_readDo_5 : decode cX3_readDo 5 = .ok (.iconst 1, 1) := by decide +kernel
theorem dX3_readDo_6 : decode cX3_readDo 6 = .ok (.invokevirtual 123, 3) := by decide +kernel
theorem dX3_readDo_9 : decode cX3_readDo 9 = .ok (.aload_n 0, 1) := by decide +kernel
theorem dX3_readDo_10 : decode cX3_readDo 10 = .ok (.iconst 0, 1) := by decide +kernel
theorem dX3_readDo_11 : decode cX3_readDo 11 = .ok (.iconst 5, 1) := by decide +kernel
theorem dX3_readDo_12 : decode cX3_readDo 12 = .ok (.invokevirtual 126, 3) := by decide +kernel
theorem dX3_readDo_15 : decode cX3_readDo 15 = .ok (.istore_n 1, 1) := by decide +kernel
theorem dX3_readDo_16 : decode cX3_readDo 16 = .ok (.aload_n 0, 1) := by decide +kernel
theorem dX3_readDo_17 : decode cX3_readDo 17 = .ok (.iconst 2, 1) := by decide +kernel
theorem dX3_readDo_18 : decode cX3_readDo 18 = .ok (.invokevirtual 123, 3) := by decide +kernel
theorem dX3_readDo_21 : decode cX3_readDo 21 = .ok (.aload_n 0, 1) := by decide +kernel
theorem dX3_readDo_22 : decode cX3_readDo 22 = .ok (.iconst 1, 1) := by decide +kernel
theorem dX3_readDo_23 : decode cX3_readDo 23 = .ok (.bipush 99, 2) := by decide +kernel
theorem dX3_readDo_25 : decode cX3_readDo 25 = .ok (.invokevirtual 126, 3) := by decide +kernel
theorem dX3_readDo_28 : decode cX3_readDo 28 = .ok (.istore_n 2, 1) := by decide +kernel
theorem dX3_readDo_29 : decode cX3_readDo 29 = .ok (.aload_n 0, 1) := by decide +kernel
theorem dX3_readDo_30 : decode cX3_readDo 30 = .ok (.getfield 12, 3) := by decide +kernel
theorem dX3_readDo_33 : decode cX3_readDo 33 = .ok (.getfield 68, 3) := by decide +kernel
theorem dX3_readDo_36 : decode cX3_readDo 36 = .ok (.iconst 3, 1) := by decide +kernel
theorem dX3_readDo_37 : decode cX3_readDo 37 = .ok (.if_icmp .ne 10, 3) := by decide +kernel
theorem dX3_readDo_40 : decode cX3_readDo 40 = .ok (.aload_n 0, 1) := by decide +kernel
theorem dX3_readDo_41 : decode cX3_readDo 41 = .ok (.invokevirtual 130, 3) := by decide +kernel
theorem dX3_readDo_44 : decode cX3_readDo 44 = .ok (.goto 4, 3) := by decide +kernel
theorem dX3_readDo_47 : decode cX3_readDo 47 = .ok (.iconst (-1), 1) := by decide +kernel
theorem dX3_readDo_48 : decode cX3_readDo 48 = .ok (.istore_n 3, 1) := by decide +kernel
theorem dX3_readDo_49 : decode cX3_readDo 49 = .ok (.aload_n 0, 1) := by decide +kernel
theorem dX3_readDo_50 : decode cX3_readDo 50 = .ok (.bipush 13, 2) := by decide +kernel
theorem dX3_readDo_52 : decode cX3_readDo 52 = .ok (.invokevirtual 123, 3) := by decide +kernel
theorem dX3_readDo_55 : decode cX3_readDo 55 = .ok (.aload_n 0, 1) := by decide +kernel
theorem dX3_readDo_56 : decode cX3_readDo 56 = .ok (.getfield 28, 3) := by decide +kernel
theorem dX3_readDo_59 : decode cX3_readDo 59 = .ok (.iload_n 1, 1) := by decide +kernel
theorem dX3_readDo_60 : decode cX3_readDo 60 = .ok (.iload_n 2, 1) := by decide +kernel
theorem dX3_readDo_61 : decode cX3_readDo 61 = .ok (.iload_n 3, 1) := by decide +kernel
theorem dX3_readDo_62 : decode cX3_readDo 62 = .ok (.invokevirtual 133, 3) := by decide +kernel
theorem dX3_readDo_65 : decode cX3_readDo 65 = .ok (.aload_n 0, 1) := by decide +kernel
theorem dX3_readDo_66 : decode cX3_readDo 66 = .ok (.iconst 1, 1) := by decide +kernel
theorem dX3_readDo_67 : decode cX3_readDo 67 = .ok (.invokevirtual 137, 3) := by decide +kernel
theorem dX3_readDo_70 : decode cX3_readDo 70 = .ok (.return_, 1) := by decide +kernel
theorem dX3_readSet_0 : decode cX3_readSet 0 = .ok (.aload_n 0, 1) := by decide +kernel
theorem dX3_readSet_1 : decode cX3_readSet 1 = .ok (.invokevirtual 141, 3) := by decide +kernel
theorem dX3_readSet_4 : decode cX3_readSet 4 = .ok (.istore_n 1, 1) := by decide +kernel
theorem dX3_readSet_5 : decode cX3_readSet 5 = .ok (.aload_n 0, 1) := by decide +kernel
theorem dX3_readSet_6 : decode cX3_readSet 6 = .ok (.iconst 0, 1) := by decide +kernel
theorem dX3_readSet_7 : decode cX3_readSet 7 = .ok (.bipush 99, 2) := by decide +kernel
theorem dX3_readSet_9 : decode cX3_readSet 9 = .ok (.invokevirtual 126, 3) := by decide +kernel
theorem dX3_readSet_12 : decode cX3_readSet 12 = .ok (.istore_n 2, 1) := by decide +kernel
theorem dX3_readSet_13 : decode cX3_readSet 13 = .ok (.aload_n 0, 1) := by decide +kernel
theorem dX3_readSet_14 : decode cX3_readSet 14 = .ok (.bipush 13, 2) := by decide +kernel
theorem dX3_readSet_16 : decode cX3_readSet 16 = .ok (.invokevirtual 123, 3) := by decide +kernel
theorem dX3_readSet_19 : decode cX3_readSet 19 = .ok (.aload_n 0, 1) := by decide +kernel
theorem dX3_readSet_20 : decode cX3_readSet 20 = .ok (.getfield 28, 3) := by decide +kernel
theorem dX3_readSet_23 : decode cX3_readSet 23 = .ok (.iconst 1, 1) := by decide +kernel
theorem dX3_readSet_24 : decode cX3_readSet 24 = .ok (.iload_n 1, 1) := by decide +kernel
theorem dX3_readSet_25 : decode cX3_readSet 25 = .ok (.iload_n 2, 1) := by decide +kernel
theorem dX3_readSet_26 : decode cX3_readSet 26 = .ok (.iconst 0, 1) := by decide +kernel
theorem dX3_readSet_27 : decode cX3_readSet 27 = .ok (.invokevirtual 74, 3) := by decide +kernel
theorem dX3_readSet_30 : decode cX3_readSet 30 = .ok (.pop, 1) := by decide +kernel
theorem dX3_readSet_31 : decode cX3_readSet 31 = .ok (.return_, 1) := by decide +kernel
theorem dX3_readTest_0 : decode cX3_readTest 0 = .ok (.aload_n 0, 1) := by decide +kernel
theorem dX3_readTest_1 : decode cX3_readTest 1 = .ok (.invokevirtual 141, 3) := by decide +kernel
theorem dX3_readTest_4 : decode cX3_readTest 4 = .ok (.istore_n 1, 1) := by decide +kernel
theorem dX3_readTest_5 : decode cX3_readTest 5 = .ok (.aload_n 0, 1) := by decide +kernel
theorem dX3_readTest_6 : decode cX3_readTest 6 = .ok (.bipush 14, 2) := by decide +kernel
theorem dX3_readTest_8 : decode cX3_readTest 8 = .ok (.invokevirtual 123, 3) := by decide +kernel
theorem dX3_readTest_11 : decode cX3_readTest 11 = .ok (.aload_n 0, 1) := by decide +kernel
theorem dX3_readTest_12 : decode cX3_readTest 12 = .ok (.iconst 0, 1) := by decide +kernel
theorem dX3_readTest_13 : decode cX3_readTest 13 = .ok (.bipush 99, 2) := by decide +kernel
theorem dX3_readTest_15 : decode cX3_readTest 15 = .ok (.invokevirtual 126, 3) := by decide +kernel
theorem dX3_readTest_18 : decode cX3_readTest 18 = .ok (.istore_n 2, 1) := by decide +kernel
theorem dX3_readTest_19 : decode cX3_readTest 19 = .ok (.aload_n 0, 1) := by decide +kernel
theorem dX3_readTest_20 : decode cX3_readTest 20 = .ok (.getfield 28, 3) := by decide +kernel
theorem dX3_readTest_23 : decode cX3_readTest 23 = .ok (.iconst 2, 1) := by decide +kernel
theorem dX3_readTest_24 : decode cX3_readTest 24 = .ok (.iload_n 1, 1) := by decide +kernel
theorem dX3_readTest_25 : decode cX3_readTest 25 = .ok (.iload_n 2, 1) := by decide +kernel
theorem dX3_readTest_26 : decode cX3_readTest 26 = .ok (.iconst 0, 1) := by decide +kernel
theorem dX3_readTest_27 : decode cX3_readTest 27 = .ok (.invokevirtual 74, 3) := by decide +kernel
theorem dX3_readTest_30 : decode cX3_readTest 30 = .ok (.ireturn, 1) := by decide +kernel
theorem dX3_readNewName_0 : decode cX3_readNewName 0 = .ok (.aload_n 0, 1) := by decide +kernel
theorem dX3_readNewName_1 : decode cX3_readNewName 1 = .ok (.getfield 12, 3) := by decide +kernel
theorem dX3_readNewName_4 : decode cX3_readNewName 4 = .ok (.invokevirtual 144, 3) := by decide +kernel
theorem dX3_readNewName_7 : decode cX3_readNewName 7 = .ok (.ifCond .ne 11, 3) := by decide +kernel
theorem dX3_readNewName_10 : decode cX3_readNewName 10 = .ok (.aload_n 0, 1) := by decide +kernel
theorem dX3_readNewName_11 : decode cX3_readNewName 11 = .ok (.iconst 1, 1) := by decide +kernel
theorem dX3_readNewName_12 : decode cX3_readNewName 12 = .ok (.invokevirtual 90, 3) := by decide +kernel
theorem dX3_readNewName_15 : decode cX3_readNewName 15 = .ok (.goto 75, 3) := by decide +kernel
theorem dX3_readNewName_18 : decode cX3_readNewName 18 = .ok (.aload_n 0, 1) := by decide +kernel
theorem dX3_readNewName_19 : decode cX3_readNewName 19 = .ok (.aload_n 0, 1) := by decide +kernel
theorem dX3_readNewName_20 : decode cX3_readNewName 20 = .ok (.getfield 12, 3) := by decide +kernel
theorem dX3_readNewName_23 : decode cX3_readNewName 23 = .ok (.getfield 148, 3) := by decide +kernel
theorem dX3_readNewName_26 : decode cX3_readNewName 26 = .ok (.invokevirtual 151, 3) := by decide +kernel
theorem dX3_readNewName_29 : decode cX3_readNewName 29 = .ok (.iconst (-1), 1) := by decide +kernel
theorem dX3_readNewName_30 : decode cX3_readNewName 30 = .ok (.if_icmp .eq 11, 3) := by decide +kernel
theorem dX3_readNewName_33 : decode cX3_readNewName 33 = .ok (.aload_n 0, 1) := by decide +kernel
theorem dX3_readNewName_34 : decode cX3_readNewName 34 = .ok (.iconst 2, 1) := by decide +kernel
theorem dX3_readNewName_35 : decode cX3_readNewName 35 = .ok (.invokevirtual 90, 3) := by decide +kernel
theorem dX3_readNewName_38 : decode cX3_readNewName 38 = .ok (.goto 52, 3) := by decide +kernel
theorem dX3_readNewName_41 : decode cX3_readNewName 41 = .ok (.aload_n 0, 1) := by decide +kernel
theorem dX3_readNewName_42 : decode cX3_readNewName 42 = .ok (.getfield 36, 3) := by decide +kernel
theorem dX3_readNewName_45 : decode cX3_readNewName 45 = .ok (.ifCond .lt 38, 3) := by decide +kernel
theorem dX3_readNewName_48 : decode cX3_readNewName 48 = .ok (.aload_n 0, 1) := by decide +kernel
theorem dX3_readNewName_49 : decode cX3_readNewName 49 = .ok (.getfield 36, 3) := by decide +kernel
theorem dX3_readNewName_52 : decode cX3_readNewName 52 = .ok (.bipush 40, 2) := by decide +kernel
theorem dX3_readNewName_54 : decode cX3_readNewName 54 = .ok (.if_icmp .ge 29, 3) := by decide +kernel
theorem dX3_readNewName_57 : decode cX3_readNewName 57 = .ok (.aload_n 0, 1) := by decide +kernel
theorem dX3_readNewName_58 : decode cX3_readNewName 58 = .ok (.getfield 39, 3) := by decide +kernel
theorem dX3_readNewName_61 : decode cX3_readNewName 61 = .ok (.aload_n 0, 1) := by decide +kernel
theorem dX3_readNewName_62 : decode cX3_readNewName 62 = .ok (.getfield 36, 3) := by decide +kernel
theorem dX3_readNewName_65 : decode cX3_readNewName 65 = .ok (.aload_n 0, 1) := by decide +kernel
theorem dX3_readNewName_66 : decode cX3_readNewName 66 = .ok (.getfield 12, 3) := by decide +kernel
theorem dX3_readNewName_69 : decode cX3_readNewName 69 = .ok (.getfield 148, 3) := by decide +kernel
theorem dX3_readNewName_72 : decode cX3_readNewName 72 = .ok (.iastore, 1) := by decide +kernel
theorem dX3_readNewName_73 : decode cX3_readNewName 73 = .ok (.aload_n 0, 1) := by decide +kernel
theorem dX3_readNewName_74 : decode cX3_readNewName 74 = .ok (.dup, 1) := by decide +kernel
theorem dX3_readNewName_75 : decode cX3_readNewName 75 = .ok (.getfield 36, 3) := by decide +kernel
theorem dX3_readNewName_78 : decode cX3_readNewName 78 = .ok (.iconst 1, 1) := by decide +kernel
theorem dX3_readNewName_79 : decode cX3_readNewName 79 = .ok (.iadd, 1) := by decide +kernel
theorem dX3_readNewName_80 : decode cX3_readNewName 80 = .ok (.putfield 36, 3) := by decide +kernel
theorem dX3_readNewName_83 : decode cX3_readNewName 83 = .ok (.aload_n 0, 1) := by decide +kernel
theorem dX3_readNewName_84 : decode cX3_readNewName 84 = .ok (.getfield 12, 3) := by decide +kernel
theorem dX3_readNewName_87 : decode cX3_readNewName 87 = .ok (.invokevirtual 97, 3) := by decide +kernel
theorem dX3_readNewName_90 : decode cX3_readNewName 90 = .ok (.return_, 1) := by decide +kernel
theorem dX3_readEyes_0 : decode cX3_readEyes 0 = .ok (.aload_n 0, 1) := by decide +kernel
theorem dX3_readEyes_1 : decode cX3_readEyes 1 = .ok (.getfield 12, 3) := by decide +kernel
theorem dX3_readEyes_4 : decode cX3_readEyes 4 = .ok (.invokevirtual 97, 3) := by decide +kernel
theorem dX3_readEyes_7 : decode cX3_readEyes 7 = .ok (.aload_n 0, 1) := by decide +kernel
theorem dX3_readEyes_8 : decode cX3_readEyes 8 = .ok (.aload_n 0, 1) := by decide +kernel
theorem dX3_readEyes_9 : decode cX3_readEyes 9 = .ok (.getfield 12, 3) := by decide +kernel
theorem dX3_readEyes_12 : decode cX3_readEyes 12 = .ok (.getfield 148, 3) := by decide +kernel
theorem dX3_readEyes_15 : decode cX3_readEyes 15 = .ok (.invokevirtual 151, 3) := by decide +kernel
theorem dX3_readEyes_18 : decode cX3_readEyes 18 = .ok (.istore_n 1, 1) := by decide +kernel
theorem dX3_readEyes_19 : decode cX3_readEyes 19 = .ok (.aload_n 0, 1) := by decide +kernel
theorem dX3_readEyes_20 : decode cX3_readEyes 20 = .ok (.getfield 12, 3) := by decide +kernel
theorem dX3_readEyes_23 : decode cX3_readEyes 23 = .ok (.invokevirtual 144, 3) := by decide +kernel
theorem dX3_readEyes_26 : decode cX3_readEyes 26 = .ok (.ifCond .ne 11, 3) := by decide +kernel
theorem dX3_readEyes_29 : decode cX3_readEyes 29 = .ok (.aload_n 0, 1) := by decide +kernel
theorem dX3_readEyes_30 : decode cX3_readEyes 30 = .ok (.iconst 1, 1) := by decide +kernel
theorem dX3_readEyes_31 : decode cX3_readEyes 31 = .ok (.invokevirtual 90, 3) := by decide +kernel
theorem dX3_readEyes_34 : decode cX3_readEyes 34 = .ok (.goto 23, 3) := by decide +kernel
theorem dX3_readEyes_37 : decode cX3_readEyes 37 = .ok (.iload_n 1, 1) := by decide +kernel
theorem dX3_readEyes_38 : decode cX3_readEyes 38 = .ok (.iconst (-1), 1) := by decide +kernel
theorem dX3_readEyes_39 : decode cX3_readEyes 39 = .ok (.if_icmp .ne 11, 3) := by decide +kernel
theorem dX3_readEyes_42 : decode cX3_readEyes 42 = .ok (.aload_n 0, 1) := by decide +kernel
theorem dX3_readEyes_43 : decode cX3_readEyes 43 = .ok (.iconst 2, 1) := by decide +kernel
theorem dX3_readEyes_44 : decode cX3_readEyes 44 = .ok (.invokevirtual 90, 3) := by decide +kernel
theorem dX3_readEyes_47 : decode cX3_readEyes 47 = .ok (.goto 10, 3) := by decide +kernel
theorem dX3_readEyes_50 : decode cX3_readEyes 50 = .ok (.aload_n 0, 1) := by decide +kernel
theorem dX3_readEyes_51 : decode cX3_readEyes 51 = .ok (.getfield 12, 3) := by decide +kernel
theorem dX3_readEyes_54 : decode cX3_readEyes 54 = .ok (.invokevirtual 97, 3) := by decide +kernel
theorem dX3_readEyes_57 : decode cX3_readEyes 57 = .ok (.iload_n 1, 1) := by decide +kernel
theorem dX3_readEyes_58 : decode cX3_readEyes 58 = .ok (.ireturn, 1) := by decide +kernel
theorem dX3_doNamed_0 : decode cX3_doNamed 0 = .ok (.iconst 0, 1) := by decide +kernel
theorem dX3_doNamed_1 : decode cX3_doNamed 1 = .ok (.istore_n 2, 1) := by decide +kernel
theorem dX3_doNamed_2 : decode cX3_doNamed 2 = .ok (.iload_n 2, 1) := by decide +kernel
theorem dX3_doNamed_3 : decode cX3_doNamed 3 = .ok (.aload_n 0, 1) := by decide +kernel
theorem dX3_doNamed_4 : decode cX3_doNamed 4 = .ok (.getfield 36, 3) := by decide +kernel
theorem dX3_doNamed_7 : decode cX3_doNamed 7 = .ok (.if_icmp .ge 27, 3) := by decide +kernel
theorem dX3_doNamed_10 : decode cX3_doNamed 10 = .ok (.iload_n 2, 1) := by decide +kernel
theorem dX3_doNamed_11 : decode cX3_doNamed 11 = .ok (.bipush 40, 2) := by decide +kernel
theorem dX3_doNamed_13 : decode cX3_doNamed 13 = .ok (.if_icmp .ge 21, 3) := by decide +kernel
theorem dX3_doNamed_16 : decode cX3_doNamed 16 = .ok (.aload_n 0, 1) := by decide +kernel
theorem dX3_doNamed_17 : decode cX3_doNamed 17 = .ok (.getfield 39, 3) := by decide +kernel
theorem dX3_doNamed_20 : decode cX3_doNamed 20 = .ok (.iload_n 2, 1) := by decide +kernel
theorem dX3_doNamed_21 : decode cX3_doNamed 21 = .ok (.iaload, 1) := by decide +kernel
theorem dX3_doNamed_22 : decode cX3_doNamed 22 = .ok (.iload_n 1, 1) := by decide +kernel
theorem dX3_doNamed_23 : decode cX3_doNamed 23 = .ok (.if_icmp .ne 5, 3) := by decide +kernel
theorem dX3_doNamed_26 : decode cX3_doNamed 26 = .ok (.iload_n 2, 1) := by decide +kernel
theorem dX3_doNamed_27 : decode cX3_doNamed 27 = .ok (.ireturn, 1) := by decide +kernel
theorem dX3_doNamed_28 : decode cX3_doNamed 28 = .ok (.iinc 2 1, 3) := by decide +kernel
theorem dX3_doNamed_31 : decode cX3_doNamed 31 = .ok (.goto (-29), 3) := by decide +kernel
theorem dX3_doNamed_34 : decode cX3_doNamed 34 = .ok (.iconst (-1), 1) := by decide +kernel
theorem dX3_doNamed_35 : decode cX3_doNamed 35 = .ok (.ireturn, 1) := by decide +kernel
theorem dX3_readField_0 : decode cX3_readField 0 = .ok (.aload_n 0, 1) := by decide +kernel
theorem dX3_readField_1 : decode cX3_readField 1 = .ok (.getfield 12, 3) := by decide +kernel
theorem dX3_readField_4 : decode cX3_readField 4 = .ok (.getfield 148, 3) := by decide +kernel
theorem dX3_readField_7 : decode cX3_readField 7 = .ok (.iconst 1, 1) := by decide +kernel
theorem dX3_readField_8 : decode cX3_readField 8 = .ok (.isub, 1) := by decide +kernel
theorem dX3_readField_9 : decode cX3_readField 9 = .ok (.istore_n 1, 1) := by decide +kernel
theorem dX3_readField_10 : decode cX3_readField 10 = .ok (.aload_n 0, 1) := by decide +kernel
theorem dX3_readField_11 : decode cX3_readField 11 = .ok (.getfield 12, 3) := by decide +kernel
theorem dX3_readField_14 : decode cX3_readField 14 = .ok (.getfield 68, 3) := by decide +kernel
theorem dX3_readField_17 : decode cX3_readField 17 = .ok (.bipush 9, 2) := by decide +kernel
theorem dX3_readField_19 : decode cX3_readField 19 = .ok (.if_icmp .ne 12, 3) := by decide +kernel
theorem dX3_readField_22 : decode cX3_readField 22 = .ok (.iload_n 1, 1) := by decide +kernel
theorem dX3_readField_23 : decode cX3_readField 23 = .ok (.ifCond .lt 8, 3) := by decide +kernel
theorem dX3_readField_26 : decode cX3_readField 26 = .ok (.iload_n 1, 1) := by decide +kernel
theorem dX3_readField_27 : decode cX3_readField 27 = .ok (.iconst 4, 1) := by decide +kernel
theorem dX3_readField_28 : decode cX3_readField 28 = .ok (.if_icmp .lt 10, 3) := by decide +kernel
theorem dX3_readField_31 : decode cX3_readField 31 = .ok (.aload_n 0, 1) := by decide +kernel
theorem dX3_readField_32 : decode cX3_readField 32 = .ok (.iconst 1, 1) := by decide +kernel
theorem dX3_readField_33 : decode cX3_readField 33 = .ok (.invokevirtual 90, 3) := by decide +kernel
theorem dX3_readField_36 : decode cX3_readField 36 = .ok (.iconst 0, 1) := by decide +kernel
theorem dX3_readField_37 : decode cX3_readField 37 = .ok (.ireturn, 1) := by decide +kernel
theorem dX3_readField_38 : decode cX3_readField 38 = .ok (.aload_n 0, 1) := by decide +kernel
theorem dX3_readField_39 : decode cX3_readField 39 = .ok (.getfield 12, 3) := by decide +kernel
theorem dX3_readField_42 : decode cX3_readField 42 = .ok (.invokevirtual 97, 3) := by decide +kernel
theorem dX3_readField_45 : decode cX3_readField 45 = .ok (.iload_n 1, 1) := by decide +kernel
theorem dX3_readField_46 : decode cX3_readField 46 = .ok (.ireturn, 1) := by decide +kernel
theorem dX3_readNumber_0 : decode cX3_readNumber 0 = .ok (.aload_n 0, 1) := by decide +kernel
theorem dX3_readNumber_1 : decode cX3_readNumber 1 = .ok (.getfield 12, 3) := by decide +kernel
theorem dX3_readNumber_4 : decode cX3_readNumber 4 = .ok (.getfield 148, 3) := by decide +kernel
theorem dX3_readNumber_7 : decode cX3_readNumber 7 = .ok (.istore_n 3, 1) := by decide +kernel
theorem dX3_readNumber_8 : decode cX3_readNumber 8 = .ok (.aload_n 0, 1) := by decide +kernel
theorem dX3_readNumber_9 : decode cX3_readNumber 9 = .ok (.getfield 12, 3) := by decide +kernel
theorem dX3_readNumber_12 : decode cX3_readNumber 12 = .ok (.getfield 68, 3) := by decide +kernel
theorem dX3_readNumber_15 : decode cX3_readNumber 15 = .ok (.bipush 10, 2) := by decide +kernel
theorem dX3_readNumber_17 : decode cX3_readNumber 17 = .ok (.if_icmp .eq 10, 3) := by decide +kernel
theorem dX3_readNumber_20 : decode cX3_readNumber 20 = .ok (.aload_n 0, 1) := by decide +kernel
theorem dX3_readNumber_21 : decode cX3_readNumber 21 = .ok (.iconst 1, 1) := by decide +kernel
theorem dX3_readNumber_22 : decode cX3_readNumber 22 = .ok (.invokevirtual 90, 3) := by decide +kernel
theorem dX3_readNumber_25 : decode cX3_readNumber 25 = .ok (.iload_n 1, 1) := by decide +kernel
theorem dX3_readNumber_26 : decode cX3_readNumber 26 = .ok (.ireturn, 1) := by decide +kernel
theorem dX3_readNumber_27 : decode cX3_readNumber 27 = .ok (.iload_n 3, 1) := by decide +kernel
theorem dX3_readNumber_28 : decode cX3_readNumber 28 = .ok (.iload_n 1, 1) := by decide +kernel
theorem dX3_readNumber_29 : decode cX3_readNumber 29 = .ok (.if_icmp .lt 8, 3) := by decide +kernel
theorem dX3_readNumber_32 : decode cX3_readNumber 32 = .ok (.iload_n 3, 1) := by decide +kernel
theorem dX3_readNumber_33 : decode cX3_readNumber 33 = .ok (.iload_n 2, 1) := by decide +kernel
theorem dX3_readNumber_34 : decode cX3_readNumber 34 = .ok (.if_icmp .le 10, 3) := by decide +kernel
theorem dX3_readNumber_37 : decode cX3_readNumber 37 = .ok (.aload_n 0, 1) := by decide +kernel
theorem dX3_readNumber_38 : decode cX3_readNumber 38 = .ok (.iconst 3, 1) := by decide +kernel
theorem dX3_readNumber_39 : decode cX3_readNumber 39 = .ok (.invokevirtual 90, 3) := by decide +kernel
theorem dX3_readNumber_42 : decode cX3_readNumber 42 = .ok (.iload_n 1, 1) := by decide +kernel
theorem dX3_readNumber_43 : decode cX3_readNumber 43 = .ok (.ireturn, 1) := by decide +kernel
theorem dX3_readNumber_44 : decode cX3_readNumber 44 = .ok (.aload_n 0, 1) := by decide +kernel
theorem dX3_readNumber_45 : decode cX3_readNumber 45 = .ok (.getfield 12, 3) := by decide +kernel
theorem dX3_readNumber_48 : decode cX3_readNumber 48 = .ok (.invokevirtual 97, 3) := by decide +kernel
theorem dX3_readNumber_51 : decode cX3_readNumber 51 = .ok (.iload_n 3, 1) := by decide +kernel
theorem dX3_readNumber_52 : decode cX3_readNumber 52 = .ok (.ireturn, 1) := by decide +kernel
theorem dX3_need_0 : decode cX3_need 0 = .ok (.aload_n 0, 1) := by decide +kernel
theorem dX3_need_1 : decode cX3_need 1 = .ok (.getfield 12, 3) := by decide +kernel
theorem dX3_need_4 : decode cX3_need 4 = .ok (.getfield 68, 3) := by decide +kernel
theorem dX3_need_7 : decode cX3_need 7 = .ok (.iload_n 1, 1) := by decide +kernel
theorem dX3_need_8 : decode cX3_need 8 = .ok (.if_icmp .ne 13, 3) := by decide +kernel
theorem dX3_need_11 : decode cX3_need 11 = .ok (.aload_n 0, 1) := by decide +kernel
theorem dX3_need_12 : decode cX3_need 12 = .ok (.getfield 12, 3) := by decide +kernel
theorem dX3_need_15 : decode cX3_need 15 = .ok (.invokevirtual 97, 3) := by decide +kernel
theorem dX3_need_18 : decode cX3_need 18 = .ok (.goto 8, 3) := by decide +kernel
theorem dX3_need_21 : decode cX3_need 21 = .ok (.aload_n 0, 1) := by decide +kernel
theorem dX3_need_22 : decode cX3_need 22 = .ok (.iconst 1, 1) := by decide +kernel
theorem dX3_need_23 : decode cX3_need 23 = .ok (.invokevirtual 90, 3) := by decide +kernel
theorem dX3_need_26 : decode cX3_need 26 = .ok (.return_, 1) := by decide +kernel
theorem dX3_hold_0 : decode cX3_hold 0 = .ok (.iload_n 1, 1) := by decide +kernel
theorem dX3_hold_1 : decode cX3_hold 1 = .ok (.ifCond .eq 28, 3) := by decide +kernel
theorem dX3_hold_4 : decode cX3_hold 4 = .ok (.aload_n 0, 1) := by decide +kernel
theorem dX3_hold_5 : decode cX3_hold 5 = .ok (.getfield 43, 3) := by decide +kernel
theorem dX3_hold_8 : decode cX3_hold 8 = .ok (.ifCond .lt 21, 3) := by decide +kernel
theorem dX3_hold_11 : decode cX3_hold 11 = .ok (.aload_n 0, 1) := by decide +kernel
theorem dX3_hold_12 : decode cX3_hold 12 = .ok (.getfield 43, 3) := by decide +kernel
theorem dX3_hold_15 : decode cX3_hold 15 = .ok (.iconst 4, 1) := by decide +kernel
theorem dX3_hold_16 : decode cX3_hold 16 = .ok (.if_icmp .gt 13, 3) := by decide +kernel
theorem dX3_hold_19 : decode cX3_hold 19 = .ok (.aload_n 0, 1) := by decide +kernel
theorem dX3_hold_20 : decode cX3_hold 20 = .ok (.getfield 62, 3) := by decide +kernel
theorem dX3_hold_23 : decode cX3_hold 23 = .ok (.aload_n 0, 1) := by decide +kernel
theorem dX3_hold_24 : decode cX3_hold 24 = .ok (.getfield 43, 3) := by decide +kernel
theorem dX3_hold_27 : decode cX3_hold 27 = .ok (.iconst 1, 1) := by decide +kernel
theorem dX3_hold_28 : decode cX3_hold 28 = .ok (.bastore, 1) := by decide +kernel
theorem dX3_hold_29 : decode cX3_hold 29 = .ok (.return_, 1) := by decide +kernel
theorem dX3_openSteps_0 : decode cX3_openSteps 0 = .ok (.aload_n 0, 1) := by decide +kernel
theorem dX3_openSteps_1 : decode cX3_openSteps 1 = .ok (.bipush 11, 2) := by decide +kernel
theorem dX3_openSteps_3 : decode cX3_openSteps 3 = .ok (.invokevirtual 123, 3) := by decide +kernel
theorem dX3_openSteps_6 : decode cX3_openSteps 6 = .ok (.aload_n 0, 1) := by decide +kernel
theorem dX3_openSteps_7 : decode cX3_openSteps 7 = .ok (.getfield 43, 3) := by decide +kernel
theorem dX3_openSteps_10 : decode cX3_openSteps 10 = .ok (.ifCond .lt 11, 3) := by decide +kernel
theorem dX3_openSteps_13 : decode cX3_openSteps 13 = .ok (.aload_n 0, 1) := by decide +kernel
theorem dX3_openSteps_14 : decode cX3_openSteps 14 = .ok (.getfield 43, 3) := by decide +kernel
theorem dX3_openSteps_17 : decode cX3_openSteps 17 = .ok (.iconst 4, 1) := by decide +kernel
theorem dX3_openSteps_18 : decode cX3_openSteps 18 = .ok (.if_icmp .lt 4, 3) := by decide +kernel
theorem dX3_openSteps_21 : decode cX3_openSteps 21 = .ok (.return_, 1) := by decide +kernel
theorem dX3_openSteps_22 : decode cX3_openSteps 22 = .ok (.aload_n 0, 1) := by decide +kernel
theorem dX3_openSteps_23 : decode cX3_openSteps 23 = .ok (.getfield 46, 3) := by decide +kernel
theorem dX3_openSteps_26 : decode cX3_openSteps 26 = .ok (.aload_n 0, 1) := by decide +kernel
theorem dX3_openSteps_27 : decode cX3_openSteps 27 = .ok (.getfield 43, 3) := by decide +kernel
theorem dX3_openSteps_30 : decode cX3_openSteps 30 = .ok (.iload_n 1, 1) := by decide +kernel
theorem dX3_openSteps_31 : decode cX3_openSteps 31 = .ok (.iastore, 1) := by decide +kernel
theorem dX3_openSteps_32 : decode cX3_openSteps 32 = .ok (.aload_n 0, 1) := by decide +kernel
theorem dX3_openSteps_33 : decode cX3_openSteps 33 = .ok (.getfield 49, 3) := by decide +kernel
theorem dX3_openSteps_36 : decode cX3_openSteps 36 = .ok (.aload_n 0, 1) := by decide +kernel
theorem dX3_openSteps_37 : decode cX3_openSteps 37 = .ok (.getfield 43, 3) := by decide +kernel
theorem dX3_openSteps_40 : decode cX3_openSteps 40 = .ok (.iload_n 2, 1) := by decide +kernel
theorem dX3_openSteps_41 : decode cX3_openSteps 41 = .ok (.iastore, 1) := by decide +kernel
theorem dX3_openSteps_42 : decode cX3_openSteps 42 = .ok (.aload_n 0, 1) := by decide +kernel
theorem dX3_openSteps_43 : decode cX3_openSteps 43 = .ok (.getfield 55, 3) := by decide +kernel
theorem dX3_openSteps_46 : decode cX3_openSteps 46 = .ok (.aload_n 0, 1) := by decide +kernel
theorem dX3_openSteps_47 : decode cX3_openSteps 47 = .ok (.getfield 43, 3) := by decide +kernel
theorem dX3_openSteps_50 : decode cX3_openSteps 50 = .ok (.iconst 0, 1) := by decide +kernel
theorem dX3_openSteps_51 : decode cX3_openSteps 51 = .ok (.bastore, 1) := by decide +kernel
theorem dX3_openSteps_52 : decode cX3_openSteps 52 = .ok (.aload_n 0, 1) := by decide +kernel
theorem dX3_openSteps_53 : decode cX3_openSteps 53 = .ok (.dup, 1) := by decide +kernel
theorem dX3_openSteps_54 : decode cX3_openSteps 54 = .ok (.getfield 43, 3) := by decide +kernel
theorem dX3_openSteps_57 : decode cX3_openSteps 57 = .ok (.iconst 1, 1) := by decide +kernel
theorem dX3_openSteps_58 : decode cX3_openSteps 58 = .ok (.iadd, 1) := by decide +kernel
theorem dX3_openSteps_59 : decode cX3_openSteps 59 = .ok (.putfield 43, 3) := by decide +kernel
theorem dX3_openSteps_62 : decode cX3_openSteps 62 = .ok (.aload_n 0, 1) := by decide +kernel
theorem dX3_openSteps_63 : decode cX3_openSteps 63 = .ok (.getfield 62, 3) := by decide +kernel
theorem dX3_openSteps_66 : decode cX3_openSteps 66 = .ok (.aload_n 0, 1) := by decide +kernel
theorem dX3_openSteps_67 : decode cX3_openSteps 67 = .ok (.getfield 43, 3) := by decide +kernel
theorem dX3_openSteps_70 : decode cX3_openSteps 70 = .ok (.iconst 0, 1) := by decide +kernel
theorem dX3_openSteps_71 : decode cX3_openSteps 71 = .ok (.bastore, 1) := by decide +kernel
theorem dX3_openSteps_72 : decode cX3_openSteps 72 = .ok (.return_, 1) := by decide +kernel
theorem dX3_closeSteps_0 : decode cX3_closeSteps 0 = .ok (.aload_n 0, 1) := by decide +kernel
theorem dX3_closeSteps_1 : decode cX3_closeSteps 1 = .ok (.getfield 43, 3) := by decide +kernel
theorem dX3_closeSteps_4 : decode cX3_closeSteps 4 = .ok (.iconst 1, 1) := by decide +kernel
theorem dX3_closeSteps_5 : decode cX3_closeSteps 5 = .ok (.isub, 1) := by decide +kernel
theorem dX3_closeSteps_6 : decode cX3_closeSteps 6 = .ok (.istore_n 1, 1) := by decide +kernel
theorem dX3_closeSteps_7 : decode cX3_closeSteps 7 = .ok (.iload_n 1, 1) := by decide +kernel
theorem dX3_closeSteps_8 : decode cX3_closeSteps 8 = .ok (.ifCond .lt 8, 3) := by decide +kernel
theorem dX3_closeSteps_11 : decode cX3_closeSteps 11 = .ok (.iload_n 1, 1) := by decide +kernel
theorem dX3_closeSteps_12 : decode cX3_closeSteps 12 = .ok (.iconst 4, 1) := by decide +kernel
theorem dX3_closeSteps_13 : decode cX3_closeSteps 13 = .ok (.if_icmp .lt 4, 3) := by decide +kernel
theorem dX3_closeSteps_16 : decode cX3_closeSteps 16 = .ok (.return_, 1) := by decide +kernel
theorem dX3_closeSteps_17 : decode cX3_closeSteps 17 = .ok (.aload_n 0, 1) := by decide +kernel
theorem dX3_closeSteps_18 : decode cX3_closeSteps 18 = .ok (.getfield 46, 3) := by decide +kernel
theorem dX3_closeSteps_21 : decode cX3_closeSteps 21 = .ok (.iload_n 1, 1) := by decide +kernel
theorem dX3_closeSteps_22 : decode cX3_closeSteps 22 = .ok (.iaload, 1) := by decide +kernel
theorem dX3_closeSteps_23 : decode cX3_closeSteps 23 = .ok (.bipush 7, 2) := by decide +kernel
theorem dX3_closeSteps_25 : decode cX3_closeSteps 25 = .ok (.if_icmp .ne 11, 3) := by decide +kernel
theorem dX3_closeSteps_28 : decode cX3_closeSteps 28 = .ok (.aload_n 0, 1) := by decide +kernel
theorem dX3_closeSteps_29 : decode cX3_closeSteps 29 = .ok (.iload_n 1, 1) := by decide +kernel
theorem dX3_closeSteps_30 : decode cX3_closeSteps 30 = .ok (.invokevirtual 155, 3) := by decide +kernel
theorem dX3_closeSteps_33 : decode cX3_closeSteps 33 = .ok (.goto 25, 3) := by decide +kernel
theorem dX3_closeSteps_36 : decode cX3_closeSteps 36 = .ok (.aload_n 0, 1) := by decide +kernel
theorem dX3_closeSteps_37 : decode cX3_closeSteps 37 = .ok (.getfield 55, 3) := by decide +kernel
theorem dX3_closeSteps_40 : decode cX3_closeSteps 40 = .ok (.iload_n 1, 1) := by decide +kernel
theorem dX3_closeSteps_41 : decode cX3_closeSteps 41 = .ok (.baload, 1) := by decide +kernel
theorem dX3_closeSteps_42 : decode cX3_closeSteps 42 = .ok (.ifCond .eq 11, 3) := by decide +kernel
theorem dX3_closeSteps_45 : decode cX3_closeSteps 45 = .ok (.aload_n 0, 1) := by decide +kernel
theorem dX3_closeSteps_46 : decode cX3_closeSteps 46 = .ok (.iload_n 1, 1) := by decide +kernel
theorem dX3_closeSteps_47 : decode cX3_closeSteps 47 = .ok (.invokevirtual 158, 3) := by decide +kernel
theorem dX3_closeSteps_50 : decode cX3_closeSteps 50 = .ok (.goto 8, 3) := by decide +kernel
theorem dX3_closeSteps_53 : decode cX3_closeSteps 53 = .ok (.aload_n 0, 1) := by decide +kernel
theorem dX3_closeSteps_54 : decode cX3_closeSteps 54 = .ok (.iload_n 1, 1) := by decide +kernel
theorem dX3_closeSteps_55 : decode cX3_closeSteps 55 = .ok (.invokevirtual 161, 3) := by decide +kernel
theorem dX3_closeSteps_58 : decode cX3_closeSteps 58 = .ok (.return_, 1) := by decide +kernel
theorem dX3_closeAgain_0 : decode cX3_closeAgain 0 = .ok (.aload_n 0, 1) := by decide +kernel
theorem dX3_closeAgain_1 : decode cX3_closeAgain 1 = .ok (.getfield 62, 3) := by decide +kernel
theorem dX3_closeAgain_4 : decode cX3_closeAgain 4 = .ok (.aload_n 0, 1) := by decide +kernel
theorem dX3_closeAgain_5 : decode cX3_closeAgain 5 = .ok (.getfield 43, 3) := by decide +kernel
theorem dX3_closeAgain_8 : decode cX3_closeAgain 8 = .ok (.baload, 1) := by decide +kernel
theorem dX3_closeAgain_9 : decode cX3_closeAgain 9 = .ok (.ifCond .ne 9, 3) := by decide +kernel
theorem dX3_closeAgain_12 : decode cX3_closeAgain 12 = .ok (.aload_n 0, 1) := by decide +kernel
theorem dX3_closeAgain_13 : decode cX3_closeAgain 13 = .ok (.iconst 5, 1) := by decide +kernel
theorem dX3_closeAgain_14 : decode cX3_closeAgain 14 = .ok (.invokevirtual 90, 3) := by decide +kernel
theorem dX3_closeAgain_17 : decode cX3_closeAgain 17 = .ok (.return_, 1) := by decide +kernel
theorem dX3_closeAgain_18 : decode cX3_closeAgain 18 = .ok (.aload_n 0, 1) := by decide +kernel
theorem dX3_closeAgain_19 : decode cX3_closeAgain 19 = .ok (.getfield 12, 3) := by decide +kernel
theorem dX3_closeAgain_22 : decode cX3_closeAgain 22 = .ok (.invokevirtual 97, 3) := by decide +kernel
theorem dX3_closeAgain_25 : decode cX3_closeAgain 25 = .ok (.aload_n 0, 1) := by decide +kernel
theorem dX3_closeAgain_26 : decode cX3_closeAgain 26 = .ok (.getfield 28, 3) := by decide +kernel
theorem dX3_closeAgain_29 : decode cX3_closeAgain 29 = .ok (.iconst 3, 1) := by decide +kernel
theorem dX3_closeAgain_30 : decode cX3_closeAgain 30 = .ok (.iconst 0, 1) := by decide +kernel
theorem dX3_closeAgain_31 : decode cX3_closeAgain 31 = .ok (.iconst 0, 1) := by decide +kernel
theorem dX3_closeAgain_32 : decode cX3_closeAgain 32 = .ok (.aload_n 0, 1) := by decide +kernel
theorem dX3_closeAgain_33 : decode cX3_closeAgain 33 = .ok (.getfield 49, 3) := by decide +kernel
theorem dX3_closeAgain_36 : decode cX3_closeAgain 36 = .ok (.iload_n 1, 1) := by decide +kernel
theorem dX3_closeAgain_37 : decode cX3_closeAgain 37 = .ok (.iaload, 1) := by decide +kernel
theorem dX3_closeAgain_38 : decode cX3_closeAgain 38 = .ok (.invokevirtual 74, 3) := by decide +kernel
theorem dX3_closeAgain_41 : decode cX3_closeAgain 41 = .ok (.pop, 1) := by decide +kernel
theorem dX3_closeAgain_42 : decode cX3_closeAgain 42 = .ok (.aload_n 0, 1) := by decide +kernel
theorem dX3_closeAgain_43 : decode cX3_closeAgain 43 = .ok (.getfield 28, 3) := by decide +kernel
theorem dX3_closeAgain_46 : decode cX3_closeAgain 46 = .ok (.aload_n 0, 1) := by decide +kernel
theorem dX3_closeAgain_47 : decode cX3_closeAgain 47 = .ok (.getfield 49, 3) := by decide +kernel
theorem dX3_closeAgain_50 : decode cX3_closeAgain 50 = .ok (.iload_n 1, 1) := by decide +kernel
theorem dX3_closeAgain_51 : decode cX3_closeAgain 51 = .ok (.iaload, 1) := by decide +kernel
theorem dX3_closeAgain_52 : decode cX3_closeAgain 52 = .ok (.aload_n 0, 1) := by decide +kernel
theorem dX3_closeAgain_53 : decode cX3_closeAgain 53 = .ok (.getfield 28, 3) := by decide +kernel
theorem dX3_closeAgain_56 : decode cX3_closeAgain 56 = .ok (.getfield 117, 3) := by decide +kernel
theorem dX3_closeAgain_59 : decode cX3_closeAgain 59 = .ok (.invokevirtual 164, 3) := by decide +kernel
theorem dX3_closeAgain_62 : decode cX3_closeAgain 62 = .ok (.aload_n 0, 1) := by decide +kernel
theorem dX3_closeAgain_63 : decode cX3_closeAgain 63 = .ok (.iload_n 1, 1) := by decide +kernel
theorem dX3_closeAgain_64 : decode cX3_closeAgain 64 = .ok (.putfield 43, 3) := by decide +kernel
theorem dX3_closeAgain_67 : decode cX3_closeAgain 67 = .ok (.aload_n 0, 1) := by decide +kernel
theorem dX3_closeAgain_68 : decode cX3_closeAgain 68 = .ok (.iconst 1, 1) := by decide +kernel
theorem dX3_closeAgain_69 : decode cX3_closeAgain 69 = .ok (.invokevirtual 137, 3) := by decide +kernel
theorem dX3_closeAgain_72 : decode cX3_closeAgain 72 = .ok (.return_, 1) := by decide +kernel
theorem dX3_turnToSecond_0 : decode cX3_turnToSecond 0 = .ok (.aload_n 0, 1) := by decide +kernel
theorem dX3_turnToSecond_1 : decode cX3_turnToSecond 1 = .ok (.getfield 12, 3) := by decide +kernel
theorem dX3_turnToSecond_4 : decode cX3_turnToSecond 4 = .ok (.invokevirtual 97, 3) := by decide +kernel
theorem dX3_turnToSecond_7 : decode cX3_turnToSecond 7 = .ok (.aload_n 0, 1) := by decide +kernel
theorem dX3_turnToSecond_8 : decode cX3_turnToSecond 8 = .ok (.getfield 46, 3) := by decide +kernel
theorem dX3_turnToSecond_11 : decode cX3_turnToSecond 11 = .ok (.iload_n 1, 1) := by decide +kernel
theorem dX3_turnToSecond_12 : decode cX3_turnToSecond 12 = .ok (.iaload, 1) := by decide +kernel
theorem dX3_turnToSecond_13 : decode cX3_turnToSecond 13 = .ok (.iconst 5, 1) := by decide +kernel
theorem dX3_turnToSecond_14 : decode cX3_turnToSecond 14 = .ok (.if_icmp .ne 29, 3) := by decide +kernel
theorem dX3_turnToSecond_17 : decode cX3_turnToSecond 17 = .ok (.aload_n 0, 1) := by decide +kernel
theorem dX3_turnToSecond_18 : decode cX3_turnToSecond 18 = .ok (.bipush 6, 2) := by decide +kernel
theorem dX3_turnToSecond_20 : decode cX3_turnToSecond 20 = .ok (.invokevirtual 123, 3) := by decide +kernel
theorem dX3_turnToSecond_23 : decode cX3_turnToSecond 23 = .ok (.aload_n 0, 1) := by decide +kernel
theorem dX3_turnToSecond_24 : decode cX3_turnToSecond 24 = .ok (.getfield 52, 3) := by decide +kernel
theorem dX3_turnToSecond_27 : decode cX3_turnToSecond 27 = .ok (.iload_n 1, 1) := by decide +kernel
theorem dX3_turnToSecond_28 : decode cX3_turnToSecond 28 = .ok (.aload_n 0, 1) := by decide +kernel
theorem dX3_turnToSecond_29 : decode cX3_turnToSecond 29 = .ok (.getfield 28, 3) := by decide +kernel
theorem dX3_turnToSecond_32 : decode cX3_turnToSecond 32 = .ok (.iconst 3, 1) := by decide +kernel
theorem dX3_turnToSecond_33 : decode cX3_turnToSecond 33 = .ok (.iconst 0, 1) := by decide +kernel
theorem dX3_turnToSecond_34 : decode cX3_turnToSecond 34 = .ok (.iconst 0, 1) := by decide +kernel
theorem dX3_turnToSecond_35 : decode cX3_turnToSecond 35 = .ok (.iconst 0, 1) := by decide +kernel
theorem dX3_turnToSecond_36 : decode cX3_turnToSecond 36 = .ok (.invokevirtual 74, 3) := by decide +kernel
theorem dX3_turnToSecond_39 : decode cX3_turnToSecond 39 = .ok (.iastore, 1) := by decide +kernel
theorem dX3_turnToSecond_40 : decode cX3_turnToSecond 40 = .ok (.goto 32, 3) := by decide +kernel
theorem dX3_turnToSecond_43 : decode cX3_turnToSecond 43 = .ok (.aload_n 0, 1) := by decide +kernel
theorem dX3_turnToSecond_44 : decode cX3_turnToSecond 44 = .ok (.getfield 52, 3) := by decide +kernel
theorem dX3_turnToSecond_47 : decode cX3_turnToSecond 47 = .ok (.iload_n 1, 1) := by decide +kernel
theorem dX3_turnToSecond_48 : decode cX3_turnToSecond 48 = .ok (.aload_n 0, 1) := by decide +kernel
theorem dX3_turnToSecond_49 : decode cX3_turnToSecond 49 = .ok (.getfield 28, 3) := by decide +kernel
theorem dX3_turnToSecond_52 : decode cX3_turnToSecond 52 = .ok (.iconst 5, 1) := by decide +kernel
theorem dX3_turnToSecond_53 : decode cX3_turnToSecond 53 = .ok (.aload_n 0, 1) := by decide +kernel
theorem dX3_turnToSecond_54 : decode cX3_turnToSecond 54 = .ok (.getfield 28, 3) := by decide +kernel
theorem dX3_turnToSecond_57 : decode cX3_turnToSecond 57 = .ok (.aload_n 0, 1) := by decide +kernel
theorem dX3_turnToSecond_58 : decode cX3_turnToSecond 58 = .ok (.getfield 49, 3) := by decide +kernel
theorem dX3_turnToSecond_61 : decode cX3_turnToSecond 61 = .ok (.iload_n 1, 1) := by decide +kernel
theorem dX3_turnToSecond_62 : decode cX3_turnToSecond 62 = .ok (.iaload, 1) := by decide +kernel
theorem dX3_turnToSecond_63 : decode cX3_turnToSecond 63 = .ok (.invokevirtual 167, 3) := by decide +kernel
theorem dX3_turnToSecond_66 : decode cX3_turnToSecond 66 = .ok (.iconst 0, 1) := by decide +kernel
theorem dX3_turnToSecond_67 : decode cX3_turnToSecond 67 = .ok (.iconst 0, 1) := by decide +kernel
theorem dX3_turnToSecond_68 : decode cX3_turnToSecond 68 = .ok (.invokevirtual 74, 3) := by decide +kernel
theorem dX3_turnToSecond_71 : decode cX3_turnToSecond 71 = .ok (.iastore, 1) := by decide +kernel
theorem dX3_turnToSecond_72 : decode cX3_turnToSecond 72 = .ok (.aload_n 0, 1) := by decide +kernel
theorem dX3_turnToSecond_73 : decode cX3_turnToSecond 73 = .ok (.bipush 11, 2) := by decide +kernel
theorem dX3_turnToSecond_75 : decode cX3_turnToSecond 75 = .ok (.invokevirtual 123, 3) := by decide +kernel
theorem dX3_turnToSecond_78 : decode cX3_turnToSecond 78 = .ok (.aload_n 0, 1) := by decide +kernel
theorem dX3_turnToSecond_79 : decode cX3_turnToSecond 79 = .ok (.getfield 28, 3) := by decide +kernel
theorem dX3_turnToSecond_82 : decode cX3_turnToSecond 82 = .ok (.aload_n 0, 1) := by decide +kernel
theorem dX3_turnToSecond_83 : decode cX3_turnToSecond 83 = .ok (.getfield 49, 3) := by decide +kernel
theorem dX3_turnToSecond_86 : decode cX3_turnToSecond 86 = .ok (.iload_n 1, 1) := by decide +kernel
theorem dX3_turnToSecond_87 : decode cX3_turnToSecond 87 = .ok (.iaload, 1) := by decide +kernel
theorem dX3_turnToSecond_88 : decode cX3_turnToSecond 88 = .ok (.aload_n 0, 1) := by decide +kernel
theorem dX3_turnToSecond_89 : decode cX3_turnToSecond 89 = .ok (.getfield 28, 3) := by decide +kernel
theorem dX3_turnToSecond_92 : decode cX3_turnToSecond 92 = .ok (.getfield 117, 3) := by decide +kernel
theorem dX3_turnToSecond_95 : decode cX3_turnToSecond 95 = .ok (.invokevirtual 164, 3) := by decide +kernel
theorem dX3_turnToSecond_98 : decode cX3_turnToSecond 98 = .ok (.aload_n 0, 1) := by decide +kernel
theorem dX3_turnToSecond_99 : decode cX3_turnToSecond 99 = .ok (.getfield 59, 3) := by decide +kernel
theorem dX3_turnToSecond_102 : decode cX3_turnToSecond 102 = .ok (.iload_n 1, 1) := by decide +kernel
theorem dX3_turnToSecond_103 : decode cX3_turnToSecond 103 = .ok (.aload_n 0, 1) := by decide +kernel
theorem dX3_turnToSecond_104 : decode cX3_turnToSecond 104 = .ok (.getfield 62, 3) := by decide +kernel
theorem dX3_turnToSecond_107 : decode cX3_turnToSecond 107 = .ok (.aload_n 0, 1) := by decide +kernel
theorem dX3_turnToSecond_108 : decode cX3_turnToSecond 108 = .ok (.getfield 43, 3) := by decide +kernel
theorem dX3_turnToSecond_111 : decode cX3_turnToSecond 111 = .ok (.baload, 1) := by decide +kernel
theorem dX3_turnToSecond_112 : decode cX3_turnToSecond 112 = .ok (.bastore, 1) := by decide +kernel
theorem dX3_turnToSecond_113 : decode cX3_turnToSecond 113 = .ok (.aload_n 0, 1) := by decide +kernel
theorem dX3_turnToSecond_114 : decode cX3_turnToSecond 114 = .ok (.getfield 55, 3) := by decide +kernel
theorem dX3_turnToSecond_117 : decode cX3_turnToSecond 117 = .ok (.iload_n 1, 1) := by decide +kernel
theorem dX3_turnToSecond_118 : decode cX3_turnToSecond 118 = .ok (.iconst 1, 1) := by decide +kernel
theorem dX3_turnToSecond_119 : decode cX3_turnToSecond 119 = .ok (.bastore, 1) := by decide +kernel
theorem dX3_turnToSecond_120 : decode cX3_turnToSecond 120 = .ok (.aload_n 0, 1) := by decide +kernel
theorem dX3_turnToSecond_121 : decode cX3_turnToSecond 121 = .ok (.getfield 62, 3) := by decide +kernel
theorem dX3_turnToSecond_124 : decode cX3_turnToSecond 124 = .ok (.aload_n 0, 1) := by decide +kernel
theorem dX3_turnToSecond_125 : decode cX3_turnToSecond 125 = .ok (.getfield 43, 3) := by decide +kernel
theorem dX3_turnToSecond_128 : decode cX3_turnToSecond 128 = .ok (.iconst 0, 1) := by decide +kernel
theorem dX3_turnToSecond_129 : decode cX3_turnToSecond 129 = .ok (.bastore, 1) := by decide +kernel
theorem dX3_turnToSecond_130 : decode cX3_turnToSecond 130 = .ok (.return_, 1) := by decide +kernel
theorem dX3_closeSecond_0 : decode cX3_closeSecond 0 = .ok (.aload_n 0, 1) := by decide +kernel
theorem dX3_closeSecond_1 : decode cX3_closeSecond 1 = .ok (.getfield 62, 3) := by decide +kernel
theorem dX3_closeSecond_4 : decode cX3_closeSecond 4 = .ok (.aload_n 0, 1) := by decide +kernel
theorem dX3_closeSecond_5 : decode cX3_closeSecond 5 = .ok (.getfield 43, 3) := by decide +kernel
theorem dX3_closeSecond_8 : decode cX3_closeSecond 8 = .ok (.baload, 1) := by decide +kernel
theorem dX3_closeSecond_9 : decode cX3_closeSecond 9 = .ok (.istore_n 2, 1) := by decide +kernel
theorem dX3_closeSecond_10 : decode cX3_closeSecond 10 = .ok (.aload_n 0, 1) := by decide +kernel
theorem dX3_closeSecond_11 : decode cX3_closeSecond 11 = .ok (.getfield 12, 3) := by decide +kernel
theorem dX3_closeSecond_14 : decode cX3_closeSecond 14 = .ok (.invokevirtual 97, 3) := by decide +kernel
theorem dX3_closeSecond_17 : decode cX3_closeSecond 17 = .ok (.aload_n 0, 1) := by decide +kernel
theorem dX3_closeSecond_18 : decode cX3_closeSecond 18 = .ok (.iload_n 1, 1) := by decide +kernel
theorem dX3_closeSecond_19 : decode cX3_closeSecond 19 = .ok (.putfield 43, 3) := by decide +kernel
theorem dX3_closeSecond_22 : decode cX3_closeSecond 22 = .ok (.aload_n 0, 1) := by decide +kernel
theorem dX3_closeSecond_23 : decode cX3_closeSecond 23 = .ok (.getfield 46, 3) := by decide +kernel
theorem dX3_closeSecond_26 : decode cX3_closeSecond 26 = .ok (.iload_n 1, 1) := by decide +kernel
theorem dX3_closeSecond_27 : decode cX3_closeSecond 27 = .ok (.iaload, 1) := by decide +kernel
theorem dX3_closeSecond_28 : decode cX3_closeSecond 28 = .ok (.iconst 5, 1) := by decide +kernel
theorem dX3_closeSecond_29 : decode cX3_closeSecond 29 = .ok (.if_icmp .ne 28, 3) := by decide +kernel
theorem dX3_closeSecond_32 : decode cX3_closeSecond 32 = .ok (.aload_n 0, 1) := by decide +kernel
theorem dX3_closeSecond_33 : decode cX3_closeSecond 33 = .ok (.aload_n 0, 1) := by decide +kernel
theorem dX3_closeSecond_34 : decode cX3_closeSecond 34 = .ok (.getfield 59, 3) := by decide +kernel
theorem dX3_closeSecond_37 : decode cX3_closeSecond 37 = .ok (.iload_n 1, 1) := by decide +kernel
theorem dX3_closeSecond_38 : decode cX3_closeSecond 38 = .ok (.baload, 1) := by decide +kernel
theorem dX3_closeSecond_39 : decode cX3_closeSecond 39 = .ok (.ifCond .eq 11, 3) := by decide +kernel
theorem dX3_closeSecond_42 : decode cX3_closeSecond 42 = .ok (.iload_n 2, 1) := by decide +kernel
theorem dX3_closeSecond_43 : decode cX3_closeSecond 43 = .ok (.ifCond .eq 7, 3) := by decide +kernel
theorem dX3_closeSecond_46 : decode cX3_closeSecond 46 = .ok (.iconst 1, 1) := by decide +kernel
theorem dX3_closeSecond_47 : decode cX3_closeSecond 47 = .ok (.goto 4, 3) := by decide +kernel
theorem dX3_closeSecond_50 : decode cX3_closeSecond 50 = .ok (.iconst 0, 1) := by decide +kernel
theorem dX3_closeSecond_51 : decode cX3_closeSecond 51 = .ok (.invokevirtual 137, 3) := by decide +kernel
theorem dX3_closeSecond_54 : decode cX3_closeSecond 54 = .ok (.goto 57, 3) := by decide +kernel
theorem dX3_closeSecond_57 : decode cX3_closeSecond 57 = .ok (.aload_n 0, 1) := by decide +kernel
theorem dX3_closeSecond_58 : decode cX3_closeSecond 58 = .ok (.getfield 28, 3) := by decide +kernel
theorem dX3_closeSecond_61 : decode cX3_closeSecond 61 = .ok (.iconst 5, 1) := by decide +kernel
theorem dX3_closeSecond_62 : decode cX3_closeSecond 62 = .ok (.aload_n 0, 1) := by decide +kernel
theorem dX3_closeSecond_63 : decode cX3_closeSecond 63 = .ok (.getfield 28, 3) := by decide +kernel
theorem dX3_closeSecond_66 : decode cX3_closeSecond 66 = .ok (.aload_n 0, 1) := by decide +kernel
theorem dX3_closeSecond_67 : decode cX3_closeSecond 67 = .ok (.getfield 49, 3) := by decide +kernel
theorem dX3_closeSecond_70 : decode cX3_closeSecond 70 = .ok (.iload_n 1, 1) := by decide +kernel
theorem dX3_closeSecond_71 : decode cX3_closeSecond 71 = .ok (.iaload, 1) := by decide +kernel
theorem dX3_closeSecond_72 : decode cX3_closeSecond 72 = .ok (.invokevirtual 167, 3) := by decide +kernel
theorem dX3_closeSecond_75 : decode cX3_closeSecond 75 = .ok (.iconst 0, 1) := by decide +kernel
theorem dX3_closeSecond_76 : decode cX3_closeSecond 76 = .ok (.aload_n 0, 1) := by decide +kernel
theorem dX3_closeSecond_77 : decode cX3_closeSecond 77 = .ok (.getfield 28, 3) := by decide +kernel
theorem dX3_closeSecond_80 : decode cX3_closeSecond 80 = .ok (.getfield 117, 3) := by decide +kernel
theorem dX3_closeSecond_83 : decode cX3_closeSecond 83 = .ok (.iconst 1, 1) := by decide +kernel
theorem dX3_closeSecond_84 : decode cX3_closeSecond 84 = .ok (.iadd, 1) := by decide +kernel
theorem dX3_closeSecond_85 : decode cX3_closeSecond 85 = .ok (.invokevirtual 74, 3) := by decide +kernel
theorem dX3_closeSecond_88 : decode cX3_closeSecond 88 = .ok (.pop, 1) := by decide +kernel
theorem dX3_closeSecond_89 : decode cX3_closeSecond 89 = .ok (.aload_n 0, 1) := by decide +kernel
theorem dX3_closeSecond_90 : decode cX3_closeSecond 90 = .ok (.aload_n 0, 1) := by decide +kernel
theorem dX3_closeSecond_91 : decode cX3_closeSecond 91 = .ok (.getfield 59, 3) := by decide +kernel
theorem dX3_closeSecond_94 : decode cX3_closeSecond 94 = .ok (.iload_n 1, 1) := by decide +kernel
theorem dX3_closeSecond_95 : decode cX3_closeSecond 95 = .ok (.baload, 1) := by decide +kernel
theorem dX3_closeSecond_96 : decode cX3_closeSecond 96 = .ok (.ifCond .ne 7, 3) := by decide +kernel
theorem dX3_closeSecond_99 : decode cX3_closeSecond 99 = .ok (.iload_n 2, 1) := by decide +kernel
theorem dX3_closeSecond_100 : decode cX3_closeSecond 100 = .ok (.ifCond .eq 7, 3) := by decide +kernel
theorem dX3_closeSecond_103 : decode cX3_closeSecond 103 = .ok (.iconst 1, 1) := by decide +kernel
theorem dX3_closeSecond_104 : decode cX3_closeSecond 104 = .ok (.goto 4, 3) := by decide +kernel
theorem dX3_closeSecond_107 : decode cX3_closeSecond 107 = .ok (.iconst 0, 1) := by decide +kernel
theorem dX3_closeSecond_108 : decode cX3_closeSecond 108 = .ok (.invokevirtual 137, 3) := by decide +kernel
theorem dX3_closeSecond_111 : decode cX3_closeSecond 111 = .ok (.aload_n 0, 1) := by decide +kernel
theorem dX3_closeSecond_112 : decode cX3_closeSecond 112 = .ok (.getfield 28, 3) := by decide +kernel
theorem dX3_closeSecond_115 : decode cX3_closeSecond 115 = .ok (.aload_n 0, 1) := by decide +kernel
theorem dX3_closeSecond_116 : decode cX3_closeSecond 116 = .ok (.getfield 52, 3) := by decide +kernel
theorem dX3_closeSecond_119 : decode cX3_closeSecond 119 = .ok (.iload_n 1, 1) := by decide +kernel
theorem dX3_closeSecond_120 : decode cX3_closeSecond 120 = .ok (.iaload, 1) := by decide +kernel
theorem dX3_closeSecond_121 : decode cX3_closeSecond 121 = .ok (.aload_n 0, 1) := by decide +kernel
theorem dX3_closeSecond_122 : decode cX3_closeSecond 122 = .ok (.getfield 28, 3) := by decide +kernel
theorem dX3_closeSecond_125 : decode cX3_closeSecond 125 = .ok (.getfield 117, 3) := by decide +kernel
theorem dX3_closeSecond_128 : decode cX3_closeSecond 128 = .ok (.invokevirtual 164, 3) := by decide +kernel
theorem dX3_closeSecond_131 : decode cX3_closeSecond 131 = .ok (.return_, 1) := by decide +kernel
theorem dX5_init_0 : decode cX5_init 0 = .ok (.aload_n 0, 1) := by decide +kernel
theorem dX5_init_1 : decode cX5_init 1 = .ok (.invokespecial 3, 3) := by decide +kernel
theorem dX5_init_4 : decode cX5_init 4 = .ok (.aload_n 0, 1) := by decide +kernel
theorem dX5_init_5 : decode cX5_init 5 = .ok (.sipush 300, 3) := by decide +kernel
theorem dX5_init_8 : decode cX5_init 8 = .ok (.newarray .byte, 2) := by decide +kernel
theorem dX5_init_10 : decode cX5_init 10 = .ok (.putfield 9, 3) := by decide +kernel
theorem dX5_init_13 : decode cX5_init 13 = .ok (.aload_n 0, 1) := by decide +kernel
theorem dX5_init_14 : decode cX5_init 14 = .ok (.iconst 0, 1) := by decide +kernel
theorem dX5_init_15 : decode cX5_init 15 = .ok (.putfield 15, 3) := by decide +kernel
theorem dX5_init_18 : decode cX5_init 18 = .ok (.aload_n 0, 1) := by decide +kernel
theorem dX5_init_19 : decode cX5_init 19 = .ok (.bipush 15, 2) := by decide +kernel
theorem dX5_init_21 : decode cX5_init 21 = .ok (.putfield 19, 3) := by decide +kernel
theorem dX5_init_24 : decode cX5_init 24 = .ok (.aload_n 0, 1) := by decide +kernel
theorem dX5_init_25 : decode cX5_init 25 = .ok (.iconst 0, 1) := by decide +kernel
theorem dX5_init_26 : decode cX5_init 26 = .ok (.putfield 22, 3) := by decide +kernel
theorem dX5_init_29 : decode cX5_init 29 = .ok (.aload_n 0, 1) := by decide +kernel
theorem dX5_init_30 : decode cX5_init 30 = .ok (.iconst 0, 1) := by decide +kernel
theorem dX5_init_31 : decode cX5_init 31 = .ok (.putfield 25, 3) := by decide +kernel
theorem dX5_init_34 : decode cX5_init 34 = .ok (.aload_n 0, 1) := by decide +kernel
theorem dX5_init_35 : decode cX5_init 35 = .ok (.iconst 0, 1) := by decide +kernel
theorem dX5_init_36 : decode cX5_init 36 = .ok (.putfield 28, 3) := by decide +kernel
theorem dX5_init_39 : decode cX5_init 39 = .ok (.aload_n 0, 1) := by decide +kernel
theorem dX5_init_40 : decode cX5_init 40 = .ok (.bipush 9, 2) := by decide +kernel
theorem dX5_init_42 : decode cX5_init 42 = .ok (.newarray .int, 2) := by decide +kernel
theorem dX5_init_44 : decode cX5_init 44 = .ok (.putfield 31, 3) := by decide +kernel
theorem dX5_init_47 : decode cX5_init 47 = .ok (.aload_n 0, 1) := by decide +kernel
theorem dX5_init_48 : decode cX5_init 48 = .ok (.getfield 31, 3) := by decide +kernel
theorem dX5_init_51 : decode cX5_init 51 = .ok (.iconst 0, 1) := by decide +kernel
theorem dX5_init_52 : decode cX5_init 52 = .ok (.ldc 35, 2) := by decide +kernel
theorem dX5_init_54 : decode cX5_init 54 = .ok (.invokestatic 37, 3) := by decide +kernel
theorem dX5_init_57 : decode cX5_init 57 = .ok (.iastore, 1) := by decide +kernel
theorem dX5_init_58 : decode cX5_init 58 = .ok (.aload_n 0, 1) := by decide +kernel
theorem dX5_init_59 : decode cX5_init 59 = .ok (.getfield 31, 3) := by decide +kernel
theorem dX5_init_62 : decode cX5_init 62 = .ok (.iconst 1, 1) := by decide +kernel
theorem dX5_init_63 : decode cX5_init 63 = .ok (.ldc 41, 2) := by decide +kernel
theorem dX5_init_65 : decode cX5_init 65 = .ok (.invokestatic 37, 3) := by decide +kernel
theorem dX5_init_68 : decode cX5_init 68 = .ok (.iastore, 1) := by decide +kernel
theorem dX5_init_69 : decode cX5_init 69 = .ok (.aload_n 0, 1) := by decide +kernel
theorem dX5_init_70 : decode cX5_init 70 = .ok (.getfield 31, 3) := by decide +kernel
theorem dX5_init_73 : decode cX5_init 73 = .ok (.iconst 2, 1) := by decide +kernel
theorem dX5_init_74 : decode cX5_init 74 = .ok (.ldc 43, 2) := by decide +kernel
theorem dX5_init_76 : decode cX5_init 76 = .ok (.invokestatic 37, 3) := by decide +kernel
theorem dX5_init_79 : decode cX5_init 79 = .ok (.iastore, 1) := by decide +kernel
theorem dX5_init_80 : decode cX5_init 80 = .ok (.aload_n 0, 1) := by decide +kernel
theorem dX5_init_81 : decode cX5_init 81 = .ok (.getfield 31, 3) := by decide +kernel
theorem dX5_init_84 : decode cX5_init 84 = .ok (.iconst 3, 1) := by decide +kernel
theorem dX5_init_85 : decode cX5_init 85 = .ok (.ldc 45, 2) := by decide +kernel
theorem dX5_init_87 : decode cX5_init 87 = .ok (.invokestatic 37, 3) := by decide +kernel
theorem dX5_init_90 : decode cX5_init 90 = .ok (.iastore, 1) := by decide +kernel
theorem dX5_init_91 : decode cX5_init 91 = .ok (.aload_n 0, 1) := by decide +kernel
theorem dX5_init_92 : decode cX5_init 92 = .ok (.getfield 31, 3) := by decide +kernel
theorem dX5_init_95 : decode cX5_init 95 = .ok (.iconst 4, 1) := by decide +kernel
theorem dX5_init_96 : decode cX5_init 96 = .ok (.ldc 47, 2) := by decide +kernel
theorem dX5_init_98 : decode cX5_init 98 = .ok (.invokestatic 37, 3) := by decide +kernel
theorem dX5_init_101 : decode cX5_init 101 = .ok (.iastore, 1) := by decide +kernel
theorem dX5_init_102 : decode cX5_init 102 = .ok (.aload_n 0, 1) := by decide +kernel
theorem dX5_init_103 : decode cX5_init 103 = .ok (.getfield 31, 3) := by decide +kernel
theorem dX5_init_106 : decode cX5_init 106 = .ok (.iconst 5, 1) := by decide +kernel
theorem dX5_init_107 : decode cX5_init 107 = .ok (.ldc 49, 2) := by decide +kernel
theorem dX5_init_109 : decode cX5_init 109 = .ok (.invokestatic 37, 3) := by decide +kernel
theorem dX5_init_112 : decode cX5_init 112 = .ok (.iastore, 1) := by decide +kernel
theorem dX5_init_113 : decode cX5_init 113 = .ok (.aload_n 0, 1) := by decide +kernel
theorem dX5_init_114 : decode cX5_init 114 = .ok (.getfield 31, 3) := by decide +kernel
theorem dX5_init_117 : decode cX5_init 117 = .ok (.bipush 6, 2) := by decide +kernel
theorem dX5_init_119 : decode cX5_init 119 = .ok (.ldc 51, 2) := by decide +kernel
theorem dX5_init_121 : decode cX5_init 121 = .ok (.invokestatic 37, 3) := by decide +kernel
theorem dX5_init_124 : decode cX5_init 124 = .ok (.iastore, 1) := by decide +kernel
theorem dX5_init_125 : decode cX5_init 125 = .ok (.aload_n 0, 1) := by decide +kernel
theorem dX5_init_126 : decode cX5_init 126 = .ok (.getfield 31, 3) := by decide +kernel
theorem dX5_init_129 : decode cX5_init 129 = .ok (.bipush 7, 2) := by decide +kernel
theorem dX5_init_131 : decode cX5_init 131 = .ok (.ldc 53, 2) := by decide +kernel
theorem dX5_init_133 : decode cX5_init 133 = .ok (.invokestatic 37, 3) := by decide +kernel
theorem dX5_init_136 : decode cX5_init 136 = .ok (.iastore, 1) := by decide +kernel
theorem dX5_init_137 : decode cX5_init 137 = .ok (.aload_n 0, 1) := by decide +kernel
theorem dX5_init_138 : decode cX5_init 138 = .ok (.getfield 31, 3) := by decide +kernel
theorem dX5_init_141 : decode cX5_init 141 = .ok (.bipush 8, 2) := by decide +kernel
theorem dX5_init_143 : decode cX5_init 143 = .ok (.ldc 55, 2) := by decide +kernel
theorem dX5_init_145 : decode cX5_init 145 = .ok (.invokestatic 37, 3) := by decide +kernel
theorem dX5_init_148 : decode cX5_init 148 = .ok (.iastore, 1) := by decide +kernel
theorem dX5_init_149 : decode cX5_init 149 = .ok (.return_, 1) := by decide +kernel
theorem dX5_addFour_0 : decode cX5_addFour 0 = .ok (.bipush 24, 2) := by decide +kernel
theorem dX5_addFour_2 : decode cX5_addFour 2 = .ok (.istore_n 2, 1) := by decide +kernel
theorem dX5_addFour_3 : decode cX5_addFour 3 = .ok (.iload_n 2, 1) := by decide +kernel
theorem dX5_addFour_4 : decode cX5_addFour 4 = .ok (.ifCond .lt 51, 3) := by decide +kernel
theorem dX5_addFour_7 : decode cX5_addFour 7 = .ok (.aload_n 0, 1) := by decide +kernel
theorem dX5_addFour_8 : decode cX5_addFour 8 = .ok (.getfield 15, 3) := by decide +kernel
theorem dX5_addFour_11 : decode cX5_addFour 11 = .ok (.ifCond .lt 38, 3) := by decide +kernel
theorem dX5_addFour_14 : decode cX5_addFour 14 = .ok (.aload_n 0, 1) := by decide +kernel
theorem dX5_addFour_15 : decode cX5_addFour 15 = .ok (.getfield 15, 3) := by decide +kernel
theorem dX5_addFour_18 : decode cX5_addFour 18 = .ok (.aload_n 0, 1) := by decide +kernel
theorem dX5_addFour_19 : decode cX5_addFour 19 = .ok (.getfield 9, 3) := by decide +kernel
theorem dX5_addFour_22 : decode cX5_addFour 22 = .ok (.arraylength, 1) := by decide +kernel
theorem dX5_addFour_23 : decode cX5_addFour 23 = .ok (.if_icmp .ge 26, 3) := by decide +kernel
theorem dX5_addFour_26 : decode cX5_addFour 26 = .ok (.aload_n 0, 1) := by decide +kernel
theorem dX5_addFour_27 : decode cX5_addFour 27 = .ok (.getfield 9, 3) := by decide +kernel
theorem dX5_addFour_30 : decode cX5_addFour 30 = .ok (.aload_n 0, 1) := by decide +kernel
theorem dX5_addFour_31 : decode cX5_addFour 31 = .ok (.getfield 15, 3) := by decide +kernel
theorem dX5_addFour_34 : decode cX5_addFour 34 = .ok (.iload_n 1, 1) := by decide +kernel
theorem dX5_addFour_35 : decode cX5_addFour 35 = .ok (.iload_n 2, 1) := by decide +kernel
theorem dX5_addFour_36 : decode cX5_addFour 36 = .ok (.iushr, 1) := by decide +kernel
theorem dX5_addFour_37 : decode cX5_addFour 37 = .ok (.i2b, 1) := by decide +kernel
theorem dX5_addFour_38 : decode cX5_addFour 38 = .ok (.bastore, 1) := by decide +kernel
theorem dX5_addFour_39 : decode cX5_addFour 39 = .ok (.aload_n 0, 1) := by decide +kernel
theorem dX5_addFour_40 : decode cX5_addFour 40 = .ok (.dup, 1) := by decide +kernel
theorem dX5_addFour_41 : decode cX5_addFour 41 = .ok (.getfield 15, 3) := by decide +kernel
theorem dX5_addFour_44 : decode cX5_addFour 44 = .ok (.iconst 1, 1) := by decide +kernel
theorem dX5_addFour_45 : decode cX5_addFour 45 = .ok (.iadd, 1) := by decide +kernel
theorem dX5_addFour_46 : decode cX5_addFour 46 = .ok (.putfield 15, 3) := by decide +kernel
theorem dX5_addFour_49 : decode cX5_addFour 49 = .ok (.iinc 2 (-8), 3) := by decide +kernel
theorem dX5_addFour_52 : decode cX5_addFour 52 = .ok (.goto (-49), 3) := by decide +kernel
theorem dX5_addFour_55 : decode cX5_addFour 55 = .ok (.return_, 1) := by decide +kernel
theorem dX5_rewind_0 : decode cX5_rewind 0 = .ok (.aload_n 0, 1) := by decide +kernel
theorem dX5_rewind_1 : decode cX5_rewind 1 = .ok (.iconst 0, 1) := by decide +kernel
theorem dX5_rewind_2 : decode cX5_rewind 2 = .ok (.putfield 28, 3) := by decide +kernel
theorem dX5_rewind_5 : decode cX5_rewind 5 = .ok (.aload_n 0, 1) := by decide +kernel
theorem dX5_rewind_6 : decode cX5_rewind 6 = .ok (.invokevirtual 57, 3) := by decide +kernel
theorem dX5_rewind_9 : decode cX5_rewind 9 = .ok (.return_, 1) := by decide +kernel
theorem dX5_take_0 : decode cX5_take 0 = .ok (.aload_n 0, 1) := by decide +kernel
theorem dX5_take_1 : decode cX5_take 1 = .ok (.getfield 28, 3) := by decide +kernel
theorem dX5_take_4 : decode cX5_take 4 = .ok (.aload_n 0, 1) := by decide +kernel
theorem dX5_take_5 : decode cX5_take 5 = .ok (.getfield 15, 3) := by decide +kernel
theorem dX5_take_8 : decode cX5_take 8 = .ok (.if_icmp .ge 30, 3) := by decide +kernel
theorem dX5_take_11 : decode cX5_take 11 = .ok (.aload_n 0, 1) := by decide +kernel
theorem dX5_take_12 : decode cX5_take 12 = .ok (.aload_n 0, 1) := by decide +kernel
theorem dX5_take_13 : decode cX5_take 13 = .ok (.getfield 28, 3) := by decide +kernel
theorem dX5_take_16 : decode cX5_take 16 = .ok (.invokevirtual 60, 3) := by decide +kernel
theorem dX5_take_19 : decode cX5_take 19 = .ok (.invokestatic 64, 3) := by decide +kernel
theorem dX5_take_22 : decode cX5_take 22 = .ok (.ifCond .eq 16, 3) := by decide +kernel
theorem dX5_take_25 : decode cX5_take 25 = .ok (.aload_n 0, 1) := by decide +kernel
theorem dX5_take_26 : decode cX5_take 26 = .ok (.dup, 1) := by decide +kernel
theorem dX5_take_27 : decode cX5_take 27 = .ok (.getfield 28, 3) := by decide +kernel
theorem dX5_take_30 : decode cX5_take 30 = .ok (.iconst 1, 1) := by decide +kernel
theorem dX5_take_31 : decode cX5_take 31 = .ok (.iadd, 1) := by decide +kernel
theorem dX5_take_32 : decode cX5_take 32 = .ok (.putfield 28, 3) := by decide +kernel
theorem dX5_take_35 : decode cX5_take 35 = .ok (.goto (-35), 3) := by decide +kernel
theorem dX5_take_38 : decode cX5_take 38 = .ok (.aload_n 0, 1) := by decide +kernel
theorem dX5_take_39 : decode cX5_take 39 = .ok (.aload_n 0, 1) := by decide +kernel
theorem dX5_take_40 : decode cX5_take 40 = .ok (.getfield 28, 3) := by decide +kernel
theorem dX5_take_43 : decode cX5_take 43 = .ok (.putfield 22, 3) := by decide +kernel
theorem dX5_take_46 : decode cX5_take 46 = .ok (.aload_n 0, 1) := by decide +kernel
theorem dX5_take_47 : decode cX5_take 47 = .ok (.iconst 0, 1) := by decide +kernel
theorem dX5_take_48 : decode cX5_take 48 = .ok (.putfield 25, 3) := by decide +kernel
theorem dX5_take_51 : decode cX5_take 51 = .ok (.aload_n 0, 1) := by decide +kernel
theorem dX5_take_52 : decode cX5_take 52 = .ok (.getfield 28, 3) := by decide +kernel
theorem dX5_take_55 : decode cX5_take 55 = .ok (.aload_n 0, 1) := by decide +kernel
theorem dX5_take_56 : decode cX5_take 56 = .ok (.getfield 15, 3) := by decide +kernel
theorem dX5_take_59 : decode cX5_take 59 = .ok (.if_icmp .ge 49, 3) := by decide +kernel
theorem dX5_take_62 : decode cX5_take 62 = .ok (.aload_n 0, 1) := by decide +kernel
theorem dX5_take_63 : decode cX5_take 63 = .ok (.aload_n 0, 1) := by decide +kernel
theorem dX5_take_64 : decode cX5_take 64 = .ok (.getfield 28, 3) := by decide +kernel
theorem dX5_take_67 : decode cX5_take 67 = .ok (.invokevirtual 60, 3) := by decide +kernel
theorem dX5_take_70 : decode cX5_take 70 = .ok (.invokestatic 68, 3) := by decide +kernel
theorem dX5_take_73 : decode cX5_take 73 = .ok (.ifCond .eq 35, 3) := by decide +kernel
theorem dX5_take_76 : decode cX5_take 76 = .ok (.aload_n 0, 1) := by decide +kernel
theorem dX5_take_77 : decode cX5_take 77 = .ok (.aload_n 0, 1) := by decide +kernel
theorem dX5_take_78 : decode cX5_take 78 = .ok (.getfield 25, 3) := by decide +kernel
theorem dX5_take_81 : decode cX5_take 81 = .ok (.aload_n 0, 1) := by decide +kernel
theorem dX5_take_82 : decode cX5_take 82 = .ok (.aload_n 0, 1) := by decide +kernel
theorem dX5_take_83 : decode cX5_take 83 = .ok (.getfield 28, 3) := by decide +kernel
theorem dX5_take_86 : decode cX5_take 86 = .ok (.invokevirtual 60, 3) := by decide +kernel
theorem dX5_take_89 : decode cX5_take 89 = .ok (.invokestatic 71, 3) := by decide +kernel
theorem dX5_take_92 : decode cX5_take 92 = .ok (.putfield 25, 3) := by decide +kernel
theorem dX5_take_95 : decode cX5_take 95 = .ok (.aload_n 0, 1) := by decide +kernel
theorem dX5_take_96 : decode cX5_take 96 = .ok (.dup, 1) := by decide +kernel
theorem dX5_take_97 : decode cX5_take 97 = .ok (.getfield 28, 3) := by decide +kernel
theorem dX5_take_100 : decode cX5_take 100 = .ok (.iconst 1, 1) := by decide +kernel
theorem dX5_take_101 : decode cX5_take 101 = .ok (.iadd, 1) := by decide +kernel
theorem dX5_take_102 : decode cX5_take 102 = .ok (.putfield 28, 3) := by decide +kernel
theorem dX5_take_105 : decode cX5_take 105 = .ok (.goto (-54), 3) := by decide +kernel
theorem dX5_take_108 : decode cX5_take 108 = .ok (.aload_n 0, 1) := by decide +kernel
theorem dX5_take_109 : decode cX5_take 109 = .ok (.getfield 28, 3) := by decide +kernel
theorem dX5_take_112 : decode cX5_take 112 = .ok (.aload_n 0, 1) := by decide +kernel
theorem dX5_take_113 : decode cX5_take 113 = .ok (.getfield 22, 3) := by decide +kernel
theorem dX5_take_116 : decode cX5_take 116 = .ok (.if_icmp .le 30, 3) := by decide +kernel
theorem dX5_take_119 : decode cX5_take 119 = .ok (.aload_n 0, 1) := by decide +kernel
theorem dX5_take_120 : decode cX5_take 120 = .ok (.aload_n 0, 1) := by decide +kernel
theorem dX5_take_121 : decode cX5_take 121 = .ok (.invokevirtual 75, 3) := by decide +kernel
theorem dX5_take_124 : decode cX5_take 124 = .ok (.bipush 6, 2) := by decide +kernel
theorem dX5_take_126 : decode cX5_take 126 = .ok (.if_icmp .le 8, 3) := by decide +kernel
theorem dX5_take_129 : decode cX5_take 129 = .ok (.bipush 16, 2) := by decide +kernel
theorem dX5_take_131 : decode cX5_take 131 = .ok (.goto 11, 3) := by decide +kernel
theorem dX5_take_134 : decode cX5_take 134 = .ok (.aload_n 0, 1) := by decide +kernel
theorem dX5_take_135 : decode cX5_take 135 = .ok (.aload_n 0, 1) := by decide +kernel
theorem dX5_take_136 : decode cX5_take 136 = .ok (.getfield 25, 3) := by decide +kernel
theorem dX5_take_139 : decode cX5_take 139 = .ok (.invokevirtual 79, 3) := by decide +kernel
theorem dX5_take_142 : decode cX5_take 142 = .ok (.putfield 19, 3) := by decide +kernel
theorem dX5_take_145 : decode cX5_take 145 = .ok (.return_, 1) := by decide +kernel
theorem dX5_take_146 : decode cX5_take 146 = .ok (.aload_n 0, 1) := by decide +kernel
theorem dX5_take_147 : decode cX5_take 147 = .ok (.getfield 28, 3) := by decide +kernel
theorem dX5_take_150 : decode cX5_take 150 = .ok (.aload_n 0, 1) := by decide +kernel
theorem dX5_take_151 : decode cX5_take 151 = .ok (.getfield 15, 3) := by decide +kernel
theorem dX5_take_154 : decode cX5_take 154 = .ok (.if_icmp .ge 59, 3) := by decide +kernel
theorem dX5_take_157 : decode cX5_take 157 = .ok (.aload_n 0, 1) := by decide +kernel
theorem dX5_take_158 : decode cX5_take 158 = .ok (.aload_n 0, 1) := by decide +kernel
theorem dX5_take_159 : decode cX5_take 159 = .ok (.getfield 28, 3) := by decide +kernel
theorem dX5_take_162 : decode cX5_take 162 = .ok (.invokevirtual 60, 3) := by decide +kernel
theorem dX5_take_165 : decode cX5_take 165 = .ok (.invokestatic 82, 3) := by decide +kernel
theorem dX5_take_168 : decode cX5_take 168 = .ok (.ifCond .eq 45, 3) := by decide +kernel
theorem dX5_take_171 : decode cX5_take 171 = .ok (.aload_n 0, 1) := by decide +kernel
theorem dX5_take_172 : decode cX5_take 172 = .ok (.aload_n 0, 1) := by decide +kernel
theorem dX5_take_173 : decode cX5_take 173 = .ok (.getfield 25, 3) := by decide +kernel
theorem dX5_take_176 : decode cX5_take 176 = .ok (.bipush 10, 2) := by decide +kernel
theorem dX5_take_178 : decode cX5_take 178 = .ok (.imul, 1) := by decide +kernel
theorem dX5_take_179 : decode cX5_take 179 = .ok (.aload_n 0, 1) := by decide +kernel
theorem dX5_take_180 : decode cX5_take 180 = .ok (.aload_n 0, 1) := by decide +kernel
theorem dX5_take_181 : decode cX5_take 181 = .ok (.getfield 28, 3) := by decide +kernel
theorem dX5_take_184 : decode cX5_take 184 = .ok (.invokevirtual 60, 3) := by decide +kernel
theorem dX5_take_187 : decode cX5_take 187 = .ok (.iadd, 1) := by decide +kernel
theorem dX5_take_188 : decode cX5_take 188 = .ok (.bipush 48, 2) := by decide +kernel
theorem dX5_take_190 : decode cX5_take 190 = .ok (.isub, 1) := by decide +kernel
theorem dX5_take_191 : decode cX5_take 191 = .ok (.sipush 1000, 3) := by decide +kernel
theorem dX5_take_194 : decode cX5_take 194 = .ok (.invokestatic 85, 3) := by decide +kernel
theorem dX5_take_197 : decode cX5_take 197 = .ok (.putfield 25, 3) := by decide +kernel
theorem dX5_take_200 : decode cX5_take 200 = .ok (.aload_n 0, 1) := by decide +kernel
theorem dX5_take_201 : decode cX5_take 201 = .ok (.dup, 1) := by decide +kernel
theorem dX5_take_202 : decode cX5_take 202 = .ok (.getfield 28, 3) := by decide +kernel
theorem dX5_take_205 : decode cX5_take 205 = .ok (.iconst 1, 1) := by decide +kernel
theorem dX5_take_206 : decode cX5_take 206 = .ok (.iadd, 1) := by decide +kernel
theorem dX5_take_207 : decode cX5_take 207 = .ok (.putfield 28, 3) := by decide +kernel
theorem dX5_take_210 : decode cX5_take 210 = .ok (.goto (-64), 3) := by decide +kernel
theorem dX5_take_213 : decode cX5_take 213 = .ok (.aload_n 0, 1) := by decide +kernel
theorem dX5_take_214 : decode cX5_take 214 = .ok (.getfield 28, 3) := by decide +kernel
theorem dX5_take_217 : decode cX5_take 217 = .ok (.aload_n 0, 1) := by decide +kernel
theorem dX5_take_218 : decode cX5_take 218 = .ok (.getfield 22, 3) := by decide +kernel
theorem dX5_take_221 : decode cX5_take 221 = .ok (.if_icmp .le 12, 3) := by decide +kernel
theorem dX5_take_224 : decode cX5_take 224 = .ok (.aload_n 0, 1) := by decide +kernel
theorem dX5_take_225 : decode cX5_take 225 = .ok (.bipush 10, 2) := by decide +kernel
theorem dX5_take_227 : decode cX5_take 227 = .ok (.putfield 19, 3) := by decide +kernel
theorem dX5_take_230 : decode cX5_take 230 = .ok (.goto 48, 3) := by decide +kernel
theorem dX5_take_233 : decode cX5_take 233 = .ok (.aload_n 0, 1) := by decide +kernel
theorem dX5_take_234 : decode cX5_take 234 = .ok (.getfield 28, 3) := by decide +kernel
theorem dX5_take_237 : decode cX5_take 237 = .ok (.aload_n 0, 1) := by decide +kernel
theorem dX5_take_238 : decode cX5_take 238 = .ok (.getfield 15, 3) := by decide +kernel
theorem dX5_take_241 : decode cX5_take 241 = .ok (.if_icmp .lt 12, 3) := by decide +kernel
theorem dX5_take_244 : decode cX5_take 244 = .ok (.aload_n 0, 1) := by decide +kernel
theorem dX5_take_245 : decode cX5_take 245 = .ok (.bipush 15, 2) := by decide +kernel
theorem dX5_take_247 : decode cX5_take 247 = .ok (.putfield 19, 3) := by decide +kernel
theorem dX5_take_250 : decode cX5_take 250 = .ok (.goto 28, 3) := by decide +kernel
theorem dX5_take_253 : decode cX5_take 253 = .ok (.aload_n 0, 1) := by decide +kernel
theorem dX5_take_254 : decode cX5_take 254 = .ok (.aload_n 0, 1) := by decide +kernel
theorem dX5_take_255 : decode cX5_take 255 = .ok (.aload_n 0, 1) := by decide +kernel
theorem dX5_take_256 : decode cX5_take 256 = .ok (.getfield 28, 3) := by decide +kernel
theorem dX5_take_259 : decode cX5_take 259 = .ok (.invokevirtual 60, 3) := by decide +kernel
theorem dX5_take_262 : decode cX5_take 262 = .ok (.invokestatic 90, 3) := by decide +kernel
theorem dX5_take_265 : decode cX5_take 265 = .ok (.putfield 19, 3) := by decide +kernel
theorem dX5_take_268 : decode cX5_take 268 = .ok (.aload_n 0, 1) := by decide +kernel
theorem dX5_take_269 : decode cX5_take 269 = .ok (.dup, 1) := by decide +kernel
theorem dX5_take_270 : decode cX5_take 270 = .ok (.getfield 28, 3) := by decide +kernel
theorem dX5_take_273 : decode cX5_take 273 = .ok (.iconst 1, 1) := by decide +kernel
theorem dX5_take_274 : decode cX5_take 274 = .ok (.iadd, 1) := by decide +kernel
theorem dX5_take_275 : decode cX5_take 275 = .ok (.putfield 28, 3) := by decide +kernel
theorem dX5_take_278 : decode cX5_take 278 = .ok (.return_, 1) := by decide +kernel
theorem dX5_isTaskName_0 : decode cX5_isTaskName 0 = .ok (.aload_n 0, 1) := by decide +kernel
theorem dX5_isTaskName_1 : decode cX5_isTaskName 1 = .ok (.getfield 19, 3) := by decide +kernel
theorem dX5_isTaskName_4 : decode cX5_isTaskName 4 = .ok (.bipush 9, 2) := by decide +kernel
theorem dX5_isTaskName_6 : decode cX5_isTaskName 6 = .ok (.if_icmp .ne 15, 3) := by decide +kernel
theorem dX5_isTaskName_9 : decode cX5_isTaskName 9 = .ok (.aload_n 0, 1) := by decide +kernel
theorem dX5_isTaskName_10 : decode cX5_isTaskName 10 = .ok (.invokevirtual 75, 3) := by decide +kernel
theorem dX5_isTaskName_13 : decode cX5_isTaskName 13 = .ok (.iconst 2, 1) := by decide +kernel
theorem dX5_isTaskName_14 : decode cX5_isTaskName 14 = .ok (.if_icmp .lt 7, 3) := by decide +kernel
theorem dX5_isTaskName_17 : decode cX5_isTaskName 17 = .ok (.iconst 1, 1) := by decide +kernel
theorem dX5_isTaskName_18 : decode cX5_isTaskName 18 = .ok (.goto 4, 3) := by decide +kernel
theorem dX5_isTaskName_21 : decode cX5_isTaskName 21 = .ok (.iconst 0, 1) := by decide +kernel
theorem dX5_isTaskName_22 : decode cX5_isTaskName 22 = .ok (.ireturn, 1) := by decide +kernel
theorem dX5_letters_0 : decode cX5_letters 0 = .ok (.aload_n 0, 1) := by decide +kernel
theorem dX5_letters_1 : decode cX5_letters 1 = .ok (.getfield 28, 3) := by decide +kernel
theorem dX5_letters_4 : decode cX5_letters 4 = .ok (.aload_n 0, 1) := by decide +kernel
theorem dX5_letters_5 : decode cX5_letters 5 = .ok (.getfield 22, 3) := by decide +kernel
theorem dX5_letters_8 : decode cX5_letters 8 = .ok (.isub, 1) := by decide +kernel
theorem dX5_letters_9 : decode cX5_letters 9 = .ok (.ireturn, 1) := by decide +kernel
theorem dX5_kindOfKey_0 : decode cX5_kindOfKey 0 = .ok (.iconst 0, 1) := by decide +kernel
theorem dX5_kindOfKey_1 : decode cX5_kindOfKey 1 = .ok (.istore_n 2, 1) := by decide +kernel
theorem dX5_kindOfKey_2 : decode cX5_kindOfKey 2 = .ok (.iload_n 2, 1) := by decide +kernel
theorem dX5_kindOfKey_3 : decode cX5_kindOfKey 3 = .ok (.aload_n 0, 1) := by decide +kernel
theorem dX5_kindOfKey_4 : decode cX5_kindOfKey 4 = .ok (.getfield 31, 3) := by decide +kernel
theorem dX5_kindOfKey_7 : decode cX5_kindOfKey 7 = .ok (.arraylength, 1) := by decide +kernel
theorem dX5_kindOfKey_8 : decode cX5_kindOfKey 8 = .ok (.if_icmp .ge 21, 3) := by decide +kernel
theorem dX5_kindOfKey_11 : decode cX5_kindOfKey 11 = .ok (.aload_n 0, 1) := by decide +kernel
theorem dX5_kindOfKey_12 : decode cX5_kindOfKey 12 = .ok (.getfield 31, 3) := by decide +kernel
theorem dX5_kindOfKey_15 : decode cX5_kindOfKey 15 = .ok (.iload_n 2, 1) := by decide +kernel
theorem dX5_kindOfKey_16 : decode cX5_kindOfKey 16 = .ok (.iaload, 1) := by decide +kernel
theorem dX5_kindOfKey_17 : decode cX5_kindOfKey 17 = .ok (.iload_n 1, 1) := by decide +kernel
theorem dX5_kindOfKey_18 : decode cX5_kindOfKey 18 = .ok (.if_icmp .ne 5, 3) := by decide +kernel
theorem dX5_kindOfKey_21 : decode cX5_kindOfKey 21 = .ok (.iload_n 2, 1) := by decide +kernel
theorem dX5_kindOfKey_22 : decode cX5_kindOfKey 22 = .ok (.ireturn, 1) := by decide +kernel
theorem dX5_kindOfKey_23 : decode cX5_kindOfKey 23 = .ok (.iinc 2 1, 3) := by decide +kernel
theorem dX5_kindOfKey_26 : decode cX5_kindOfKey 26 = .ok (.goto (-24), 3) := by decide +kernel
theorem dX5_kindOfKey_29 : decode cX5_kindOfKey 29 = .ok (.bipush 9, 2) := by decide +kernel
theorem dX5_kindOfKey_31 : decode cX5_kindOfKey 31 = .ok (.ireturn, 1) := by decide +kernel
theorem dX5_byteAt_0 : decode cX5_byteAt 0 = .ok (.iload_n 1, 1) := by decide +kernel
theorem dX5_byteAt_1 : decode cX5_byteAt 1 = .ok (.ifCond .lt 21, 3) := by decide +kernel
theorem dX5_byteAt_4 : decode cX5_byteAt 4 = .ok (.iload_n 1, 1) := by decide +kernel
theorem dX5_byteAt_5 : decode cX5_byteAt 5 = .ok (.aload_n 0, 1) := by decide +kernel
theorem dX5_byteAt_6 : decode cX5_byteAt 6 = .ok (.getfield 9, 3) := by decide +kernel
theorem dX5_byteAt_9 : decode cX5_byteAt 9 = .ok (.arraylength, 1) := by decide +kernel
theorem dX5_byteAt_10 : decode cX5_byteAt 10 = .ok (.if_icmp .ge 12, 3) := by decide +kernel
theorem dX5_byteAt_13 : decode cX5_byteAt 13 = .ok (.aload_n 0, 1) := by decide +kernel
theorem dX5_byteAt_14 : decode cX5_byteAt 14 = .ok (.getfield 9, 3) := by decide +kernel
theorem dX5_byteAt_17 : decode cX5_byteAt 17 = .ok (.iload_n 1, 1) := by decide +kernel
theorem dX5_byteAt_18 : decode cX5_byteAt 18 = .ok (.baload, 1) := by decide +kernel
theorem dX5_byteAt_19 : decode cX5_byteAt 19 = .ok (.goto 4, 3) := by decide +kernel
theorem dX5_byteAt_22 : decode cX5_byteAt 22 = .ok (.iconst 0, 1) := by decide +kernel
theorem dX5_byteAt_23 : decode cX5_byteAt 23 = .ok (.ireturn, 1) := by decide +kernel
theorem dX5_keyOf_0 : decode cX5_keyOf 0 = .ok (.iconst 0, 1) := by decide +kernel
theorem dX5_keyOf_1 : decode cX5_keyOf 1 = .ok (.istore_n 1, 1) := by decide +kernel
theorem dX5_keyOf_2 : decode cX5_keyOf 2 = .ok (.iconst 0, 1) := by decide +kernel
theorem dX5_keyOf_3 : decode cX5_keyOf 3 = .ok (.istore_n 2, 1) := by decide +kernel
theorem dX5_keyOf_4 : decode cX5_keyOf 4 = .ok (.iload_n 2, 1) := by decide +kernel
theorem dX5_keyOf_5 : decode cX5_keyOf 5 = .ok (.aload_n 0, 1) := by decide +kernel
theorem dX5_keyOf_6 : decode cX5_keyOf 6 = .ok (.invokevirtual 93, 3) := by decide +kernel
theorem dX5_keyOf_9 : decode cX5_keyOf 9 = .ok (.if_icmp .ge 19, 3) := by decide +kernel
theorem dX5_keyOf_12 : decode cX5_keyOf 12 = .ok (.iload_n 1, 1) := by decide +kernel
theorem dX5_keyOf_13 : decode cX5_keyOf 13 = .ok (.aload_n 0, 1) := by decide +kernel
theorem dX5_keyOf_14 : decode cX5_keyOf 14 = .ok (.iload_n 2, 1) := by decide +kernel
theorem dX5_keyOf_15 : decode cX5_keyOf 15 = .ok (.invokevirtual 97, 3) := by decide +kernel
theorem dX5_keyOf_18 : decode cX5_keyOf 18 = .ok (.invokestatic 71, 3) := by decide +kernel
theorem dX5_keyOf_21 : decode cX5_keyOf 21 = .ok (.istore_n 1, 1) := by decide +kernel
theorem dX5_keyOf_22 : decode cX5_keyOf 22 = .ok (.iinc 2 1, 3) := by decide +kernel
theorem dX5_keyOf_25 : decode cX5_keyOf 25 = .ok (.goto (-21), 3) := by decide +kernel
theorem dX5_keyOf_28 : decode cX5_keyOf 28 = .ok (.iload_n 1, 1) := by decide +kernel
theorem dX5_keyOf_29 : decode cX5_keyOf 29 = .ok (.ireturn, 1) := by decide +kernel
theorem dX5_withLetter_0 : decode cX5_withLetter 0 = .ok (.iload_n 0, 1) := by decide +kernel
theorem dX5_withLetter_1 : decode cX5_withLetter 1 = .ok (.iconst 5, 1) := by decide +kernel
theorem dX5_withLetter_2 : decode cX5_withLetter 2 = .ok (.ishl, 1) := by decide +kernel
theorem dX5_withLetter_3 : decode cX5_withLetter 3 = .ok (.iload_n 1, 1) := by decide +kernel
theorem dX5_withLetter_4 : decode cX5_withLetter 4 = .ok (.iadd, 1) := by decide +kernel
theorem dX5_withLetter_5 : decode cX5_withLetter 5 = .ok (.bipush 97, 2) := by decide +kernel
theorem dX5_withLetter_7 : decode cX5_withLetter 7 = .ok (.isub, 1) := by decide +kernel
theorem dX5_withLetter_8 : decode cX5_withLetter 8 = .ok (.iconst 1, 1) := by decide +kernel
theorem dX5_withLetter_9 : decode cX5_withLetter 9 = .ok (.iadd, 1) := by decide +kernel
theorem dX5_withLetter_10 : decode cX5_withLetter 10 = .ok (.ireturn, 1) := by decide +kernel
theorem dX5_signKind_0 : decode cX5_signKind 0 = .ok (.iload_n 0, 1) := by decide +kernel
theorem dX5_signKind_1 : decode cX5_signKind 1 = .ok (.lookupswitch 55 #[(59, 49), (60, 52), (123, 43), (125, 46)], 43) := by decide +kernel
theorem dX5_signKind_44 : decode cX5_signKind 44 = .ok (.bipush 11, 2) := by decide +kernel
theorem dX5_signKind_46 : decode cX5_signKind 46 = .ok (.ireturn, 1) := by decide +kernel
theorem dX5_signKind_47 : decode cX5_signKind 47 = .ok (.bipush 12, 2) := by decide +kernel
theorem dX5_signKind_49 : decode cX5_signKind 49 = .ok (.ireturn, 1) := by decide +kernel
theorem dX5_signKind_50 : decode cX5_signKind 50 = .ok (.bipush 13, 2) := by decide +kernel
theorem dX5_signKind_52 : decode cX5_signKind 52 = .ok (.ireturn, 1) := by decide +kernel
theorem dX5_signKind_53 : decode cX5_signKind 53 = .ok (.bipush 14, 2) := by decide +kernel
theorem dX5_signKind_55 : decode cX5_signKind 55 = .ok (.ireturn, 1) := by decide +kernel
theorem dX5_signKind_56 : decode cX5_signKind 56 = .ok (.bipush 16, 2) := by decide +kernel
theorem dX5_signKind_58 : decode cX5_signKind 58 = .ok (.ireturn, 1) := by decide +kernel
theorem dX5_isBlank_0 : decode cX5_isBlank 0 = .ok (.iload_n 0, 1) := by decide +kernel
theorem dX5_isBlank_1 : decode cX5_isBlank 1 = .ok (.bipush 32, 2) := by decide +kernel
theorem dX5_isBlank_3 : decode cX5_isBlank 3 = .ok (.if_icmp .eq 9, 3) := by decide +kernel
theorem dX5_isBlank_6 : decode cX5_isBlank 6 = .ok (.iload_n 0, 1) := by decide +kernel
theorem dX5_isBlank_7 : decode cX5_isBlank 7 = .ok (.bipush 10, 2) := by decide +kernel
theorem dX5_isBlank_9 : decode cX5_isBlank 9 = .ok (.if_icmp .ne 7, 3) := by decide +kernel
theorem dX5_isBlank_12 : decode cX5_isBlank 12 = .ok (.iconst 1, 1) := by decide +kernel
theorem dX5_isBlank_13 : decode cX5_isBlank 13 = .ok (.goto 4, 3) := by decide +kernel
theorem dX5_isBlank_16 : decode cX5_isBlank 16 = .ok (.iconst 0, 1) := by decide +kernel
theorem dX5_isBlank_17 : decode cX5_isBlank 17 = .ok (.ireturn, 1) := by decide +kernel
theorem dX5_isLetter_0 : decode cX5_isLetter 0 = .ok (.iload_n 0, 1) := by decide +kernel
theorem dX5_isLetter_1 : decode cX5_isLetter 1 = .ok (.bipush 97, 2) := by decide +kernel
theorem dX5_isLetter_3 : decode cX5_isLetter 3 = .ok (.if_icmp .lt 13, 3) := by decide +kernel
theorem dX5_isLetter_6 : decode cX5_isLetter 6 = .ok (.iload_n 0, 1) := by decide +kernel
theorem dX5_isLetter_7 : decode cX5_isLetter 7 = .ok (.bipush 122, 2) := by decide +kernel
theorem dX5_isLetter_9 : decode cX5_isLetter 9 = .ok (.if_icmp .gt 7, 3) := by decide +kernel
theorem dX5_isLetter_12 : decode cX5_isLetter 12 = .ok (.iconst 1, 1) := by decide +kernel
theorem dX5_isLetter_13 : decode cX5_isLetter 13 = .ok (.goto 4, 3) := by decide +kernel
theorem dX5_isLetter_16 : decode cX5_isLetter 16 = .ok (.iconst 0, 1) := by decide +kernel
theorem dX5_isLetter_17 : decode cX5_isLetter 17 = .ok (.ireturn, 1) := by decide +kernel
theorem dX5_isDigit_0 : decode cX5_isDigit 0 = .ok (.iload_n 0, 1) := by decide +kernel
theorem dX5_isDigit_1 : decode cX5_isDigit 1 = .ok (.bipush 48, 2) := by decide +kernel
theorem dX5_isDigit_3 : decode cX5_isDigit 3 = .ok (.if_icmp .lt 13, 3) := by decide +kernel
theorem dX5_isDigit_6 : decode cX5_isDigit 6 = .ok (.iload_n 0, 1) := by decide +kernel
theorem dX5_isDigit_7 : decode cX5_isDigit 7 = .ok (.bipush 57, 2) := by decide +kernel
theorem dX5_isDigit_9 : decode cX5_isDigit 9 = .ok (.if_icmp .gt 7, 3) := by decide +kernel
theorem dX5_isDigit_12 : decode cX5_isDigit 12 = .ok (.iconst 1, 1) := by decide +kernel
theorem dX5_isDigit_13 : decode cX5_isDigit 13 = .ok (.goto 4, 3) := by decide +kernel
theorem dX5_isDigit_16 : decode cX5_isDigit 16 = .ok (.iconst 0, 1) := by decide +kernel
theorem dX5_isDigit_17 : decode cX5_isDigit 17 = .ok (.ireturn, 1) := by decide +kernel
theorem dX8_init_0 : decode cX8_init 0 = .ok (.aload_n 0, 1) := by decide +kernel
theorem dX8_init_1 : decode cX8_init 1 = .ok (.invokespecial 1, 3) := by decide +kernel
theorem dX8_init_4 : decode cX8_init 4 = .ok (.aload_n 0, 1) := by decide +kernel
theorem dX8_init_5 : decode cX8_init 5 = .ok (.new 7, 3) := by decide +kernel
theorem dX8_init_8 : decode cX8_init 8 = .ok (.dup, 1) := by decide +kernel
theorem dX8_init_9 : decode cX8_init 9 = .ok (.invokespecial 9, 3) := by decide +kernel
theorem dX8_init_12 : decode cX8_init 12 = .ok (.putfield 10, 3) := by decide +kernel
theorem dX8_init_15 : decode cX8_init 15 = .ok (.aload_n 0, 1) := by decide +kernel
theorem dX8_init_16 : decode cX8_init 16 = .ok (.new 16, 3) := by decide +kernel
theorem dX8_init_19 : decode cX8_init 19 = .ok (.dup, 1) := by decide +kernel
theorem dX8_init_20 : decode cX8_init 20 = .ok (.invokespecial 18, 3) := by decide +kernel
theorem dX8_init_23 : decode cX8_init 23 = .ok (.putfield 19, 3) := by decide +kernel
theorem dX8_init_26 : decode cX8_init 26 = .ok (.aload_n 0, 1) := by decide +kernel
theorem dX8_init_27 : decode cX8_init 27 = .ok (.new 23, 3) := by decide +kernel
theorem dX8_init_30 : decode cX8_init 30 = .ok (.dup, 1) := by decide +kernel
theorem dX8_init_31 : decode cX8_init 31 = .ok (.invokespecial 25, 3) := by decide +kernel
theorem dX8_init_34 : decode cX8_init 34 = .ok (.putfield 26, 3) := by decide +kernel
theorem dX8_init_37 : decode cX8_init 37 = .ok (.aload_n 0, 1) := by decide +kernel
theorem dX8_init_38 : decode cX8_init 38 = .ok (.new 30, 3) := by decide +kernel
theorem dX8_init_41 : decode cX8_init 41 = .ok (.dup, 1) := by decide +kernel
theorem dX8_init_42 : decode cX8_init 42 = .ok (.invokespecial 32, 3) := by decide +kernel
theorem dX8_init_45 : decode cX8_init 45 = .ok (.putfield 33, 3) := by decide +kernel
theorem dX8_init_48 : decode cX8_init 48 = .ok (.aload_n 0, 1) := by decide +kernel
theorem dX8_init_49 : decode cX8_init 49 = .ok (.bipush 8, 2) := by decide +kernel
theorem dX8_init_51 : decode cX8_init 51 = .ok (.anewarray 37, 3) := by decide +kernel
theorem dX8_init_54 : decode cX8_init 54 = .ok (.putfield 39, 3) := by decide +kernel
theorem dX8_init_57 : decode cX8_init 57 = .ok (.aload_n 0, 1) := by decide +kernel
theorem dX8_init_58 : decode cX8_init 58 = .ok (.iconst 0, 1) := by decide +kernel
theorem dX8_init_59 : decode cX8_init 59 = .ok (.putfield 43, 3) := by decide +kernel
theorem dX8_init_62 : decode cX8_init 62 = .ok (.aload_n 0, 1) := by decide +kernel
theorem dX8_init_63 : decode cX8_init 63 = .ok (.aconst_null, 1) := by decide +kernel
theorem dX8_init_64 : decode cX8_init 64 = .ok (.putfield 47, 3) := by decide +kernel
theorem dX8_init_67 : decode cX8_init 67 = .ok (.aload_n 0, 1) := by decide +kernel
theorem dX8_init_68 : decode cX8_init 68 = .ok (.iconst 0, 1) := by decide +kernel
theorem dX8_init_69 : decode cX8_init 69 = .ok (.putfield 51, 3) := by decide +kernel
theorem dX8_init_72 : decode cX8_init 72 = .ok (.aload_n 0, 1) := by decide +kernel
theorem dX8_init_73 : decode cX8_init 73 = .ok (.iconst (-1), 1) := by decide +kernel
theorem dX8_init_74 : decode cX8_init 74 = .ok (.putfield 54, 3) := by decide +kernel
theorem dX8_init_77 : decode cX8_init 77 = .ok (.aload_n 0, 1) := by decide +kernel
theorem dX8_init_78 : decode cX8_init 78 = .ok (.iconst (-1), 1) := by decide +kernel
theorem dX8_init_79 : decode cX8_init 79 = .ok (.putfield 57, 3) := by decide +kernel
theorem dX8_init_82 : decode cX8_init 82 = .ok (.return_, 1) := by decide +kernel
theorem dX8_feed_0 : decode cX8_feed 0 = .ok (.aload_n 0, 1) := by decide +kernel
theorem dX8_feed_1 : decode cX8_feed 1 = .ok (.getfield 10, 3) := by decide +kernel
theorem dX8_feed_4 : decode cX8_feed 4 = .ok (.getfield 60, 3) := by decide +kernel
theorem dX8_feed_7 : decode cX8_feed 7 = .ok (.astore 6, 2) := by decide +kernel
theorem dX8_feed_9 : decode cX8_feed 9 = .ok (.aload 6, 2) := by decide +kernel
theorem dX8_feed_11 : decode cX8_feed 11 = .ok (.getfield 64, 3) := by decide +kernel
theorem dX8_feed_14 : decode cX8_feed 14 = .ok (.bipush 20, 2) := by decide +kernel
theorem dX8_feed_16 : decode cX8_feed 16 = .ok (.iadd, 1) := by decide +kernel
theorem dX8_feed_17 : decode cX8_feed 17 = .ok (.sipush 300, 3) := by decide +kernel
theorem dX8_feed_20 : decode cX8_feed 20 = .ok (.if_icmp .le 5, 3) := by decide +kernel
theorem dX8_feed_23 : decode cX8_feed 23 = .ok (.iconst (-1), 1) := by decide +kernel
theorem dX8_feed_24 : decode cX8_feed 24 = .ok (.ireturn, 1) := by decide +kernel
theorem dX8_feed_25 : decode cX8_feed 25 = .ok (.aload 6, 2) := by decide +kernel
theorem dX8_feed_27 : decode cX8_feed 27 = .ok (.iload_n 1, 1) := by decide +kernel
theorem dX8_feed_28 : decode cX8_feed 28 = .ok (.invokevirtual 69, 3) := by decide +kernel
theorem dX8_feed_31 : decode cX8_feed 31 = .ok (.aload 6, 2) := by decide +kernel
theorem dX8_feed_33 : decode cX8_feed 33 = .ok (.iload_n 2, 1) := by decide +kernel
theorem dX8_feed_34 : decode cX8_feed 34 = .ok (.invokevirtual 69, 3) := by decide +kernel
theorem dX8_feed_37 : decode cX8_feed 37 = .ok (.aload 6, 2) := by decide +kernel
theorem dX8_feed_39 : decode cX8_feed 39 = .ok (.iload_n 3, 1) := by decide +kernel
theorem dX8_feed_40 : decode cX8_feed 40 = .ok (.invokevirtual 69, 3) := by decide +kernel
theorem dX8_feed_43 : decode cX8_feed 43 = .ok (.aload 6, 2) := by decide +kernel
theorem dX8_feed_45 : decode cX8_feed 45 = .ok (.iload 4, 2) := by decide +kernel
theorem dX8_feed_47 : decode cX8_feed 47 = .ok (.invokevirtual 69, 3) := by decide +kernel
theorem dX8_feed_50 : decode cX8_feed 50 = .ok (.aload 6, 2) := by decide +kernel
theorem dX8_feed_52 : decode cX8_feed 52 = .ok (.iload 5, 2) := by decide +kernel
theorem dX8_feed_54 : decode cX8_feed 54 = .ok (.invokevirtual 69, 3) := by decide +kernel
theorem dX8_feed_57 : decode cX8_feed 57 = .ok (.aload 6, 2) := by decide +kernel
theorem dX8_feed_59 : decode cX8_feed 59 = .ok (.getfield 64, 3) := by decide +kernel
theorem dX8_feed_62 : decode cX8_feed 62 = .ok (.ireturn, 1) := by decide +kernel
theorem dX8_end_0 : decode cX8_end 0 = .ok (.aload_n 0, 1) := by decide +kernel
theorem dX8_end_1 : decode cX8_end 1 = .ok (.getfield 10, 3) := by decide +kernel
theorem dX8_end_4 : decode cX8_end 4 = .ok (.getfield 60, 3) := by decide +kernel
theorem dX8_end_7 : decode cX8_end 7 = .ok (.astore_n 2, 1) := by decide +kernel
theorem dX8_end_8 : decode cX8_end 8 = .ok (.iload_n 1, 1) := by decide +kernel
theorem dX8_end_9 : decode cX8_end 9 = .ok (.ifCond .lt 11, 3) := by decide +kernel
theorem dX8_end_12 : decode cX8_end 12 = .ok (.iload_n 1, 1) := by decide +kernel
theorem dX8_end_13 : decode cX8_end 13 = .ok (.aload_n 2, 1) := by decide +kernel
theorem dX8_end_14 : decode cX8_end 14 = .ok (.getfield 64, 3) := by decide +kernel
theorem dX8_end_17 : decode cX8_end 17 = .ok (.if_icmp .le 5, 3) := by decide +kernel
theorem dX8_end_20 : decode cX8_end 20 = .ok (.iconst (-1), 1) := by decide +kernel
theorem dX8_end_21 : decode cX8_end 21 = .ok (.ireturn, 1) := by decide +kernel
theorem dX8_end_22 : decode cX8_end 22 = .ok (.aload_n 2, 1) := by decide +kernel
theorem dX8_end_23 : decode cX8_end 23 = .ok (.iload_n 1, 1) := by decide +kernel
theorem dX8_end_24 : decode cX8_end 24 = .ok (.putfield 64, 3) := by decide +kernel
theorem dX8_end_27 : decode cX8_end 27 = .ok (.iload_n 1, 1) := by decide +kernel
theorem dX8_end_28 : decode cX8_end 28 = .ok (.ireturn, 1) := by decide +kernel
theorem dX8_business_0 : decode cX8_business 0 = .ok (.aload_n 0, 1) := by decide +kernel
theorem dX8_business_1 : decode cX8_business 1 = .ok (.getfield 10, 3) := by decide +kernel
theorem dX8_business_4 : decode cX8_business 4 = .ok (.invokevirtual 73, 3) := by decide +kernel
theorem dX8_business_7 : decode cX8_business 7 = .ok (.astore_n 1, 1) := by decide +kernel
theorem dX8_business_8 : decode cX8_business 8 = .ok (.aload_n 0, 1) := by decide +kernel
theorem dX8_business_9 : decode cX8_business 9 = .ok (.getfield 10, 3) := by decide +kernel
theorem dX8_business_12 : decode cX8_business 12 = .ok (.getfield 60, 3) := by decide +kernel
theorem dX8_business_15 : decode cX8_business 15 = .ok (.iconst 0, 1) := by decide +kernel
theorem dX8_business_16 : decode cX8_business 16 = .ok (.putfield 64, 3) := by decide +kernel
theorem dX8_business_19 : decode cX8_business 19 = .ok (.aload_n 0, 1) := by decide +kernel
theorem dX8_business_20 : decode cX8_business 20 = .ok (.aload_n 0, 1) := by decide +kernel
theorem dX8_business_21 : decode cX8_business 21 = .ok (.getfield 10, 3) := by decide +kernel
theorem dX8_business_24 : decode cX8_business 24 = .ok (.getfield 77, 3) := by decide +kernel
theorem dX8_business_27 : decode cX8_business 27 = .ok (.putfield 54, 3) := by decide +kernel
theorem dX8_business_30 : decode cX8_business 30 = .ok (.aload_n 0, 1) := by decide +kernel
theorem dX8_business_31 : decode cX8_business 31 = .ok (.aload_n 0, 1) := by decide +kernel
theorem dX8_business_32 : decode cX8_business 32 = .ok (.getfield 10, 3) := by decide +kernel
theorem dX8_business_35 : decode cX8_business 35 = .ok (.getfield 80, 3) := by decide +kernel
theorem dX8_business_38 : decode cX8_business 38 = .ok (.putfield 57, 3) := by decide +kernel
theorem dX8_business_41 : decode cX8_business 41 = .ok (.aload_n 1, 1) := by decide +kernel
theorem dX8_business_42 : decode cX8_business 42 = .ok (.ifnonnull 5, 3) := by decide +kernel
theorem dX8_business_45 : decode cX8_business 45 = .ok (.iconst (-1), 1) := by decide +kernel
theorem dX8_business_46 : decode cX8_business 46 = .ok (.ireturn, 1) := by decide +kernel
theorem dX8_business_47 : decode cX8_business 47 = .ok (.aload_n 0, 1) := by decide +kernel
theorem dX8_business_48 : decode cX8_business 48 = .ok (.aload_n 1, 1) := by decide +kernel
theorem dX8_business_49 : decode cX8_business 49 = .ok (.putfield 47, 3) := by decide +kernel
theorem dX8_business_52 : decode cX8_business 52 = .ok (.aload_n 1, 1) := by decide +kernel
theorem dX8_business_53 : decode cX8_business 53 = .ok (.getfield 83, 3) := by decide +kernel
theorem dX8_business_56 : decode cX8_business 56 = .ok (.ireturn, 1) := by decide +kernel
theorem dX8_fault_0 : decode cX8_fault 0 = .ok (.iload_n 1, 1) := by decide +kernel
theorem dX8_fault_1 : decode cX8_fault 1 = .ok (.lookupswitch 37 #[(0, 27), (1, 32)], 27) := by decide +kernel
theorem dX8_fault_28 : decode cX8_fault 28 = .ok (.aload_n 0, 1) := by decide +kernel
theorem dX8_fault_29 : decode cX8_fault 29 = .ok (.getfield 54, 3) := by decide +kernel
theorem dX8_fault_32 : decode cX8_fault 32 = .ok (.ireturn, 1) := by decide +kernel
theorem dX8_fault_33 : decode cX8_fault 33 = .ok (.aload_n 0, 1) := by decide +kernel
theorem dX8_fault_34 : decode cX8_fault 34 = .ok (.getfield 57, 3) := by decide +kernel
theorem dX8_fault_37 : decode cX8_fault 37 = .ok (.ireturn, 1) := by decide +kernel
theorem dX8_fault_38 : decode cX8_fault 38 = .ok (.iconst (-1), 1) := by decide +kernel
theorem dX8_fault_39 : decode cX8_fault 39 = .ok (.ireturn, 1) := by decide +kernel
theorem dX8_person_0 : decode cX8_person 0 = .ok (.iload_n 1, 1) := by decide +kernel
theorem dX8_person_1 : decode cX8_person 1 = .ok (.ifCond .lt 20, 3) := by decide +kernel
theorem dX8_person_4 : decode cX8_person 4 = .ok (.iload_n 1, 1) := by decide +kernel
theorem dX8_person_5 : decode cX8_person 5 = .ok (.bipush 63, 2) := by decide +kernel
theorem dX8_person_7 : decode cX8_person 7 = .ok (.if_icmp .gt 14, 3) := by decide +kernel
theorem dX8_person_10 : decode cX8_person 10 = .ok (.iload_n 2, 1) := by decide +kernel
theorem dX8_person_11 : decode cX8_person 11 = .ok (.iconst 1, 1) := by decide +kernel
theorem dX8_person_12 : decode cX8_person 12 = .ok (.if_icmp .lt 9, 3) := by decide +kernel
theorem dX8_person_15 : decode cX8_person 15 = .ok (.iload_n 2, 1) := by decide +kernel
theorem dX8_person_16 : decode cX8_person 16 = .ok (.bipush 9, 2) := by decide +kernel
theorem dX8_person_18 : decode cX8_person 18 = .ok (.if_icmp .le 5, 3) := by decide +kernel
theorem dX8_person_21 : decode cX8_person 21 = .ok (.iconst (-1), 1) := by decide +kernel
theorem dX8_person_22 : decode cX8_person 22 = .ok (.ireturn, 1) := by decide +kernel
theorem dX8_person_23 : decode cX8_person 23 = .ok (.aload_n 0, 1) := by decide +kernel
theorem dX8_person_24 : decode cX8_person 24 = .ok (.getfield 19, 3) := by decide +kernel
theorem dX8_person_27 : decode cX8_person 27 = .ok (.iload_n 1, 1) := by decide +kernel
theorem dX8_person_28 : decode cX8_person 28 = .ok (.iload_n 2, 1) := by decide +kernel
theorem dX8_person_29 : decode cX8_person 29 = .ok (.invokevirtual 88, 3) := by decide +kernel
theorem dX8_person_32 : decode cX8_person 32 = .ok (.ireturn, 1) := by decide +kernel
theorem dX8_deputy_0 : decode cX8_deputy 0 = .ok (.aload_n 0, 1) := by decide +kernel
theorem dX8_deputy_1 : decode cX8_deputy 1 = .ok (.getfield 19, 3) := by decide +kernel
theorem dX8_deputy_4 : decode cX8_deputy 4 = .ok (.iload_n 1, 1) := by decide +kernel
theorem dX8_deputy_5 : decode cX8_deputy 5 = .ok (.invokevirtual 92, 3) := by decide +kernel
theorem dX8_deputy_8 : decode cX8_deputy 8 = .ok (.ifCond .eq 8, 3) := by decide +kernel
theorem dX8_deputy_11 : decode cX8_deputy 11 = .ok (.iload_n 2, 1) := by decide +kernel
theorem dX8_deputy_12 : decode cX8_deputy 12 = .ok (.iload_n 1, 1) := by decide +kernel
theorem dX8_deputy_13 : decode cX8_deputy 13 = .ok (.if_icmp .ne 5, 3) := by decide +kernel
theorem dX8_deputy_16 : decode cX8_deputy 16 = .ok (.iconst 0, 1) := by decide +kernel
theorem dX8_deputy_17 : decode cX8_deputy 17 = .ok (.ireturn, 1) := by decide +kernel
theorem dX8_deputy_18 : decode cX8_deputy 18 = .ok (.iload_n 2, 1) := by decide +kernel
theorem dX8_deputy_19 : decode cX8_deputy 19 = .ok (.iconst (-1), 1) := by decide +kernel
theorem dX8_deputy_20 : decode cX8_deputy 20 = .ok (.if_icmp .eq 16, 3) := by decide +kernel
theorem dX8_deputy_23 : decode cX8_deputy 23 = .ok (.aload_n 0, 1) := by decide +kernel
theorem dX8_deputy_24 : decode cX8_deputy 24 = .ok (.getfield 19, 3) := by decide +kernel
theorem dX8_deputy_27 : decode cX8_deputy 27 = .ok (.iload_n 2, 1) := by decide +kernel
theorem dX8_deputy_28 : decode cX8_deputy 28 = .ok (.invokevirtual 92, 3) := by decide +kernel
theorem dX8_deputy_31 : decode cX8_deputy 31 = .ok (.ifCond .ne 5, 3) := by decide +kernel
theorem dX8_deputy_34 : decode cX8_deputy 34 = .ok (.iconst 0, 1) := by decide +kernel
theorem dX8_deputy_35 : decode cX8_deputy 35 = .ok (.ireturn, 1) := by decide +kernel
theorem dX8_deputy_36 : decode cX8_deputy 36 = .ok (.aload_n 0, 1) := by decide +kernel
theorem dX8_deputy_37 : decode cX8_deputy 37 = .ok (.getfield 19, 3) := by decide +kernel
theorem dX8_deputy_40 : decode cX8_deputy 40 = .ok (.getfield 96, 3) := by decide +kernel
theorem dX8_deputy_43 : decode cX8_deputy 43 = .ok (.iload_n 1, 1) := by decide +kernel
theorem dX8_deputy_44 : decode cX8_deputy 44 = .ok (.iload_n 2, 1) := by decide +kernel
theorem dX8_deputy_45 : decode cX8_deputy 45 = .ok (.iastore, 1) := by decide +kernel
theorem dX8_deputy_46 : decode cX8_deputy 46 = .ok (.iconst 1, 1) := by decide +kernel
theorem dX8_deputy_47 : decode cX8_deputy 47 = .ok (.ireturn, 1) := by decide +kernel
theorem dX8_away_0 : decode cX8_away 0 = .ok (.aload_n 0, 1) := by decide +kernel
theorem dX8_away_1 : decode cX8_away 1 = .ok (.getfield 19, 3) := by decide +kernel
theorem dX8_away_4 : decode cX8_away 4 = .ok (.iload_n 1, 1) := by decide +kernel
theorem dX8_away_5 : decode cX8_away 5 = .ok (.invokevirtual 92, 3) := by decide +kernel
theorem dX8_away_8 : decode cX8_away 8 = .ok (.ifCond .ne 5, 3) := by decide +kernel
theorem dX8_away_11 : decode cX8_away 11 = .ok (.iconst 0, 1) := by decide +kernel
theorem dX8_away_12 : decode cX8_away 12 = .ok (.ireturn, 1) := by decide +kernel
theorem dX8_away_13 : decode cX8_away 13 = .ok (.aload_n 0, 1) := by decide +kernel
theorem dX8_away_14 : decode cX8_away 14 = .ok (.getfield 19, 3) := by decide +kernel
theorem dX8_away_17 : decode cX8_away 17 = .ok (.getfield 100, 3) := by decide +kernel
theorem dX8_away_20 : decode cX8_away 20 = .ok (.iload_n 1, 1) := by decide +kernel
theorem dX8_away_21 : decode cX8_away 21 = .ok (.iload_n 2, 1) := by decide +kernel
theorem dX8_away_22 : decode cX8_away 22 = .ok (.bastore, 1) := by decide +kernel
theorem dX8_away_23 : decode cX8_away 23 = .ok (.iload_n 2, 1) := by decide +kernel
theorem dX8_away_24 : decode cX8_away 24 = .ok (.ifCond .eq 21, 3) := by decide +kernel
theorem dX8_away_27 : decode cX8_away 27 = .ok (.aload_n 0, 1) := by decide +kernel
theorem dX8_away_28 : decode cX8_away 28 = .ok (.getfield 26, 3) := by decide +kernel
theorem dX8_away_31 : decode cX8_away 31 = .ok (.iload_n 1, 1) := by decide +kernel
theorem dX8_away_32 : decode cX8_away 32 = .ok (.invokevirtual 104, 3) := by decide +kernel
theorem dX8_away_35 : decode cX8_away 35 = .ok (.aload_n 0, 1) := by decide +kernel
theorem dX8_away_36 : decode cX8_away 36 = .ok (.getfield 19, 3) := by decide +kernel
theorem dX8_away_39 : decode cX8_away 39 = .ok (.getfield 107, 3) := by decide +kernel
theorem dX8_away_42 : decode cX8_away 42 = .ok (.iload_n 1, 1) := by decide +kernel
theorem dX8_away_43 : decode cX8_away 43 = .ok (.iconst 0, 1) := by decide +kernel
theorem dX8_away_44 : decode cX8_away 44 = .ok (.iastore, 1) := by decide +kernel
theorem dX8_away_45 : decode cX8_away 45 = .ok (.iconst 1, 1) := by decide +kernel
theorem dX8_away_46 : decode cX8_away 46 = .ok (.ireturn, 1) := by decide +kernel
theorem dX8_stands_0 : decode cX8_stands 0 = .ok (.aload_n 0, 1) := by decide +kernel
theorem dX8_stands_1 : decode cX8_stands 1 = .ok (.getfield 19, 3) := by decide +kernel
theorem dX8_stands_4 : decode cX8_stands 4 = .ok (.iload_n 1, 1) := by decide +kernel
theorem dX8_stands_5 : decode cX8_stands 5 = .ok (.invokevirtual 110, 3) := by decide +kernel
theorem dX8_stands_8 : decode cX8_stands 8 = .ok (.ireturn, 1) := by decide +kernel
theorem dX8_hour_0 : decode cX8_hour 0 = .ok (.iload_n 1, 1) := by decide +kernel
theorem dX8_hour_1 : decode cX8_hour 1 = .ok (.aload_n 0, 1) := by decide +kernel
theorem dX8_hour_2 : decode cX8_hour 2 = .ok (.getfield 51, 3) := by decide +kernel
theorem dX8_hour_5 : decode cX8_hour 5 = .ok (.if_icmp .lt 10, 3) := by decide +kernel
theorem dX8_hour_8 : decode cX8_hour 8 = .ok (.iload_n 1, 1) := by decide +kernel
theorem dX8_hour_9 : decode cX8_hour 9 = .ok (.sipush 20000, 3) := by decide +kernel
theorem dX8_hour_12 : decode cX8_hour 12 = .ok (.if_icmp .le 5, 3) := by decide +kernel
theorem dX8_hour_15 : decode cX8_hour 15 = .ok (.iconst 0, 1) := by decide +kernel
theorem dX8_hour_16 : decode cX8_hour 16 = .ok (.ireturn, 1) := by decide +kernel
theorem dX8_hour_17 : decode cX8_hour 17 = .ok (.aload_n 0, 1) := by decide +kernel
theorem dX8_hour_18 : decode cX8_hour 18 = .ok (.iload_n 1, 1) := by decide +kernel
theorem dX8_hour_19 : decode cX8_hour 19 = .ok (.putfield 51, 3) := by decide +kernel
theorem dX8_hour_22 : decode cX8_hour 22 = .ok (.iconst 1, 1) := by decide +kernel
theorem dX8_hour_23 : decode cX8_hour 23 = .ok (.ireturn, 1) := by decide +kernel
theorem dX8_run_0 : decode cX8_run 0 = .ok (.aload_n 0, 1) := by decide +kernel
theorem dX8_run_1 : decode cX8_run 1 = .ok (.getfield 47, 3) := by decide +kernel
theorem dX8_run_4 : decode cX8_run 4 = .ok (.ifnull 12, 3) := by decide +kernel
theorem dX8_run_7 : decode cX8_run 7 = .ok (.aload_n 0, 1) := by decide +kernel
theorem dX8_run_8 : decode cX8_run 8 = .ok (.getfield 43, 3) := by decide +kernel
theorem dX8_run_11 : decode cX8_run 11 = .ok (.bipush 8, 2) := by decide +kernel
theorem dX8_run_13 : decode cX8_run 13 = .ok (.if_icmp .lt 5, 3) := by decide +kernel
theorem dX8_run_16 : decode cX8_run 16 = .ok (.iconst (-1), 1) := by decide +kernel
theorem dX8_run_17 : decode cX8_run 17 = .ok (.ireturn, 1) := by decide +kernel
theorem dX8_run_18 : decode cX8_run 18 = .ok (.aload_n 0, 1) := by decide +kernel
theorem dX8_run_19 : decode cX8_run 19 = .ok (.getfield 33, 3) := by decide +kernel
theorem dX8_run_22 : decode cX8_run 22 = .ok (.invokevirtual 114, 3) := by decide +kernel
theorem dX8_run_25 : decode cX8_run 25 = .ok (.aload_n 0, 1) := by decide +kernel
theorem dX8_run_26 : decode cX8_run 26 = .ok (.getfield 33, 3) := by decide +kernel
theorem dX8_run_29 : decode cX8_run 29 = .ok (.aload_n 0, 1) := by decide +kernel
theorem dX8_run_30 : decode cX8_run 30 = .ok (.getfield 47, 3) := by decide +kernel
theorem dX8_run_33 : decode cX8_run 33 = .ok (.iconst 0, 1) := by decide +kernel
theorem dX8_run_34 : decode cX8_run 34 = .ok (.invokevirtual 117, 3) := by decide +kernel
theorem dX8_run_37 : decode cX8_run 37 = .ok (.aload_n 0, 1) := by decide +kernel
theorem dX8_run_38 : decode cX8_run 38 = .ok (.getfield 26, 3) := by decide +kernel
theorem dX8_run_41 : decode cX8_run 41 = .ok (.aload_n 0, 1) := by decide +kernel
theorem dX8_run_42 : decode cX8_run 42 = .ok (.getfield 33, 3) := by decide +kernel
theorem dX8_run_45 : decode cX8_run 45 = .ok (.getfield 121, 3) := by decide +kernel
theorem dX8_run_48 : decode cX8_run 48 = .ok (.invokevirtual 124, 3) := by decide +kernel
theorem dX8_run_51 : decode cX8_run 51 = .ok (.ifCond .ne 5, 3) := by decide +kernel
theorem dX8_run_54 : decode cX8_run 54 = .ok (.iconst (-1), 1) := by decide +kernel
theorem dX8_run_55 : decode cX8_run 55 = .ok (.ireturn, 1) := by decide +kernel
theorem dX8_run_56 : decode cX8_run 56 = .ok (.aload_n 0, 1) := by decide +kernel
theorem dX8_run_57 : decode cX8_run 57 = .ok (.getfield 43, 3) := by decide +kernel
theorem dX8_run_60 : decode cX8_run 60 = .ok (.istore_n 1, 1) := by decide +kernel
theorem dX8_run_61 : decode cX8_run 61 = .ok (.new 37, 3) := by decide +kernel
theorem dX8_run_64 : decode cX8_run 64 = .ok (.dup, 1) := by decide +kernel
theorem dX8_run_65 : decode cX8_run 65 = .ok (.iload_n 1, 1) := by decide +kernel
theorem dX8_run_66 : decode cX8_run 66 = .ok (.aload_n 0, 1) := by decide +kernel
theorem dX8_run_67 : decode cX8_run 67 = .ok (.getfield 47, 3) := by decide +kernel
theorem dX8_run_70 : decode cX8_run 70 = .ok (.invokespecial 127, 3) := by decide +kernel
theorem dX8_run_73 : decode cX8_run 73 = .ok (.astore_n 2, 1) := by decide +kernel
theorem dX8_run_74 : decode cX8_run 74 = .ok (.aload_n 0, 1) := by decide +kernel
theorem dX8_run_75 : decode cX8_run 75 = .ok (.getfield 39, 3) := by decide +kernel
theorem dX8_run_78 : decode cX8_run 78 = .ok (.iload_n 1, 1) := by decide +kernel
theorem dX8_run_79 : decode cX8_run 79 = .ok (.aload_n 2, 1) := by decide +kernel
theorem dX8_run_80 : decode cX8_run 80 = .ok (.aastore, 1) := by decide +kernel
theorem dX8_run_81 : decode cX8_run 81 = .ok (.aload_n 0, 1) := by decide +kernel
theorem dX8_run_82 : decode cX8_run 82 = .ok (.dup, 1) := by decide +kernel
theorem dX8_run_83 : decode cX8_run 83 = .ok (.getfield 43, 3) := by decide +kernel
theorem dX8_run_86 : decode cX8_run 86 = .ok (.iconst 1, 1) := by decide +kernel
theorem dX8_run_87 : decode cX8_run 87 = .ok (.iadd, 1) := by decide +kernel
theorem dX8_run_88 : decode cX8_run 88 = .ok (.putfield 43, 3) := by decide +kernel
theorem dX8_run_91 : decode cX8_run 91 = .ok (.aload_n 0, 1) := by decide +kernel
theorem dX8_run_92 : decode cX8_run 92 = .ok (.aload_n 2, 1) := by decide +kernel
theorem dX8_run_93 : decode cX8_run 93 = .ok (.invokevirtual 130, 3) := by decide +kernel
theorem dX8_run_96 : decode cX8_run 96 = .ok (.iload_n 1, 1) := by decide +kernel
theorem dX8_run_97 : decode cX8_run 97 = .ok (.ireturn, 1) := by decide +kernel
theorem dX8_runOf_0 : decode cX8_runOf 0 = .ok (.aload_n 0, 1) := by decide +kernel
theorem dX8_runOf_1 : decode cX8_runOf 1 = .ok (.iload_n 1, 1) := by decide +kernel
theorem dX8_runOf_2 : decode cX8_runOf 2 = .ok (.invokevirtual 134, 3) := by decide +kernel
theorem dX8_runOf_5 : decode cX8_runOf 5 = .ok (.astore_n 3, 1) := by decide +kernel
theorem dX8_runOf_6 : decode cX8_runOf 6 = .ok (.aload_n 3, 1) := by decide +kernel
theorem dX8_runOf_7 : decode cX8_runOf 7 = .ok (.ifnonnull 5, 3) := by decide +kernel
theorem dX8_runOf_10 : decode cX8_runOf 10 = .ok (.iconst (-1), 1) := by decide +kernel
theorem dX8_runOf_11 : decode cX8_runOf 11 = .ok (.ireturn, 1) := by decide +kernel
theorem dX8_runOf_12 : decode cX8_runOf 12 = .ok (.iload_n 2, 1) := by decide +kernel
theorem dX8_runOf_13 : decode cX8_runOf 13 = .ok (.ifCond .lt 15, 3) := by decide +kernel
theorem dX8_runOf_16 : decode cX8_runOf 16 = .ok (.iload_n 2, 1) := by decide +kernel
theorem dX8_runOf_17 : decode cX8_runOf 17 = .ok (.iconst 4, 1) := by decide +kernel
theorem dX8_runOf_18 : decode cX8_runOf 18 = .ok (.if_icmp .ge 10, 3) := by decide +kernel
theorem dX8_runOf_21 : decode cX8_runOf 21 = .ok (.aload_n 3, 1) := by decide +kernel
theorem dX8_runOf_22 : decode cX8_runOf 22 = .ok (.getfield 138, 3) := by decide +kernel
theorem dX8_runOf_25 : decode cX8_runOf 25 = .ok (.iload_n 2, 1) := by decide +kernel
theorem dX8_runOf_26 : decode cX8_runOf 26 = .ok (.iaload, 1) := by decide +kernel
theorem dX8_runOf_27 : decode cX8_runOf 27 = .ok (.ireturn, 1) := by decide +kernel
theorem dX8_runOf_28 : decode cX8_runOf 28 = .ok (.iload_n 2, 1) := by decide +kernel
theorem dX8_runOf_29 : decode cX8_runOf 29 = .ok (.lookupswitch 45 #[(4, 27), (5, 40)], 27) := by decide +kernel
theorem dX8_runOf_56 : decode cX8_runOf 56 = .ok (.aload_n 3, 1) := by decide +kernel
theorem dX8_runOf_57 : decode cX8_runOf 57 = .ok (.getfield 141, 3) := by decide +kernel
theorem dX8_runOf_60 : decode cX8_runOf 60 = .ok (.ifCond .eq 7, 3) := by decide +kernel
theorem dX8_runOf_63 : decode cX8_runOf 63 = .ok (.iconst 1, 1) := by decide +kernel
theorem dX8_runOf_64 : decode cX8_runOf 64 = .ok (.goto 4, 3) := by decide +kernel
theorem dX8_runOf_67 : decode cX8_runOf 67 = .ok (.iconst 0, 1) := by decide +kernel
theorem dX8_runOf_68 : decode cX8_runOf 68 = .ok (.ireturn, 1) := by decide +kernel
theorem dX8_runOf_69 : decode cX8_runOf 69 = .ok (.aload_n 3, 1) := by decide +kernel
theorem dX8_runOf_70 : decode cX8_runOf 70 = .ok (.getfield 145, 3) := by decide +kernel
theorem dX8_runOf_73 : decode cX8_runOf 73 = .ok (.ireturn, 1) := by decide +kernel
theorem dX8_runOf_74 : decode cX8_runOf 74 = .ok (.iconst (-1), 1) := by decide +kernel
theorem dX8_runOf_75 : decode cX8_runOf 75 = .ok (.ireturn, 1) := by decide +kernel
theorem dX8_task_0 : decode cX8_task 0 = .ok (.aload_n 0, 1) := by decide +kernel
theorem dX8_task_1 : decode cX8_task 1 = .ok (.getfield 26, 3) := by decide +kernel
theorem dX8_task_4 : decode cX8_task 4 = .ok (.iload_n 1, 1) := by decide +kernel
theorem dX8_task_5 : decode cX8_task 5 = .ok (.invokevirtual 148, 3) := by decide +kernel
theorem dX8_task_8 : decode cX8_task 8 = .ok (.ifCond .ne 5, 3) := by decide +kernel
theorem dX8_task_11 : decode cX8_task 11 = .ok (.iconst (-1), 1) := by decide +kernel
theorem dX8_task_12 : decode cX8_task 12 = .ok (.ireturn, 1) := by decide +kernel
theorem dX8_task_13 : decode cX8_task 13 = .ok (.iload_n 2, 1) := by decide +kernel
theorem dX8_task_14 : decode cX8_task 14 = .ok (.tableswitch 126 0 7 #[46, 56, 66, 76, 86, 96, 106, 116], 46) := by decide +kernel
theorem dX8_task_60 : decode cX8_task 60 = .ok (.aload_n 0, 1) := by decide +kernel
theorem dX8_task_61 : decode cX8_task 61 = .ok (.getfield 26, 3) := by decide +kernel
theorem dX8_task_64 : decode cX8_task 64 = .ok (.getfield 149, 3) := by decide +kernel
theorem dX8_task_67 : decode cX8_task 67 = .ok (.iload_n 1, 1) := by decide +kernel
theorem dX8_task_68 : decode cX8_task 68 = .ok (.iaload, 1) := by decide +kernel
theorem dX8_task_69 : decode cX8_task 69 = .ok (.ireturn, 1) := by decide +kernel
theorem dX8_task_70 : decode cX8_task 70 = .ok (.aload_n 0, 1) := by decide +kernel
theorem dX8_task_71 : decode cX8_task 71 = .ok (.getfield 26, 3) := by decide +kernel
theorem dX8_task_74 : decode cX8_task 74 = .ok (.getfield 151, 3) := by decide +kernel
theorem dX8_task_77 : decode cX8_task 77 = .ok (.iload_n 1, 1) := by decide +kernel
theorem dX8_task_78 : decode cX8_task 78 = .ok (.iaload, 1) := by decide +kernel
theorem dX8_task_79 : decode cX8_task 79 = .ok (.ireturn, 1) := by decide +kernel
theorem dX8_task_80 : decode cX8_task 80 = .ok (.aload_n 0, 1) := by decide +kernel
theorem dX8_task_81 : decode cX8_task 81 = .ok (.getfield 26, 3) := by decide +kernel
theorem dX8_task_84 : decode cX8_task 84 = .ok (.getfield 154, 3) := by decide +kernel
theorem dX8_task_87 : decode cX8_task 87 = .ok (.iload_n 1, 1) := by decide +kernel
theorem dX8_task_88 : decode cX8_task 88 = .ok (.iaload, 1) := by decide +kernel
theorem dX8_task_89 : decode cX8_task 89 = .ok (.ireturn, 1) := by decide +kernel
theorem dX8_task_90 : decode cX8_task 90 = .ok (.aload_n 0, 1) := by decide +kernel
theorem dX8_task_91 : decode cX8_task 91 = .ok (.getfield 26, 3) := by decide +kernel
theorem dX8_task_94 : decode cX8_task 94 = .ok (.getfield 157, 3) := by decide +kernel
theorem dX8_task_97 : decode cX8_task 97 = .ok (.iload_n 1, 1) := by decide +kernel
theorem dX8_task_98 : decode cX8_task 98 = .ok (.iaload, 1) := by decide +kernel
theorem dX8_task_99 : decode cX8_task 99 = .ok (.ireturn, 1) := by decide +kernel
theorem dX8_task_100 : decode cX8_task 100 = .ok (.aload_n 0, 1) := by decide +kernel
theorem dX8_task_101 : decode cX8_task 101 = .ok (.getfield 26, 3) := by decide +kernel
theorem dX8_task_104 : decode cX8_task 104 = .ok (.getfield 160, 3) := by decide +kernel
theorem dX8_task_107 : decode cX8_task 107 = .ok (.iload_n 1, 1) := by decide +kernel
theorem dX8_task_108 : decode cX8_task 108 = .ok (.iaload, 1) := by decide +kernel
theorem dX8_task_109 : decode cX8_task 109 = .ok (.ireturn, 1) := by decide +kernel
theorem dX8_task_110 : decode cX8_task 110 = .ok (.aload_n 0, 1) := by decide +kernel
theorem dX8_task_111 : decode cX8_task 111 = .ok (.getfield 26, 3) := by decide +kernel
theorem dX8_task_114 : decode cX8_task 114 = .ok (.getfield 163, 3) := by decide +kernel
theorem dX8_task_117 : decode cX8_task 117 = .ok (.iload_n 1, 1) := by decide +kernel
theorem dX8_task_118 : decode cX8_task 118 = .ok (.iaload, 1) := by decide +kernel
theorem dX8_task_119 : decode cX8_task 119 = .ok (.ireturn, 1) := by decide +kernel
theorem dX8_task_120 : decode cX8_task 120 = .ok (.aload_n 0, 1) := by decide +kernel
theorem dX8_task_121 : decode cX8_task 121 = .ok (.getfield 26, 3) := by decide +kernel
theorem dX8_task_124 : decode cX8_task 124 = .ok (.getfield 166, 3) := by decide +kernel
theorem dX8_task_127 : decode cX8_task 127 = .ok (.iload_n 1, 1) := by decide +kernel
theorem dX8_task_128 : decode cX8_task 128 = .ok (.iaload, 1) := by decide +kernel
theorem dX8_task_129 : decode cX8_task 129 = .ok (.ireturn, 1) := by decide +kernel
theorem dX8_task_130 : decode cX8_task 130 = .ok (.aload_n 0, 1) := by decide +kernel
theorem dX8_task_131 : decode cX8_task 131 = .ok (.getfield 26, 3) := by decide +kernel
theorem dX8_task_134 : decode cX8_task 134 = .ok (.getfield 169, 3) := by decide +kernel
theorem dX8_task_137 : decode cX8_task 137 = .ok (.iload_n 1, 1) := by decide +kernel
theorem dX8_task_138 : decode cX8_task 138 = .ok (.iaload, 1) := by decide +kernel
theorem dX8_task_139 : decode cX8_task 139 = .ok (.ireturn, 1) := by decide +kernel
theorem dX8_task_140 : decode cX8_task 140 = .ok (.iconst (-1), 1) := by decide +kernel
theorem dX8_task_141 : decode cX8_task 141 = .ok (.ireturn, 1) := by decide +kernel
theorem dX8_may_0 : decode cX8_may 0 = .ok (.aload_n 0, 1) := by decide +kernel
theorem dX8_may_1 : decode cX8_may 1 = .ok (.getfield 19, 3) := by decide +kernel
theorem dX8_may_4 : decode cX8_may 4 = .ok (.iload_n 1, 1) := by decide +kernel
theorem dX8_may_5 : decode cX8_may 5 = .ok (.invokevirtual 92, 3) := by decide +kernel
theorem dX8_may_8 : decode cX8_may 8 = .ok (.ifCond .eq 14, 3) := by decide +kernel
theorem dX8_may_11 : decode cX8_may 11 = .ok (.aload_n 0, 1) := by decide +kernel
theorem dX8_may_12 : decode cX8_may 12 = .ok (.getfield 26, 3) := by decide +kernel
theorem dX8_may_15 : decode cX8_may 15 = .ok (.iload_n 2, 1) := by decide +kernel
theorem dX8_may_16 : decode cX8_may 16 = .ok (.invokevirtual 148, 3) := by decide +kernel
theorem dX8_may_19 : decode cX8_may 19 = .ok (.ifCond .ne 5, 3) := by decide +kernel
theorem dX8_may_22 : decode cX8_may 22 = .ok (.iconst (-1), 1) := by decide +kernel
theorem dX8_may_23 : decode cX8_may 23 = .ok (.ireturn, 1) := by decide +kernel
theorem dX8_may_24 : decode cX8_may 24 = .ok (.aload_n 0, 1) := by decide +kernel
theorem dX8_may_25 : decode cX8_may 25 = .ok (.iload_n 1, 1) := by decide +kernel
theorem dX8_may_26 : decode cX8_may 26 = .ok (.aload_n 0, 1) := by decide +kernel
theorem dX8_may_27 : decode cX8_may 27 = .ok (.getfield 19, 3) := by decide +kernel
theorem dX8_may_30 : decode cX8_may 30 = .ok (.iload_n 1, 1) := by decide +kernel
theorem dX8_may_31 : decode cX8_may 31 = .ok (.invokevirtual 172, 3) := by decide +kernel
theorem dX8_may_34 : decode cX8_may 34 = .ok (.iload_n 2, 1) := by decide +kernel
theorem dX8_may_35 : decode cX8_may 35 = .ok (.invokevirtual 175, 3) := by decide +kernel
theorem dX8_may_38 : decode cX8_may 38 = .ok (.ifCond .eq 7, 3) := by decide +kernel
theorem dX8_may_41 : decode cX8_may 41 = .ok (.iconst 1, 1) := by decide +kernel
theorem dX8_may_42 : decode cX8_may 42 = .ok (.goto 4, 3) := by decide +kernel
theorem dX8_may_45 : decode cX8_may 45 = .ok (.iconst 0, 1) := by decide +kernel
theorem dX8_may_46 : decode cX8_may 46 = .ok (.ireturn, 1) := by decide +kernel
theorem dX8_claim_0 : decode cX8_claim 0 = .ok (.aload_n 0, 1) := by decide +kernel
theorem dX8_claim_1 : decode cX8_claim 1 = .ok (.getfield 19, 3) := by decide +kernel
theorem dX8_claim_4 : decode cX8_claim 4 = .ok (.iload_n 1, 1) := by decide +kernel
theorem dX8_claim_5 : decode cX8_claim 5 = .ok (.invokevirtual 92, 3) := by decide +kernel
theorem dX8_claim_8 : decode cX8_claim 8 = .ok (.ifCond .eq 15, 3) := by decide +kernel
theorem dX8_claim_11 : decode cX8_claim 11 = .ok (.aload_n 0, 1) := by decide +kernel
theorem dX8_claim_12 : decode cX8_claim 12 = .ok (.getfield 26, 3) := by decide +kernel
theorem dX8_claim_15 : decode cX8_claim 15 = .ok (.iload_n 2, 1) := by decide +kernel
theorem dX8_claim_16 : decode cX8_claim 16 = .ok (.iconst 0, 1) := by decide +kernel
theorem dX8_claim_17 : decode cX8_claim 17 = .ok (.invokevirtual 179, 3) := by decide +kernel
theorem dX8_claim_20 : decode cX8_claim 20 = .ok (.ifCond .ne 5, 3) := by decide +kernel
theorem dX8_claim_23 : decode cX8_claim 23 = .ok (.iconst (-1), 1) := by decide +kernel
theorem dX8_claim_24 : decode cX8_claim 24 = .ok (.ireturn, 1) := by decide +kernel
theorem dX8_claim_25 : decode cX8_claim 25 = .ok (.aload_n 0, 1) := by decide +kernel
theorem dX8_claim_26 : decode cX8_claim 26 = .ok (.getfield 19, 3) := by decide +kernel
theorem dX8_claim_29 : decode cX8_claim 29 = .ok (.iload_n 1, 1) := by decide +kernel
theorem dX8_claim_30 : decode cX8_claim 30 = .ok (.invokevirtual 183, 3) := by decide +kernel
theorem dX8_claim_33 : decode cX8_claim 33 = .ok (.ifCond .eq 20, 3) := by decide +kernel
theorem dX8_claim_36 : decode cX8_claim 36 = .ok (.aload_n 0, 1) := by decide +kernel
theorem dX8_claim_37 : decode cX8_claim 37 = .ok (.iload_n 1, 1) := by decide +kernel
theorem dX8_claim_38 : decode cX8_claim 38 = .ok (.aload_n 0, 1) := by decide +kernel
theorem dX8_claim_39 : decode cX8_claim 39 = .ok (.getfield 19, 3) := by decide +kernel
theorem dX8_claim_42 : decode cX8_claim 42 = .ok (.iload_n 1, 1) := by decide +kernel
theorem dX8_claim_43 : decode cX8_claim 43 = .ok (.invokevirtual 172, 3) := by decide +kernel
theorem dX8_claim_46 : decode cX8_claim 46 = .ok (.iload_n 2, 1) := by decide +kernel
theorem dX8_claim_47 : decode cX8_claim 47 = .ok (.invokevirtual 175, 3) := by decide +kernel
theorem dX8_claim_50 : decode cX8_claim 50 = .ok (.ifCond .ne 5, 3) := by decide +kernel
theorem dX8_claim_53 : decode cX8_claim 53 = .ok (.iconst (-1), 1) := by decide +kernel
theorem dX8_claim_54 : decode cX8_claim 54 = .ok (.ireturn, 1) := by decide +kernel
theorem dX8_claim_55 : decode cX8_claim 55 = .ok (.aload_n 0, 1) := by decide +kernel
theorem dX8_claim_56 : decode cX8_claim 56 = .ok (.getfield 26, 3) := by decide +kernel
theorem dX8_claim_59 : decode cX8_claim 59 = .ok (.iload_n 2, 1) := by decide +kernel
theorem dX8_claim_60 : decode cX8_claim 60 = .ok (.iload_n 1, 1) := by decide +kernel
theorem dX8_claim_61 : decode cX8_claim 61 = .ok (.invokevirtual 186, 3) := by decide +kernel
theorem dX8_claim_64 : decode cX8_claim 64 = .ok (.aload_n 0, 1) := by decide +kernel
theorem dX8_claim_65 : decode cX8_claim 65 = .ok (.getfield 19, 3) := by decide +kernel
theorem dX8_claim_68 : decode cX8_claim 68 = .ok (.getfield 107, 3) := by decide +kernel
theorem dX8_claim_71 : decode cX8_claim 71 = .ok (.iload_n 1, 1) := by decide +kernel
theorem dX8_claim_72 : decode cX8_claim 72 = .ok (.dup2, 1) := by decide +kernel
theorem dX8_claim_73 : decode cX8_claim 73 = .ok (.iaload, 1) := by decide +kernel
theorem dX8_claim_74 : decode cX8_claim 74 = .ok (.iconst 1, 1) := by decide +kernel
theorem dX8_claim_75 : decode cX8_claim 75 = .ok (.iadd, 1) := by decide +kernel
theorem dX8_claim_76 : decode cX8_claim 76 = .ok (.iastore, 1) := by decide +kernel
theorem dX8_claim_77 : decode cX8_claim 77 = .ok (.aload_n 0, 1) := by decide +kernel
theorem dX8_claim_78 : decode cX8_claim 78 = .ok (.getfield 19, 3) := by decide +kernel
theorem dX8_claim_81 : decode cX8_claim 81 = .ok (.getfield 107, 3) := by decide +kernel
theorem dX8_claim_84 : decode cX8_claim 84 = .ok (.iload_n 1, 1) := by decide +kernel
theorem dX8_claim_85 : decode cX8_claim 85 = .ok (.iaload, 1) := by decide +kernel
theorem dX8_claim_86 : decode cX8_claim 86 = .ok (.ireturn, 1) := by decide +kernel
theorem dX8_giveBack_0 : decode cX8_giveBack 0 = .ok (.aload_n 0, 1) := by decide +kernel
theorem dX8_giveBack_1 : decode cX8_giveBack 1 = .ok (.getfield 26, 3) := by decide +kernel
theorem dX8_giveBack_4 : decode cX8_giveBack 4 = .ok (.iload_n 1, 1) := by decide +kernel
theorem dX8_giveBack_5 : decode cX8_giveBack 5 = .ok (.iconst 1, 1) := by decide +kernel
theorem dX8_giveBack_6 : decode cX8_giveBack 6 = .ok (.invokevirtual 179, 3) := by decide +kernel
theorem dX8_giveBack_9 : decode cX8_giveBack 9 = .ok (.ifCond .ne 5, 3) := by decide +kernel
theorem dX8_giveBack_12 : decode cX8_giveBack 12 = .ok (.iconst 0, 1) := by decide +kernel
theorem dX8_giveBack_13 : decode cX8_giveBack 13 = .ok (.ireturn, 1) := by decide +kernel
theorem dX8_giveBack_14 : decode cX8_giveBack 14 = .ok (.aload_n 0, 1) := by decide +kernel
theorem dX8_giveBack_15 : decode cX8_giveBack 15 = .ok (.getfield 19, 3) := by decide +kernel
theorem dX8_giveBack_18 : decode cX8_giveBack 18 = .ok (.aload_n 0, 1) := by decide +kernel
theorem dX8_giveBack_19 : decode cX8_giveBack 19 = .ok (.getfield 26, 3) := by decide +kernel
theorem dX8_giveBack_22 : decode cX8_giveBack 22 = .ok (.getfield 166, 3) := by decide +kernel
theorem dX8_giveBack_25 : decode cX8_giveBack 25 = .ok (.iload_n 1, 1) := by decide +kernel
theorem dX8_giveBack_26 : decode cX8_giveBack 26 = .ok (.iaload, 1) := by decide +kernel
theorem dX8_giveBack_27 : decode cX8_giveBack 27 = .ok (.invokevirtual 190, 3) := by decide +kernel
theorem dX8_giveBack_30 : decode cX8_giveBack 30 = .ok (.aload_n 0, 1) := by decide +kernel
theorem dX8_giveBack_31 : decode cX8_giveBack 31 = .ok (.getfield 26, 3) := by decide +kernel
theorem dX8_giveBack_34 : decode cX8_giveBack 34 = .ok (.iload_n 1, 1) := by decide +kernel
theorem dX8_giveBack_35 : decode cX8_giveBack 35 = .ok (.invokevirtual 193, 3) := by decide +kernel
theorem dX8_giveBack_38 : decode cX8_giveBack 38 = .ok (.iconst 1, 1) := by decide +kernel
theorem dX8_giveBack_39 : decode cX8_giveBack 39 = .ok (.ireturn, 1) := by decide +kernel
theorem dX8_done_0 : decode cX8_done 0 = .ok (.aload_n 0, 1) := by decide +kernel
theorem dX8_done_1 : decode cX8_done 1 = .ok (.getfield 26, 3) := by decide +kernel
theorem dX8_done_4 : decode cX8_done 4 = .ok (.iload_n 1, 1) := by decide +kernel
theorem dX8_done_5 : decode cX8_done 5 = .ok (.iconst 1, 1) := by decide +kernel
theorem dX8_done_6 : decode cX8_done 6 = .ok (.invokevirtual 179, 3) := by decide +kernel
theorem dX8_done_9 : decode cX8_done 9 = .ok (.ifCond .eq 13, 3) := by decide +kernel
theorem dX8_done_12 : decode cX8_done 12 = .ok (.iload_n 2, 1) := by decide +kernel
theorem dX8_done_13 : decode cX8_done 13 = .ok (.iconst (-1), 1) := by decide +kernel
theorem dX8_done_14 : decode cX8_done 14 = .ok (.if_icmp .lt 8, 3) := by decide +kernel
theorem dX8_done_17 : decode cX8_done 17 = .ok (.iload_n 2, 1) := by decide +kernel
theorem dX8_done_18 : decode cX8_done 18 = .ok (.iconst 4, 1) := by decide +kernel
theorem dX8_done_19 : decode cX8_done 19 = .ok (.if_icmp .lt 5, 3) := by decide +kernel
theorem dX8_done_22 : decode cX8_done 22 = .ok (.iconst (-1), 1) := by decide +kernel
theorem dX8_done_23 : decode cX8_done 23 = .ok (.ireturn, 1) := by decide +kernel
theorem dX8_done_24 : decode cX8_done 24 = .ok (.iload_n 2, 1) := by decide +kernel
theorem dX8_done_25 : decode cX8_done 25 = .ok (.iconst (-1), 1) := by decide +kernel
theorem dX8_done_26 : decode cX8_done 26 = .ok (.if_icmp .eq 15, 3) := by decide +kernel
theorem dX8_done_29 : decode cX8_done 29 = .ok (.iload_n 3, 1) := by decide +kernel
theorem dX8_done_30 : decode cX8_done 30 = .ok (.ifCond .lt 9, 3) := by decide +kernel
theorem dX8_done_33 : decode cX8_done 33 = .ok (.iload_n 3, 1) := by decide +kernel
theorem dX8_done_34 : decode cX8_done 34 = .ok (.bipush 99, 2) := by decide +kernel
theorem dX8_done_36 : decode cX8_done 36 = .ok (.if_icmp .le 5, 3) := by decide +kernel
theorem dX8_done_39 : decode cX8_done 39 = .ok (.iconst (-1), 1) := by decide +kernel
theorem dX8_done_40 : decode cX8_done 40 = .ok (.ireturn, 1) := by decide +kernel
theorem dX8_done_41 : decode cX8_done 41 = .ok (.aload_n 0, 1) := by decide +kernel
theorem dX8_done_42 : decode cX8_done 42 = .ok (.aload_n 0, 1) := by decide +kernel
theorem dX8_done_43 : decode cX8_done 43 = .ok (.getfield 26, 3) := by decide +kernel
theorem dX8_done_46 : decode cX8_done 46 = .ok (.getfield 149, 3) := by decide +kernel
theorem dX8_done_49 : decode cX8_done 49 = .ok (.iload_n 1, 1) := by decide +kernel
theorem dX8_done_50 : decode cX8_done 50 = .ok (.iaload, 1) := by decide +kernel
theorem dX8_done_51 : decode cX8_done 51 = .ok (.invokevirtual 134, 3) := by decide +kernel
theorem dX8_done_54 : decode cX8_done 54 = .ok (.astore 4, 2) := by decide +kernel
theorem dX8_done_56 : decode cX8_done 56 = .ok (.aload 4, 2) := by decide +kernel
theorem dX8_done_58 : decode cX8_done 58 = .ok (.ifnonnull 5, 3) := by decide +kernel
theorem dX8_done_61 : decode cX8_done 61 = .ok (.iconst (-1), 1) := by decide +kernel
theorem dX8_done_62 : decode cX8_done 62 = .ok (.ireturn, 1) := by decide +kernel
theorem dX8_done_63 : decode cX8_done 63 = .ok (.aload_n 0, 1) := by decide +kernel
theorem dX8_done_64 : decode cX8_done 64 = .ok (.getfield 33, 3) := by decide +kernel
theorem dX8_done_67 : decode cX8_done 67 = .ok (.aload 4, 2) := by decide +kernel
theorem dX8_done_69 : decode cX8_done 69 = .ok (.invokevirtual 196, 3) := by decide +kernel
theorem dX8_done_72 : decode cX8_done 72 = .ok (.aload_n 0, 1) := by decide +kernel
theorem dX8_done_73 : decode cX8_done 73 = .ok (.getfield 33, 3) := by decide +kernel
theorem dX8_done_76 : decode cX8_done 76 = .ok (.iload_n 2, 1) := by decide +kernel
theorem dX8_done_77 : decode cX8_done 77 = .ok (.iload_n 3, 1) := by decide +kernel
theorem dX8_done_78 : decode cX8_done 78 = .ok (.invokevirtual 199, 3) := by decide +kernel
theorem dX8_done_81 : decode cX8_done 81 = .ok (.aload_n 0, 1) := by decide +kernel
theorem dX8_done_82 : decode cX8_done 82 = .ok (.getfield 33, 3) := by decide +kernel
theorem dX8_done_85 : decode cX8_done 85 = .ok (.aload 4, 2) := by decide +kernel
theorem dX8_done_87 : decode cX8_done 87 = .ok (.getfield 202, 3) := by decide +kernel
theorem dX8_done_90 : decode cX8_done 90 = .ok (.aload 4, 2) := by decide +kernel
theorem dX8_done_92 : decode cX8_done 92 = .ok (.getfield 202, 3) := by decide +kernel
theorem dX8_done_95 : decode cX8_done 95 = .ok (.aload_n 0, 1) := by decide +kernel
theorem dX8_done_96 : decode cX8_done 96 = .ok (.getfield 26, 3) := by decide +kernel
theorem dX8_done_99 : decode cX8_done 99 = .ok (.getfield 151, 3) := by decide +kernel
theorem dX8_done_102 : decode cX8_done 102 = .ok (.iload_n 1, 1) := by decide +kernel
theorem dX8_done_103 : decode cX8_done 103 = .ok (.iaload, 1) := by decide +kernel
theorem dX8_done_104 : decode cX8_done 104 = .ok (.invokevirtual 205, 3) := by decide +kernel
theorem dX8_done_107 : decode cX8_done 107 = .ok (.invokevirtual 117, 3) := by decide +kernel
theorem dX8_done_110 : decode cX8_done 110 = .ok (.aload_n 0, 1) := by decide +kernel
theorem dX8_done_111 : decode cX8_done 111 = .ok (.getfield 26, 3) := by decide +kernel
theorem dX8_done_114 : decode cX8_done 114 = .ok (.aload_n 0, 1) := by decide +kernel
theorem dX8_done_115 : decode cX8_done 115 = .ok (.getfield 33, 3) := by decide +kernel
theorem dX8_done_118 : decode cX8_done 118 = .ok (.getfield 121, 3) := by decide +kernel
theorem dX8_done_121 : decode cX8_done 121 = .ok (.invokevirtual 124, 3) := by decide +kernel
theorem dX8_done_124 : decode cX8_done 124 = .ok (.ifCond .ne 5, 3) := by decide +kernel
theorem dX8_done_127 : decode cX8_done 127 = .ok (.iconst (-1), 1) := by decide +kernel
theorem dX8_done_128 : decode cX8_done 128 = .ok (.ireturn, 1) := by decide +kernel
theorem dX8_done_129 : decode cX8_done 129 = .ok (.aload_n 0, 1) := by decide +kernel
theorem dX8_done_130 : decode cX8_done 130 = .ok (.aload 4, 2) := by decide +kernel
theorem dX8_done_132 : decode cX8_done 132 = .ok (.iload_n 1, 1) := by decide +kernel
theorem dX8_done_133 : decode cX8_done 133 = .ok (.invokevirtual 208, 3) := by decide +kernel
theorem dX8_done_136 : decode cX8_done 136 = .ok (.aload_n 0, 1) := by decide +kernel
theorem dX8_done_137 : decode cX8_done 137 = .ok (.aload 4, 2) := by decide +kernel
theorem dX8_done_139 : decode cX8_done 139 = .ok (.invokevirtual 130, 3) := by decide +kernel
theorem dX8_done_142 : decode cX8_done 142 = .ok (.aload_n 0, 1) := by decide +kernel
theorem dX8_done_143 : decode cX8_done 143 = .ok (.getfield 33, 3) := by decide +kernel
theorem dX8_done_146 : decode cX8_done 146 = .ok (.getfield 121, 3) := by decide +kernel
theorem dX8_done_149 : decode cX8_done 149 = .ok (.ireturn, 1) := by decide +kernel
theorem dX8_list_0 : decode cX8_list 0 = .ok (.aload_n 0, 1) := by decide +kernel
theorem dX8_list_1 : decode cX8_list 1 = .ok (.getfield 19, 3) := by decide +kernel
theorem dX8_list_4 : decode cX8_list 4 = .ok (.iload_n 1, 1) := by decide +kernel
theorem dX8_list_5 : decode cX8_list 5 = .ok (.invokevirtual 92, 3) := by decide +kernel
theorem dX8_list_8 : decode cX8_list 8 = .ok (.ifCond .ne 5, 3) := by decide +kernel
theorem dX8_list_11 : decode cX8_list 11 = .ok (.iconst (-1), 1) := by decide +kernel
theorem dX8_list_12 : decode cX8_list 12 = .ok (.ireturn, 1) := by decide +kernel
theorem dX8_list_13 : decode cX8_list 13 = .ok (.aload_n 0, 1) := by decide +kernel
theorem dX8_list_14 : decode cX8_list 14 = .ok (.getfield 19, 3) := by decide +kernel
theorem dX8_list_17 : decode cX8_list 17 = .ok (.iload_n 1, 1) := by decide +kernel
theorem dX8_list_18 : decode cX8_list 18 = .ok (.invokevirtual 172, 3) := by decide +kernel
theorem dX8_list_21 : decode cX8_list 21 = .ok (.istore_n 2, 1) := by decide +kernel
theorem dX8_list_22 : decode cX8_list 22 = .ok (.iconst 0, 1) := by decide +kernel
theorem dX8_list_23 : decode cX8_list 23 = .ok (.istore_n 3, 1) := by decide +kernel
theorem dX8_list_24 : decode cX8_list 24 = .ok (.iconst 0, 1) := by decide +kernel
theorem dX8_list_25 : decode cX8_list 25 = .ok (.istore 4, 2) := by decide +kernel
theorem dX8_list_27 : decode cX8_list 27 = .ok (.iload 4, 2) := by decide +kernel
theorem dX8_list_29 : decode cX8_list 29 = .ok (.aload_n 0, 1) := by decide +kernel
theorem dX8_list_30 : decode cX8_list 30 = .ok (.getfield 26, 3) := by decide +kernel
theorem dX8_list_33 : decode cX8_list 33 = .ok (.getfield 212, 3) := by decide +kernel
theorem dX8_list_36 : decode cX8_list 36 = .ok (.if_icmp .ge 23, 3) := by decide +kernel
theorem dX8_list_39 : decode cX8_list 39 = .ok (.aload_n 0, 1) := by decide +kernel
theorem dX8_list_40 : decode cX8_list 40 = .ok (.iload_n 1, 1) := by decide +kernel
theorem dX8_list_41 : decode cX8_list 41 = .ok (.iload_n 2, 1) := by decide +kernel
theorem dX8_list_42 : decode cX8_list 42 = .ok (.iload 4, 2) := by decide +kernel
theorem dX8_list_44 : decode cX8_list 44 = .ok (.invokevirtual 215, 3) := by decide +kernel
theorem dX8_list_47 : decode cX8_list 47 = .ok (.ifCond .eq 6, 3) := by decide +kernel
theorem dX8_list_50 : decode cX8_list 50 = .ok (.iinc 3 1, 3) := by decide +kernel
theorem dX8_list_53 : decode cX8_list 53 = .ok (.iinc 4 1, 3) := by decide +kernel
theorem dX8_list_56 : decode cX8_list 56 = .ok (.goto (-29), 3) := by decide +kernel
theorem dX8_list_59 : decode cX8_list 59 = .ok (.iload_n 3, 1) := by decide +kernel
theorem dX8_list_60 : decode cX8_list 60 = .ok (.ireturn, 1) := by decide +kernel
theorem dX8_listed_0 : decode cX8_listed 0 = .ok (.aload_n 0, 1) := by decide +kernel
theorem dX8_listed_1 : decode cX8_listed 1 = .ok (.getfield 19, 3) := by decide +kernel
theorem dX8_listed_4 : decode cX8_listed 4 = .ok (.iload_n 1, 1) := by decide +kernel
theorem dX8_listed_5 : decode cX8_listed 5 = .ok (.invokevirtual 92, 3) := by decide +kernel
theorem dX8_listed_8 : decode cX8_listed 8 = .ok (.ifCond .eq 7, 3) := by decide +kernel
theorem dX8_listed_11 : decode cX8_listed 11 = .ok (.iload_n 2, 1) := by decide +kernel
theorem dX8_listed_12 : decode cX8_listed 12 = .ok (.ifCond .ge 5, 3) := by decide +kernel
theorem dX8_listed_15 : decode cX8_listed 15 = .ok (.iconst (-1), 1) := by decide +kernel
theorem dX8_listed_16 : decode cX8_listed 16 = .ok (.ireturn, 1) := by decide +kernel
theorem dX8_listed_17 : decode cX8_listed 17 = .ok (.aload_n 0, 1) := by decide +kernel
theorem dX8_listed_18 : decode cX8_listed 18 = .ok (.getfield 19, 3) := by decide +kernel
theorem dX8_listed_21 : decode cX8_listed 21 = .ok (.iload_n 1, 1) := by decide +kernel
theorem dX8_listed_22 : decode cX8_listed 22 = .ok (.invokevirtual 172, 3) := by decide +kernel
theorem dX8_listed_25 : decode cX8_listed 25 = .ok (.istore_n 3, 1) := by decide +kernel
theorem dX8_listed_26 : decode cX8_listed 26 = .ok (.iconst 0, 1) := by decide +kernel
theorem dX8_listed_27 : decode cX8_listed 27 = .ok (.istore 4, 2) := by decide +kernel
theorem dX8_listed_29 : decode cX8_listed 29 = .ok (.iconst 0, 1) := by decide +kernel
theorem dX8_listed_30 : decode cX8_listed 30 = .ok (.istore 5, 2) := by decide +kernel
theorem dX8_listed_32 : decode cX8_listed 32 = .ok (.iload 5, 2) := by decide +kernel
theorem dX8_listed_34 : decode cX8_listed 34 = .ok (.aload_n 0, 1) := by decide +kernel
theorem dX8_listed_35 : decode cX8_listed 35 = .ok (.getfield 26, 3) := by decide +kernel
theorem dX8_listed_38 : decode cX8_listed 38 = .ok (.getfield 212, 3) := by decide +kernel
theorem dX8_listed_41 : decode cX8_listed 41 = .ok (.if_icmp .ge 44, 3) := by decide +kernel
theorem dX8_listed_44 : decode cX8_listed 44 = .ok (.aload_n 0, 1) := by decide +kernel
theorem dX8_listed_45 : decode cX8_listed 45 = .ok (.getfield 26, 3) := by decide +kernel
theorem dX8_listed_48 : decode cX8_listed 48 = .ok (.getfield 218, 3) := by decide +kernel
theorem dX8_listed_51 : decode cX8_listed 51 = .ok (.iload 5, 2) := by decide +kernel
theorem dX8_listed_53 : decode cX8_listed 53 = .ok (.iaload, 1) := by decide +kernel
theorem dX8_listed_54 : decode cX8_listed 54 = .ok (.istore 6, 2) := by decide +kernel
theorem dX8_listed_56 : decode cX8_listed 56 = .ok (.aload_n 0, 1) := by decide +kernel
theorem dX8_listed_57 : decode cX8_listed 57 = .ok (.iload_n 1, 1) := by decide +kernel
theorem dX8_listed_58 : decode cX8_listed 58 = .ok (.iload_n 3, 1) := by decide +kernel
theorem dX8_listed_59 : decode cX8_listed 59 = .ok (.iload 6, 2) := by decide +kernel
theorem dX8_listed_61 : decode cX8_listed 61 = .ok (.invokevirtual 215, 3) := by decide +kernel
theorem dX8_listed_64 : decode cX8_listed 64 = .ok (.ifCond .eq 15, 3) := by decide +kernel
theorem dX8_listed_67 : decode cX8_listed 67 = .ok (.iload 4, 2) := by decide +kernel
theorem dX8_listed_69 : decode cX8_listed 69 = .ok (.iload_n 2, 1) := by decide +kernel
theorem dX8_listed_70 : decode cX8_listed 70 = .ok (.if_icmp .ne 6, 3) := by decide +kernel
theorem dX8_listed_73 : decode cX8_listed 73 = .ok (.iload 6, 2) := by decide +kernel
theorem dX8_listed_75 : decode cX8_listed 75 = .ok (.ireturn, 1) := by decide +kernel
theorem dX8_listed_76 : decode cX8_listed 76 = .ok (.iinc 4 1, 3) := by decide +kernel
theorem dX8_listed_79 : decode cX8_listed 79 = .ok (.iinc 5 1, 3) := by decide +kernel
theorem dX8_listed_82 : decode cX8_listed 82 = .ok (.goto (-50), 3) := by decide +kernel
theorem dX8_listed_85 : decode cX8_listed 85 = .ok (.iconst (-1), 1) := by decide +kernel
theorem dX8_listed_86 : decode cX8_listed 86 = .ok (.ireturn, 1) := by decide +kernel
theorem dX8_offer_0 : decode cX8_offer 0 = .ok (.aload_n 0, 1) := by decide +kernel
theorem dX8_offer_1 : decode cX8_offer 1 = .ok (.getfield 26, 3) := by decide +kernel
theorem dX8_offer_4 : decode cX8_offer 4 = .ok (.iload_n 1, 1) := by decide +kernel
theorem dX8_offer_5 : decode cX8_offer 5 = .ok (.iconst 0, 1) := by decide +kernel
theorem dX8_offer_6 : decode cX8_offer 6 = .ok (.invokevirtual 179, 3) := by decide +kernel
theorem dX8_offer_9 : decode cX8_offer 9 = .ok (.ifCond .ne 5, 3) := by decide +kernel
theorem dX8_offer_12 : decode cX8_offer 12 = .ok (.iconst (-1), 1) := by decide +kernel
theorem dX8_offer_13 : decode cX8_offer 13 = .ok (.ireturn, 1) := by decide +kernel
theorem dX8_offer_14 : decode cX8_offer 14 = .ok (.iconst (-1), 1) := by decide +kernel
theorem dX8_offer_15 : decode cX8_offer 15 = .ok (.istore_n 2, 1) := by decide +kernel
theorem dX8_offer_16 : decode cX8_offer 16 = .ok (.iconst 0, 1) := by decide +kernel
theorem dX8_offer_17 : decode cX8_offer 17 = .ok (.istore_n 3, 1) := by decide +kernel
theorem dX8_offer_18 : decode cX8_offer 18 = .ok (.iload_n 3, 1) := by decide +kernel
theorem dX8_offer_19 : decode cX8_offer 19 = .ok (.aload_n 0, 1) := by decide +kernel
theorem dX8_offer_20 : decode cX8_offer 20 = .ok (.getfield 19, 3) := by decide +kernel
theorem dX8_offer_23 : decode cX8_offer 23 = .ok (.getfield 221, 3) := by decide +kernel
theorem dX8_offer_26 : decode cX8_offer 26 = .ok (.if_icmp .ge 77, 3) := by decide +kernel
theorem dX8_offer_29 : decode cX8_offer 29 = .ok (.iload_n 2, 1) := by decide +kernel
theorem dX8_offer_30 : decode cX8_offer 30 = .ok (.iconst (-1), 1) := by decide +kernel
theorem dX8_offer_31 : decode cX8_offer 31 = .ok (.if_icmp .eq 24, 3) := by decide +kernel
theorem dX8_offer_34 : decode cX8_offer 34 = .ok (.aload_n 0, 1) := by decide +kernel
theorem dX8_offer_35 : decode cX8_offer 35 = .ok (.getfield 19, 3) := by decide +kernel
theorem dX8_offer_38 : decode cX8_offer 38 = .ok (.getfield 107, 3) := by decide +kernel
theorem dX8_offer_41 : decode cX8_offer 41 = .ok (.iload_n 3, 1) := by decide +kernel
theorem dX8_offer_42 : decode cX8_offer 42 = .ok (.iaload, 1) := by decide +kernel
theorem dX8_offer_43 : decode cX8_offer 43 = .ok (.aload_n 0, 1) := by decide +kernel
theorem dX8_offer_44 : decode cX8_offer 44 = .ok (.getfield 19, 3) := by decide +kernel
theorem dX8_offer_47 : decode cX8_offer 47 = .ok (.getfield 107, 3) := by decide +kernel
theorem dX8_offer_50 : decode cX8_offer 50 = .ok (.iload_n 2, 1) := by decide +kernel
theorem dX8_offer_51 : decode cX8_offer 51 = .ok (.iaload, 1) := by decide +kernel
theorem dX8_offer_52 : decode cX8_offer 52 = .ok (.if_icmp .ge 7, 3) := by decide +kernel
theorem dX8_offer_55 : decode cX8_offer 55 = .ok (.iconst 1, 1) := by decide +kernel
theorem dX8_offer_56 : decode cX8_offer 56 = .ok (.goto 4, 3) := by decide +kernel
theorem dX8_offer_59 : decode cX8_offer 59 = .ok (.iconst 0, 1) := by decide +kernel
theorem dX8_offer_60 : decode cX8_offer 60 = .ok (.istore 4, 2) := by decide +kernel
theorem dX8_offer_62 : decode cX8_offer 62 = .ok (.iload 4, 2) := by decide +kernel
theorem dX8_offer_64 : decode cX8_offer 64 = .ok (.ifCond .eq 33, 3) := by decide +kernel
theorem dX8_offer_67 : decode cX8_offer 67 = .ok (.aload_n 0, 1) := by decide +kernel
theorem dX8_offer_68 : decode cX8_offer 68 = .ok (.getfield 19, 3) := by decide +kernel
theorem dX8_offer_71 : decode cX8_offer 71 = .ok (.iload_n 3, 1) := by decide +kernel
theorem dX8_offer_72 : decode cX8_offer 72 = .ok (.invokevirtual 183, 3) := by decide +kernel
theorem dX8_offer_75 : decode cX8_offer 75 = .ok (.ifCond .eq 22, 3) := by decide +kernel
theorem dX8_offer_78 : decode cX8_offer 78 = .ok (.aload_n 0, 1) := by decide +kernel
theorem dX8_offer_79 : decode cX8_offer 79 = .ok (.iload_n 3, 1) := by decide +kernel
theorem dX8_offer_80 : decode cX8_offer 80 = .ok (.aload_n 0, 1) := by decide +kernel
theorem dX8_offer_81 : decode cX8_offer 81 = .ok (.getfield 19, 3) := by decide +kernel
theorem dX8_offer_84 : decode cX8_offer 84 = .ok (.iload_n 3, 1) := by decide +kernel
theorem dX8_offer_85 : decode cX8_offer 85 = .ok (.invokevirtual 172, 3) := by decide +kernel
theorem dX8_offer_88 : decode cX8_offer 88 = .ok (.iload_n 1, 1) := by decide +kernel
theorem dX8_offer_89 : decode cX8_offer 89 = .ok (.invokevirtual 175, 3) := by decide +kernel
theorem dX8_offer_92 : decode cX8_offer 92 = .ok (.ifCond .eq 5, 3) := by decide +kernel
theorem dX8_offer_95 : decode cX8_offer 95 = .ok (.iload_n 3, 1) := by decide +kernel
theorem dX8_offer_96 : decode cX8_offer 96 = .ok (.istore_n 2, 1) := by decide +kernel
theorem dX8_offer_97 : decode cX8_offer 97 = .ok (.iinc 3 1, 3) := by decide +kernel
theorem dX8_offer_100 : decode cX8_offer 100 = .ok (.goto (-82), 3) := by decide +kernel
theorem dX8_offer_103 : decode cX8_offer 103 = .ok (.iload_n 2, 1) := by decide +kernel
theorem dX8_offer_104 : decode cX8_offer 104 = .ok (.ireturn, 1) := by decide +kernel
theorem dX8_late_0 : decode cX8_late 0 = .ok (.iconst 0, 1) := by decide +kernel
theorem dX8_late_1 : decode cX8_late 1 = .ok (.istore_n 1, 1) := by decide +kernel
theorem dX8_late_2 : decode cX8_late 2 = .ok (.iconst 0, 1) := by decide +kernel
theorem dX8_late_3 : decode cX8_late 3 = .ok (.istore_n 2, 1) := by decide +kernel
theorem dX8_late_4 : decode cX8_late 4 = .ok (.iload_n 2, 1) := by decide +kernel
theorem dX8_late_5 : decode cX8_late 5 = .ok (.aload_n 0, 1) := by decide +kernel
theorem dX8_late_6 : decode cX8_late 6 = .ok (.getfield 26, 3) := by decide +kernel
theorem dX8_late_9 : decode cX8_late 9 = .ok (.getfield 212, 3) := by decide +kernel
theorem dX8_late_12 : decode cX8_late 12 = .ok (.if_icmp .ge 41, 3) := by decide +kernel
theorem dX8_late_15 : decode cX8_late 15 = .ok (.aload_n 0, 1) := by decide +kernel
theorem dX8_late_16 : decode cX8_late 16 = .ok (.getfield 26, 3) := by decide +kernel
theorem dX8_late_19 : decode cX8_late 19 = .ok (.getfield 163, 3) := by decide +kernel
theorem dX8_late_22 : decode cX8_late 22 = .ok (.iload_n 2, 1) := by decide +kernel
theorem dX8_late_23 : decode cX8_late 23 = .ok (.iaload, 1) := by decide +kernel
theorem dX8_late_24 : decode cX8_late 24 = .ok (.iconst 2, 1) := by decide +kernel
theorem dX8_late_25 : decode cX8_late 25 = .ok (.if_icmp .eq 22, 3) := by decide +kernel
theorem dX8_late_28 : decode cX8_late 28 = .ok (.aload_n 0, 1) := by decide +kernel
theorem dX8_late_29 : decode cX8_late 29 = .ok (.getfield 26, 3) := by decide +kernel
theorem dX8_late_32 : decode cX8_late 32 = .ok (.getfield 160, 3) := by decide +kernel
theorem dX8_late_35 : decode cX8_late 35 = .ok (.iload_n 2, 1) := by decide +kernel
theorem dX8_late_36 : decode cX8_late 36 = .ok (.iaload, 1) := by decide +kernel
theorem dX8_late_37 : decode cX8_late 37 = .ok (.aload_n 0, 1) := by decide +kernel
theorem dX8_late_38 : decode cX8_late 38 = .ok (.getfield 51, 3) := by decide +kernel
theorem dX8_late_41 : decode cX8_late 41 = .ok (.if_icmp .ge 6, 3) := by decide +kernel
theorem dX8_late_44 : decode cX8_late 44 = .ok (.iinc 1 1, 3) := by decide +kernel
theorem dX8_late_47 : decode cX8_late 47 = .ok (.iinc 2 1, 3) := by decide +kernel
theorem dX8_late_50 : decode cX8_late 50 = .ok (.goto (-46), 3) := by decide +kernel
theorem dX8_late_53 : decode cX8_late 53 = .ok (.iload_n 1, 1) := by decide +kernel
theorem dX8_late_54 : decode cX8_late 54 = .ok (.ireturn, 1) := by decide +kernel
theorem dX8_personOf_0 : decode cX8_personOf 0 = .ok (.aload_n 0, 1) := by decide +kernel
theorem dX8_personOf_1 : decode cX8_personOf 1 = .ok (.getfield 19, 3) := by decide +kernel
theorem dX8_personOf_4 : decode cX8_personOf 4 = .ok (.iload_n 1, 1) := by decide +kernel
theorem dX8_personOf_5 : decode cX8_personOf 5 = .ok (.invokevirtual 92, 3) := by decide +kernel
theorem dX8_personOf_8 : decode cX8_personOf 8 = .ok (.ifCond .ne 5, 3) := by decide +kernel
theorem dX8_personOf_11 : decode cX8_personOf 11 = .ok (.iconst (-1), 1) := by decide +kernel
theorem dX8_personOf_12 : decode cX8_personOf 12 = .ok (.ireturn, 1) := by decide +kernel
theorem dX8_personOf_13 : decode cX8_personOf 13 = .ok (.iload_n 2, 1) := by decide +kernel
theorem dX8_personOf_14 : decode cX8_personOf 14 = .ok (.tableswitch 106 0 5 #[38, 48, 58, 68, 86, 96], 38) := by decide +kernel
theorem dX8_personOf_52 : decode cX8_personOf 52 = .ok (.aload_n 0, 1) := by decide +kernel
theorem dX8_personOf_53 : decode cX8_personOf 53 = .ok (.getfield 19, 3) := by decide +kernel
theorem dX8_personOf_56 : decode cX8_personOf 56 = .ok (.getfield 222, 3) := by decide +kernel
theorem dX8_personOf_59 : decode cX8_personOf 59 = .ok (.iload_n 1, 1) := by decide +kernel
theorem dX8_personOf_60 : decode cX8_personOf 60 = .ok (.iaload, 1) := by decide +kernel
theorem dX8_personOf_61 : decode cX8_personOf 61 = .ok (.ireturn, 1) := by decide +kernel
theorem dX8_personOf_62 : decode cX8_personOf 62 = .ok (.aload_n 0, 1) := by decide +kernel
theorem dX8_personOf_63 : decode cX8_personOf 63 = .ok (.getfield 19, 3) := by decide +kernel
theorem dX8_personOf_66 : decode cX8_personOf 66 = .ok (.getfield 223, 3) := by decide +kernel
theorem dX8_personOf_69 : decode cX8_personOf 69 = .ok (.iload_n 1, 1) := by decide +kernel
theorem dX8_personOf_70 : decode cX8_personOf 70 = .ok (.iaload, 1) := by decide +kernel
theorem dX8_personOf_71 : decode cX8_personOf 71 = .ok (.ireturn, 1) := by decide +kernel
theorem dX8_personOf_72 : decode cX8_personOf 72 = .ok (.aload_n 0, 1) := by decide +kernel
theorem dX8_personOf_73 : decode cX8_personOf 73 = .ok (.getfield 19, 3) := by decide +kernel
theorem dX8_personOf_76 : decode cX8_personOf 76 = .ok (.getfield 107, 3) := by decide +kernel
theorem dX8_personOf_79 : decode cX8_personOf 79 = .ok (.iload_n 1, 1) := by decide +kernel
theorem dX8_personOf_80 : decode cX8_personOf 80 = .ok (.iaload, 1) := by decide +kernel
theorem dX8_personOf_81 : decode cX8_personOf 81 = .ok (.ireturn, 1) := by decide +kernel
theorem dX8_personOf_82 : decode cX8_personOf 82 = .ok (.aload_n 0, 1) := by decide +kernel
theorem dX8_personOf_83 : decode cX8_personOf 83 = .ok (.getfield 19, 3) := by decide +kernel
theorem dX8_personOf_86 : decode cX8_personOf 86 = .ok (.getfield 100, 3) := by decide +kernel
theorem dX8_personOf_89 : decode cX8_personOf 89 = .ok (.iload_n 1, 1) := by decide +kernel
theorem dX8_personOf_90 : decode cX8_personOf 90 = .ok (.baload, 1) := by decide +kernel
theorem dX8_personOf_91 : decode cX8_personOf 91 = .ok (.ifCond .eq 7, 3) := by decide +kernel
theorem dX8_personOf_94 : decode cX8_personOf 94 = .ok (.iconst 1, 1) := by decide +kernel
theorem dX8_personOf_95 : decode cX8_personOf 95 = .ok (.goto 4, 3) := by decide +kernel
theorem dX8_personOf_98 : decode cX8_personOf 98 = .ok (.iconst 0, 1) := by decide +kernel
theorem dX8_personOf_99 : decode cX8_personOf 99 = .ok (.ireturn, 1) := by decide +kernel
theorem dX8_personOf_100 : decode cX8_personOf 100 = .ok (.aload_n 0, 1) := by decide +kernel
theorem dX8_personOf_101 : decode cX8_personOf 101 = .ok (.getfield 19, 3) := by decide +kernel
theorem dX8_personOf_104 : decode cX8_personOf 104 = .ok (.getfield 96, 3) := by decide +kernel
theorem dX8_personOf_107 : decode cX8_personOf 107 = .ok (.iload_n 1, 1) := by decide +kernel
theorem dX8_personOf_108 : decode cX8_personOf 108 = .ok (.iaload, 1) := by decide +kernel
theorem dX8_personOf_109 : decode cX8_personOf 109 = .ok (.ireturn, 1) := by decide +kernel
theorem dX8_personOf_110 : decode cX8_personOf 110 = .ok (.aload_n 0, 1) := by decide +kernel
theorem dX8_personOf_111 : decode cX8_personOf 111 = .ok (.getfield 19, 3) := by decide +kernel
theorem dX8_personOf_114 : decode cX8_personOf 114 = .ok (.getfield 226, 3) := by decide +kernel
theorem dX8_personOf_117 : decode cX8_personOf 117 = .ok (.iload_n 1, 1) := by decide +kernel
theorem dX8_personOf_118 : decode cX8_personOf 118 = .ok (.iaload, 1) := by decide +kernel
theorem dX8_personOf_119 : decode cX8_personOf 119 = .ok (.ireturn, 1) := by decide +kernel
theorem dX8_personOf_120 : decode cX8_personOf 120 = .ok (.iconst (-1), 1) := by decide +kernel
theorem dX8_personOf_121 : decode cX8_personOf 121 = .ok (.ireturn, 1) := by decide +kernel
theorem dX8_due_0 : decode cX8_due 0 = .ok (.iload_n 1, 1) := by decide +kernel
theorem dX8_due_1 : decode cX8_due 1 = .ok (.ifCond .lt 21, 3) := by decide +kernel
theorem dX8_due_4 : decode cX8_due 4 = .ok (.iload_n 1, 1) := by decide +kernel
theorem dX8_due_5 : decode cX8_due 5 = .ok (.sipush 20000, 3) := by decide +kernel
theorem dX8_due_8 : decode cX8_due 8 = .ok (.if_icmp .gt 14, 3) := by decide +kernel
theorem dX8_due_11 : decode cX8_due 11 = .ok (.iload_n 2, 1) := by decide +kernel
theorem dX8_due_12 : decode cX8_due 12 = .ok (.iconst 1, 1) := by decide +kernel
theorem dX8_due_13 : decode cX8_due 13 = .ok (.if_icmp .lt 9, 3) := by decide +kernel
theorem dX8_due_16 : decode cX8_due 16 = .ok (.iload_n 2, 1) := by decide +kernel
theorem dX8_due_17 : decode cX8_due 17 = .ok (.bipush 99, 2) := by decide +kernel
theorem dX8_due_19 : decode cX8_due 19 = .ok (.if_icmp .le 5, 3) := by decide +kernel
theorem dX8_due_22 : decode cX8_due 22 = .ok (.iconst (-1), 1) := by decide +kernel
theorem dX8_due_23 : decode cX8_due 23 = .ok (.ireturn, 1) := by decide +kernel
theorem dX8_due_24 : decode cX8_due 24 = .ok (.iload_n 1, 1) := by decide +kernel
theorem dX8_due_25 : decode cX8_due 25 = .ok (.iload_n 2, 1) := by decide +kernel
theorem dX8_due_26 : decode cX8_due 26 = .ok (.invokestatic 229, 3) := by decide +kernel
theorem dX8_due_29 : decode cX8_due 29 = .ok (.ireturn, 1) := by decide +kernel
theorem dX8_about_0 : decode cX8_about 0 = .ok (.iload_n 1, 1) := by decide +kernel
theorem dX8_about_1 : decode cX8_about 1 = .ok (.tableswitch 118 0 6 #[43, 62, 81, 89, 94, 99, 107], 43) := by decide +kernel
theorem dX8_about_44 : decode cX8_about 44 = .ok (.aload_n 0, 1) := by decide +kernel
theorem dX8_about_45 : decode cX8_about 45 = .ok (.getfield 47, 3) := by decide +kernel
theorem dX8_about_48 : decode cX8_about 48 = .ok (.ifnonnull 7, 3) := by decide +kernel
theorem dX8_about_51 : decode cX8_about 51 = .ok (.iconst (-1), 1) := by decide +kernel
theorem dX8_about_52 : decode cX8_about 52 = .ok (.goto 10, 3) := by decide +kernel
theorem dX8_about_55 : decode cX8_about 55 = .ok (.aload_n 0, 1) := by decide +kernel
theorem dX8_about_56 : decode cX8_about 56 = .ok (.getfield 47, 3) := by decide +kernel
theorem dX8_about_59 : decode cX8_about 59 = .ok (.getfield 83, 3) := by decide +kernel
theorem dX8_about_62 : decode cX8_about 62 = .ok (.ireturn, 1) := by decide +kernel
theorem dX8_about_63 : decode cX8_about 63 = .ok (.aload_n 0, 1) := by decide +kernel
theorem dX8_about_64 : decode cX8_about 64 = .ok (.getfield 47, 3) := by decide +kernel
theorem dX8_about_67 : decode cX8_about 67 = .ok (.ifnonnull 7, 3) := by decide +kernel
theorem dX8_about_70 : decode cX8_about 70 = .ok (.iconst (-1), 1) := by decide +kernel
theorem dX8_about_71 : decode cX8_about 71 = .ok (.goto 10, 3) := by decide +kernel
theorem dX8_about_74 : decode cX8_about 74 = .ok (.aload_n 0, 1) := by decide +kernel
theorem dX8_about_75 : decode cX8_about 75 = .ok (.getfield 47, 3) := by decide +kernel
theorem dX8_about_78 : decode cX8_about 78 = .ok (.getfield 234, 3) := by decide +kernel
theorem dX8_about_81 : decode cX8_about 81 = .ok (.ireturn, 1) := by decide +kernel
theorem dX8_about_82 : decode cX8_about 82 = .ok (.aload_n 0, 1) := by decide +kernel
theorem dX8_about_83 : decode cX8_about 83 = .ok (.getfield 19, 3) := by decide +kernel
theorem dX8_about_86 : decode cX8_about 86 = .ok (.getfield 221, 3) := by decide +kernel
theorem dX8_about_89 : decode cX8_about 89 = .ok (.ireturn, 1) := by decide +kernel
theorem dX8_about_90 : decode cX8_about 90 = .ok (.aload_n 0, 1) := by decide +kernel
theorem dX8_about_91 : decode cX8_about 91 = .ok (.getfield 51, 3) := by decide +kernel
theorem dX8_about_94 : decode cX8_about 94 = .ok (.ireturn, 1) := by decide +kernel
theorem dX8_about_95 : decode cX8_about 95 = .ok (.aload_n 0, 1) := by decide +kernel
theorem dX8_about_96 : decode cX8_about 96 = .ok (.getfield 43, 3) := by decide +kernel
theorem dX8_about_99 : decode cX8_about 99 = .ok (.ireturn, 1) := by decide +kernel
theorem dX8_about_100 : decode cX8_about 100 = .ok (.aload_n 0, 1) := by decide +kernel
theorem dX8_about_101 : decode cX8_about 101 = .ok (.getfield 26, 3) := by decide +kernel
theorem dX8_about_104 : decode cX8_about 104 = .ok (.getfield 212, 3) := by decide +kernel
theorem dX8_about_107 : decode cX8_about 107 = .ok (.ireturn, 1) := by decide +kernel
theorem dX8_about_108 : decode cX8_about 108 = .ok (.aload_n 0, 1) := by decide +kernel
theorem dX8_about_109 : decode cX8_about 109 = .ok (.getfield 10, 3) := by decide +kernel
theorem dX8_about_112 : decode cX8_about 112 = .ok (.getfield 60, 3) := by decide +kernel
theorem dX8_about_115 : decode cX8_about 115 = .ok (.getfield 64, 3) := by decide +kernel
theorem dX8_about_118 : decode cX8_about 118 = .ok (.ireturn, 1) := by decide +kernel
theorem dX8_about_119 : decode cX8_about 119 = .ok (.iconst (-1), 1) := by decide +kernel
theorem dX8_about_120 : decode cX8_about 120 = .ok (.ireturn, 1) := by decide +kernel
theorem dX8_runAt_0 : decode cX8_runAt 0 = .ok (.iload_n 1, 1) := by decide +kernel
theorem dX8_runAt_1 : decode cX8_runAt 1 = .ok (.ifCond .lt 26, 3) := by decide +kernel
theorem dX8_runAt_4 : decode cX8_runAt 4 = .ok (.iload_n 1, 1) := by decide +kernel
theorem dX8_runAt_5 : decode cX8_runAt 5 = .ok (.aload_n 0, 1) := by decide +kernel
theorem dX8_runAt_6 : decode cX8_runAt 6 = .ok (.getfield 43, 3) := by decide +kernel
theorem dX8_runAt_9 : decode cX8_runAt 9 = .ok (.if_icmp .ge 18, 3) := by decide +kernel
theorem dX8_runAt_12 : decode cX8_runAt 12 = .ok (.iload_n 1, 1) := by decide +kernel
theorem dX8_runAt_13 : decode cX8_runAt 13 = .ok (.bipush 8, 2) := by decide +kernel
theorem dX8_runAt_15 : decode cX8_runAt 15 = .ok (.if_icmp .ge 12, 3) := by decide +kernel
theorem dX8_runAt_18 : decode cX8_runAt 18 = .ok (.aload_n 0, 1) := by decide +kernel
theorem dX8_runAt_19 : decode cX8_runAt 19 = .ok (.getfield 39, 3) := by decide +kernel
theorem dX8_runAt_22 : decode cX8_runAt 22 = .ok (.iload_n 1, 1) := by decide +kernel
theorem dX8_runAt_23 : decode cX8_runAt 23 = .ok (.aaload, 1) := by decide +kernel
theorem dX8_runAt_24 : decode cX8_runAt 24 = .ok (.goto 4, 3) := by decide +kernel
theorem dX8_runAt_27 : decode cX8_runAt 27 = .ok (.aconst_null, 1) := by decide +kernel
theorem dX8_runAt_28 : decode cX8_runAt 28 = .ok (.areturn, 1) := by decide +kernel
theorem dX8_isListed_0 : decode cX8_isListed 0 = .ok (.aload_n 0, 1) := by decide +kernel
theorem dX8_isListed_1 : decode cX8_isListed 1 = .ok (.getfield 26, 3) := by decide +kernel
theorem dX8_isListed_4 : decode cX8_isListed 4 = .ok (.iload_n 3, 1) := by decide +kernel
theorem dX8_isListed_5 : decode cX8_isListed 5 = .ok (.iconst 0, 1) := by decide +kernel
theorem dX8_isListed_6 : decode cX8_isListed 6 = .ok (.invokevirtual 179, 3) := by decide +kernel
theorem dX8_isListed_9 : decode cX8_isListed 9 = .ok (.ifCond .eq 17, 3) := by decide +kernel
theorem dX8_isListed_12 : decode cX8_isListed 12 = .ok (.aload_n 0, 1) := by decide +kernel
theorem dX8_isListed_13 : decode cX8_isListed 13 = .ok (.iload_n 1, 1) := by decide +kernel
theorem dX8_isListed_14 : decode cX8_isListed 14 = .ok (.iload_n 2, 1) := by decide +kernel
theorem dX8_isListed_15 : decode cX8_isListed 15 = .ok (.iload_n 3, 1) := by decide +kernel
theorem dX8_isListed_16 : decode cX8_isListed 16 = .ok (.invokevirtual 175, 3) := by decide +kernel
theorem dX8_isListed_19 : decode cX8_isListed 19 = .ok (.ifCond .eq 7, 3) := by decide +kernel
theorem dX8_isListed_22 : decode cX8_isListed 22 = .ok (.iconst 1, 1) := by decide +kernel
theorem dX8_isListed_23 : decode cX8_isListed 23 = .ok (.goto 4, 3) := by decide +kernel
theorem dX8_isListed_26 : decode cX8_isListed 26 = .ok (.iconst 0, 1) := by decide +kernel
theorem dX8_isListed_27 : decode cX8_isListed 27 = .ok (.ireturn, 1) := by decide +kernel
theorem dX8_isAllowed_0 : decode cX8_isAllowed 0 = .ok (.aload_n 0, 1) := by decide +kernel
theorem dX8_isAllowed_1 : decode cX8_isAllowed 1 = .ok (.getfield 26, 3) := by decide +kernel
theorem dX8_isAllowed_4 : decode cX8_isAllowed 4 = .ok (.iload_n 3, 1) := by decide +kernel
theorem dX8_isAllowed_5 : decode cX8_isAllowed 5 = .ok (.invokevirtual 148, 3) := by decide +kernel
theorem dX8_isAllowed_8 : decode cX8_isAllowed 8 = .ok (.ifCond .eq 19, 3) := by decide +kernel
theorem dX8_isAllowed_11 : decode cX8_isAllowed 11 = .ok (.iload_n 2, 1) := by decide +kernel
theorem dX8_isAllowed_12 : decode cX8_isAllowed 12 = .ok (.aload_n 0, 1) := by decide +kernel
theorem dX8_isAllowed_13 : decode cX8_isAllowed 13 = .ok (.getfield 26, 3) := by decide +kernel
theorem dX8_isAllowed_16 : decode cX8_isAllowed 16 = .ok (.getfield 154, 3) := by decide +kernel
theorem dX8_isAllowed_19 : decode cX8_isAllowed 19 = .ok (.iload_n 3, 1) := by decide +kernel
theorem dX8_isAllowed_20 : decode cX8_isAllowed 20 = .ok (.iaload, 1) := by decide +kernel
theorem dX8_isAllowed_21 : decode cX8_isAllowed 21 = .ok (.ishr, 1) := by decide +kernel
theorem dX8_isAllowed_22 : decode cX8_isAllowed 22 = .ok (.iconst 1, 1) := by decide +kernel
theorem dX8_isAllowed_23 : decode cX8_isAllowed 23 = .ok (.iand, 1) := by decide +kernel
theorem dX8_isAllowed_24 : decode cX8_isAllowed 24 = .ok (.ifCond .ne 5, 3) := by decide +kernel
theorem dX8_isAllowed_27 : decode cX8_isAllowed 27 = .ok (.iconst 0, 1) := by decide +kernel
theorem dX8_isAllowed_28 : decode cX8_isAllowed 28 = .ok (.ireturn, 1) := by decide +kernel
theorem dX8_isAllowed_29 : decode cX8_isAllowed 29 = .ok (.aload_n 0, 1) := by decide +kernel
theorem dX8_isAllowed_30 : decode cX8_isAllowed 30 = .ok (.aload_n 0, 1) := by decide +kernel
theorem dX8_isAllowed_31 : decode cX8_isAllowed 31 = .ok (.getfield 26, 3) := by decide +kernel
theorem dX8_isAllowed_34 : decode cX8_isAllowed 34 = .ok (.getfield 149, 3) := by decide +kernel
theorem dX8_isAllowed_37 : decode cX8_isAllowed 37 = .ok (.iload_n 3, 1) := by decide +kernel
theorem dX8_isAllowed_38 : decode cX8_isAllowed 38 = .ok (.iaload, 1) := by decide +kernel
theorem dX8_isAllowed_39 : decode cX8_isAllowed 39 = .ok (.invokevirtual 134, 3) := by decide +kernel
theorem dX8_isAllowed_42 : decode cX8_isAllowed 42 = .ok (.astore 4, 2) := by decide +kernel
theorem dX8_isAllowed_44 : decode cX8_isAllowed 44 = .ok (.aload 4, 2) := by decide +kernel
theorem dX8_isAllowed_46 : decode cX8_isAllowed 46 = .ok (.ifnonnull 5, 3) := by decide +kernel
theorem dX8_isAllowed_49 : decode cX8_isAllowed 49 = .ok (.iconst 0, 1) := by decide +kernel
theorem dX8_isAllowed_50 : decode cX8_isAllowed 50 = .ok (.ireturn, 1) := by decide +kernel
theorem dX8_isAllowed_51 : decode cX8_isAllowed 51 = .ok (.aload 4, 2) := by decide +kernel
theorem dX8_isAllowed_53 : decode cX8_isAllowed 53 = .ok (.aload 4, 2) := by decide +kernel
theorem dX8_isAllowed_55 : decode cX8_isAllowed 55 = .ok (.getfield 202, 3) := by decide +kernel
theorem dX8_isAllowed_58 : decode cX8_isAllowed 58 = .ok (.aload_n 0, 1) := by decide +kernel
theorem dX8_isAllowed_59 : decode cX8_isAllowed 59 = .ok (.getfield 26, 3) := by decide +kernel
theorem dX8_isAllowed_62 : decode cX8_isAllowed 62 = .ok (.getfield 151, 3) := by decide +kernel
theorem dX8_isAllowed_65 : decode cX8_isAllowed 65 = .ok (.iload_n 3, 1) := by decide +kernel
theorem dX8_isAllowed_66 : decode cX8_isAllowed 66 = .ok (.iaload, 1) := by decide +kernel
theorem dX8_isAllowed_67 : decode cX8_isAllowed 67 = .ok (.invokevirtual 236, 3) := by decide +kernel
theorem dX8_isAllowed_70 : decode cX8_isAllowed 70 = .ok (.invokevirtual 239, 3) := by decide +kernel
theorem dX8_isAllowed_73 : decode cX8_isAllowed 73 = .ok (.iload_n 1, 1) := by decide +kernel
theorem dX8_isAllowed_74 : decode cX8_isAllowed 74 = .ok (.if_icmp .eq 7, 3) := by decide +kernel
theorem dX8_isAllowed_77 : decode cX8_isAllowed 77 = .ok (.iconst 1, 1) := by decide +kernel
theorem dX8_isAllowed_78 : decode cX8_isAllowed 78 = .ok (.goto 4, 3) := by decide +kernel
theorem dX8_isAllowed_81 : decode cX8_isAllowed 81 = .ok (.iconst 0, 1) := by decide +kernel
theorem dX8_isAllowed_82 : decode cX8_isAllowed 82 = .ok (.ireturn, 1) := by decide +kernel
theorem dX8_finishTask_0 : decode cX8_finishTask 0 = .ok (.aload_n 0, 1) := by decide +kernel
theorem dX8_finishTask_1 : decode cX8_finishTask 1 = .ok (.getfield 26, 3) := by decide +kernel
theorem dX8_finishTask_4 : decode cX8_finishTask 4 = .ok (.getfield 166, 3) := by decide +kernel
theorem dX8_finishTask_7 : decode cX8_finishTask 7 = .ok (.iload_n 2, 1) := by decide +kernel
theorem dX8_finishTask_8 : decode cX8_finishTask 8 = .ok (.iaload, 1) := by decide +kernel
theorem dX8_finishTask_9 : decode cX8_finishTask 9 = .ok (.istore_n 3, 1) := by decide +kernel
theorem dX8_finishTask_10 : decode cX8_finishTask 10 = .ok (.aload_n 0, 1) := by decide +kernel
theorem dX8_finishTask_11 : decode cX8_finishTask 11 = .ok (.getfield 26, 3) := by decide +kernel
theorem dX8_finishTask_14 : decode cX8_finishTask 14 = .ok (.iload_n 2, 1) := by decide +kernel
theorem dX8_finishTask_15 : decode cX8_finishTask 15 = .ok (.aload_n 0, 1) := by decide +kernel
theorem dX8_finishTask_16 : decode cX8_finishTask 16 = .ok (.getfield 51, 3) := by decide +kernel
theorem dX8_finishTask_19 : decode cX8_finishTask 19 = .ok (.invokevirtual 242, 3) := by decide +kernel
theorem dX8_finishTask_22 : decode cX8_finishTask 22 = .ok (.aload_n 0, 1) := by decide +kernel
theorem dX8_finishTask_23 : decode cX8_finishTask 23 = .ok (.getfield 19, 3) := by decide +kernel
theorem dX8_finishTask_26 : decode cX8_finishTask 26 = .ok (.iload_n 3, 1) := by decide +kernel
theorem dX8_finishTask_27 : decode cX8_finishTask 27 = .ok (.invokevirtual 190, 3) := by decide +kernel
theorem dX8_finishTask_30 : decode cX8_finishTask 30 = .ok (.aload_n 0, 1) := by decide +kernel
theorem dX8_finishTask_31 : decode cX8_finishTask 31 = .ok (.getfield 19, 3) := by decide +kernel
theorem dX8_finishTask_34 : decode cX8_finishTask 34 = .ok (.iload_n 3, 1) := by decide +kernel
theorem dX8_finishTask_35 : decode cX8_finishTask 35 = .ok (.invokevirtual 245, 3) := by decide +kernel
theorem dX8_finishTask_38 : decode cX8_finishTask 38 = .ok (.aload_n 1, 1) := by decide +kernel
theorem dX8_finishTask_39 : decode cX8_finishTask 39 = .ok (.aload_n 0, 1) := by decide +kernel
theorem dX8_finishTask_40 : decode cX8_finishTask 40 = .ok (.getfield 26, 3) := by decide +kernel
theorem dX8_finishTask_43 : decode cX8_finishTask 43 = .ok (.getfield 151, 3) := by decide +kernel
theorem dX8_finishTask_46 : decode cX8_finishTask 46 = .ok (.iload_n 2, 1) := by decide +kernel
theorem dX8_finishTask_47 : decode cX8_finishTask 47 = .ok (.iaload, 1) := by decide +kernel
theorem dX8_finishTask_48 : decode cX8_finishTask 48 = .ok (.iload_n 3, 1) := by decide +kernel
theorem dX8_finishTask_49 : decode cX8_finishTask 49 = .ok (.invokevirtual 248, 3) := by decide +kernel
theorem dX8_finishTask_52 : decode cX8_finishTask 52 = .ok (.aload_n 1, 1) := by decide +kernel
theorem dX8_finishTask_53 : decode cX8_finishTask 53 = .ok (.dup, 1) := by decide +kernel
theorem dX8_finishTask_54 : decode cX8_finishTask 54 = .ok (.getfield 145, 3) := by decide +kernel
theorem dX8_finishTask_57 : decode cX8_finishTask 57 = .ok (.iconst 1, 1) := by decide +kernel
theorem dX8_finishTask_58 : decode cX8_finishTask 58 = .ok (.isub, 1) := by decide +kernel
theorem dX8_finishTask_59 : decode cX8_finishTask 59 = .ok (.putfield 145, 3) := by decide +kernel
theorem dX8_finishTask_62 : decode cX8_finishTask 62 = .ok (.return_, 1) := by decide +kernel
theorem dX8_keepWalk_0 : decode cX8_keepWalk 0 = .ok (.aload_n 1, 1) := by decide +kernel
theorem dX8_keepWalk_1 : decode cX8_keepWalk 1 = .ok (.aload_n 0, 1) := by decide +kernel
theorem dX8_keepWalk_2 : decode cX8_keepWalk 2 = .ok (.getfield 33, 3) := by decide +kernel
theorem dX8_keepWalk_5 : decode cX8_keepWalk 5 = .ok (.invokevirtual 251, 3) := by decide +kernel
theorem dX8_keepWalk_8 : decode cX8_keepWalk 8 = .ok (.iconst 0, 1) := by decide +kernel
theorem dX8_keepWalk_9 : decode cX8_keepWalk 9 = .ok (.istore_n 2, 1) := by decide +kernel
theorem dX8_keepWalk_10 : decode cX8_keepWalk 10 = .ok (.iload_n 2, 1) := by decide +kernel
theorem dX8_keepWalk_11 : decode cX8_keepWalk 11 = .ok (.aload_n 0, 1) := by decide +kernel
theorem dX8_keepWalk_12 : decode cX8_keepWalk 12 = .ok (.getfield 33, 3) := by decide +kernel
theorem dX8_keepWalk_15 : decode cX8_keepWalk 15 = .ok (.getfield 121, 3) := by decide +kernel
theorem dX8_keepWalk_18 : decode cX8_keepWalk 18 = .ok (.if_icmp .ge 62, 3) := by decide +kernel
theorem dX8_keepWalk_21 : decode cX8_keepWalk 21 = .ok (.aload_n 0, 1) := by decide +kernel
theorem dX8_keepWalk_22 : decode cX8_keepWalk 22 = .ok (.getfield 33, 3) := by decide +kernel
theorem dX8_keepWalk_25 : decode cX8_keepWalk 25 = .ok (.getfield 255, 3) := by decide +kernel
theorem dX8_keepWalk_28 : decode cX8_keepWalk 28 = .ok (.iload_n 2, 1) := by decide +kernel
theorem dX8_keepWalk_29 : decode cX8_keepWalk 29 = .ok (.iaload, 1) := by decide +kernel
theorem dX8_keepWalk_30 : decode cX8_keepWalk 30 = .ok (.istore_n 3, 1) := by decide +kernel
theorem dX8_keepWalk_31 : decode cX8_keepWalk 31 = .ok (.aload_n 0, 1) := by decide +kernel
theorem dX8_keepWalk_32 : decode cX8_keepWalk 32 = .ok (.getfield 51, 3) := by decide +kernel
theorem dX8_keepWalk_35 : decode cX8_keepWalk 35 = .ok (.aload_n 1, 1) := by decide +kernel
theorem dX8_keepWalk_36 : decode cX8_keepWalk 36 = .ok (.getfield 202, 3) := by decide +kernel
theorem dX8_keepWalk_39 : decode cX8_keepWalk 39 = .ok (.iload_n 3, 1) := by decide +kernel
theorem dX8_keepWalk_40 : decode cX8_keepWalk 40 = .ok (.invokevirtual 258, 3) := by decide +kernel
theorem dX8_keepWalk_43 : decode cX8_keepWalk 43 = .ok (.invokestatic 229, 3) := by decide +kernel
theorem dX8_keepWalk_46 : decode cX8_keepWalk 46 = .ok (.istore 4, 2) := by decide +kernel
theorem dX8_keepWalk_48 : decode cX8_keepWalk 48 = .ok (.aload_n 0, 1) := by decide +kernel
theorem dX8_keepWalk_49 : decode cX8_keepWalk 49 = .ok (.getfield 26, 3) := by decide +kernel
theorem dX8_keepWalk_52 : decode cX8_keepWalk 52 = .ok (.aload_n 1, 1) := by decide +kernel
theorem dX8_keepWalk_53 : decode cX8_keepWalk 53 = .ok (.getfield 261, 3) := by decide +kernel
theorem dX8_keepWalk_56 : decode cX8_keepWalk 56 = .ok (.iload_n 3, 1) := by decide +kernel
theorem dX8_keepWalk_57 : decode cX8_keepWalk 57 = .ok (.aload_n 1, 1) := by decide +kernel
theorem dX8_keepWalk_58 : decode cX8_keepWalk 58 = .ok (.getfield 202, 3) := by decide +kernel
theorem dX8_keepWalk_61 : decode cX8_keepWalk 61 = .ok (.iload_n 3, 1) := by decide +kernel
theorem dX8_keepWalk_62 : decode cX8_keepWalk 62 = .ok (.invokevirtual 264, 3) := by decide +kernel
theorem dX8_keepWalk_65 : decode cX8_keepWalk 65 = .ok (.aload_n 0, 1) := by decide +kernel
theorem dX8_keepWalk_66 : decode cX8_keepWalk 66 = .ok (.getfield 51, 3) := by decide +kernel
theorem dX8_keepWalk_69 : decode cX8_keepWalk 69 = .ok (.iload 4, 2) := by decide +kernel
theorem dX8_keepWalk_71 : decode cX8_keepWalk 71 = .ok (.invokevirtual 267, 3) := by decide +kernel
theorem dX8_keepWalk_74 : decode cX8_keepWalk 74 = .ok (.iinc 2 1, 3) := by decide +kernel
theorem dX8_keepWalk_77 : decode cX8_keepWalk 77 = .ok (.goto (-67), 3) := by decide +kernel
theorem dX8_keepWalk_80 : decode cX8_keepWalk 80 = .ok (.aload_n 1, 1) := by decide +kernel
theorem dX8_keepWalk_81 : decode cX8_keepWalk 81 = .ok (.dup, 1) := by decide +kernel
theorem dX8_keepWalk_82 : decode cX8_keepWalk 82 = .ok (.getfield 145, 3) := by decide +kernel
theorem dX8_keepWalk_85 : decode cX8_keepWalk 85 = .ok (.aload_n 0, 1) := by decide +kernel
theorem dX8_keepWalk_86 : decode cX8_keepWalk 86 = .ok (.getfield 33, 3) := by decide +kernel
theorem dX8_keepWalk_89 : decode cX8_keepWalk 89 = .ok (.getfield 121, 3) := by decide +kernel
theorem dX8_keepWalk_92 : decode cX8_keepWalk 92 = .ok (.iadd, 1) := by decide +kernel
theorem dX8_keepWalk_93 : decode cX8_keepWalk 93 = .ok (.putfield 145, 3) := by decide +kernel
theorem dX8_keepWalk_96 : decode cX8_keepWalk 96 = .ok (.return_, 1) := by decide +kernel
