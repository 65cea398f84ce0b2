theorem dX4_count_83 : decode cX4_count 83 = .ok (.aload_n 0, 1) := by decide +kernel
theorem dX4_count_84 : decode cX4_count 84 = .ok (.getfield 33, 3) := by decide +kernel
theorem dX4_count_87 : decode cX4_count 87 = .ok (.iconst 0, 1) := by decide +kernel
theorem dX4_count_88 : decode cX4_count 88 = .ok (.aaload, 1) := by decide +kernel
theorem dX4_count_89 : decode cX4_count 89 = .ok (.invokevirtual 295, 3) := by decide +kernel
theorem dX4_count_92 : decode cX4_count 92 = .ok (.ifCond .eq 8, 3) := by decide +kernel
theorem dX4_count_95 : decode cX4_count 95 = .ok (.bipush (-4), 2) := by decide +kernel
theorem dX4_count_97 : decode cX4_count 97 = .ok (.goto 12, 3) := by decide +kernel
theorem dX4_count_100 : decode cX4_count 100 = .ok (.aload_n 0, 1) := by decide +kernel
theorem dX4_count_101 : decode cX4_count 101 = .ok (.getfield 33, 3) := by decide +kernel
theorem dX4_count_104 : decode cX4_count 104 = .ok (.iconst 0, 1) := by decide +kernel
theorem dX4_count_105 : decode cX4_count 105 = .ok (.aaload, 1) := by decide +kernel
theorem dX4_count_106 : decode cX4_count 106 = .ok (.getfield 298, 3) := by decide +kernel
theorem dX4_count_109 : decode cX4_count 109 = .ok (.ireturn, 1) := by decide +kernel
theorem dX4_count_110 : decode cX4_count 110 = .ok (.aload_n 0, 1) := by decide +kernel
theorem dX4_count_111 : decode cX4_count 111 = .ok (.getfield 16, 3) := by decide +kernel
theorem dX4_count_114 : decode cX4_count 114 = .ok (.iconst 0, 1) := by decide +kernel
theorem dX4_count_115 : decode cX4_count 115 = .ok (.invokevirtual 301, 3) := by decide +kernel
theorem dX4_count_118 : decode cX4_count 118 = .ok (.ireturn, 1) := by decide +kernel
theorem dX4_count_119 : decode cX4_count 119 = .ok (.aload_n 0, 1) := by decide +kernel
theorem dX4_count_120 : decode cX4_count 120 = .ok (.getfield 16, 3) := by decide +kernel
theorem dX4_count_123 : decode cX4_count 123 = .ok (.iconst 2, 1) := by decide +kernel
theorem dX4_count_124 : decode cX4_count 124 = .ok (.invokevirtual 301, 3) := by decide +kernel
theorem dX4_count_127 : decode cX4_count 127 = .ok (.ireturn, 1) := by decide +kernel
theorem dX4_count_128 : decode cX4_count 128 = .ok (.iconst (-1), 1) := by decide +kernel
theorem dX4_count_129 : decode cX4_count 129 = .ok (.ireturn, 1) := by decide +kernel
theorem dX4_isSheet_0 : decode cX4_isSheet 0 = .ok (.iload_n 0, 1) := by decide +kernel
theorem dX4_isSheet_1 : decode cX4_isSheet 1 = .ok (.iconst 0, 1) := by decide +kernel
theorem dX4_isSheet_2 : decode cX4_isSheet 2 = .ok (.iconst 3, 1) := by decide +kernel
theorem dX4_isSheet_3 : decode cX4_isSheet 3 = .ok (.invokestatic 54, 3) := by decide +kernel
theorem dX4_isSheet_6 : decode cX4_isSheet 6 = .ok (.ireturn, 1) := by decide +kernel
theorem dX4_within_0 : decode cX4_within 0 = .ok (.iload_n 0, 1) := by decide +kernel
theorem dX4_within_1 : decode cX4_within 1 = .ok (.iload_n 1, 1) := by decide +kernel
theorem dX4_within_2 : decode cX4_within 2 = .ok (.if_icmp .lt 12, 3) := by decide +kernel
theorem dX4_within_5 : decode cX4_within 5 = .ok (.iload_n 0, 1) := by decide +kernel
theorem dX4_within_6 : decode cX4_within 6 = .ok (.iload_n 2, 1) := by decide +kernel
theorem dX4_within_7 : decode cX4_within 7 = .ok (.if_icmp .gt 7, 3) := by decide +kernel
theorem dX4_within_10 : decode cX4_within 10 = .ok (.iconst 1, 1) := by decide +kernel
theorem dX4_within_11 : decode cX4_within 11 = .ok (.goto 4, 3) := by decide +kernel
theorem dX4_within_14 : decode cX4_within 14 = .ok (.iconst 0, 1) := by decide +kernel
theorem dX4_within_15 : decode cX4_within 15 = .ok (.ireturn, 1) := by decide +kernel
theorem dX4_isRun_0 : decode cX4_isRun 0 = .ok (.iload_n 0, 1) := by decide +kernel
theorem dX4_isRun_1 : decode cX4_isRun 1 = .ok (.iconst 0, 1) := by decide +kernel
theorem dX4_isRun_2 : decode cX4_isRun 2 = .ok (.sipush 200, 3) := by decide +kernel
theorem dX4_isRun_5 : decode cX4_isRun 5 = .ok (.invokestatic 54, 3) := by decide +kernel
theorem dX4_isRun_8 : decode cX4_isRun 8 = .ok (.ireturn, 1) := by decide +kernel
theorem dX4_copyToTry_0 : decode cX4_copyToTry 0 = .ok (.aload_n 0, 1) := by decide +kernel
theorem dX4_copyToTry_1 : decode cX4_copyToTry 1 = .ok (.getfield 20, 3) := by decide +kernel
theorem dX4_copyToTry_4 : decode cX4_copyToTry 4 = .ok (.aload_n 0, 1) := by decide +kernel
theorem dX4_copyToTry_5 : decode cX4_copyToTry 5 = .ok (.getfield 16, 3) := by decide +kernel
theorem dX4_copyToTry_8 : decode cX4_copyToTry 8 = .ok (.invokevirtual 75, 3) := by decide +kernel
theorem dX4_copyToTry_11 : decode cX4_copyToTry 11 = .ok (.aload_n 0, 1) := by decide +kernel
theorem dX4_copyToTry_12 : decode cX4_copyToTry 12 = .ok (.getfield 20, 3) := by decide +kernel
theorem dX4_copyToTry_15 : decode cX4_copyToTry 15 = .ok (.invokevirtual 155, 3) := by decide +kernel
theorem dX4_copyToTry_18 : decode cX4_copyToTry 18 = .ok (.aload_n 0, 1) := by decide +kernel
theorem dX4_copyToTry_19 : decode cX4_copyToTry 19 = .ok (.getfield 20, 3) := by decide +kernel
theorem dX4_copyToTry_22 : decode cX4_copyToTry 22 = .ok (.areturn, 1) := by decide +kernel
theorem dX4_copyAltered_0 : decode cX4_copyAltered 0 = .ok (.aload_n 0, 1) := by decide +kernel
theorem dX4_copyAltered_1 : decode cX4_copyAltered 1 = .ok (.invokevirtual 168, 3) := by decide +kernel
theorem dX4_copyAltered_4 : decode cX4_copyAltered 4 = .ok (.astore 4, 2) := by decide +kernel
theorem dX4_copyAltered_6 : decode cX4_copyAltered 6 = .ok (.aload 4, 2) := by decide +kernel
theorem dX4_copyAltered_8 : decode cX4_copyAltered 8 = .ok (.iload_n 1, 1) := by decide +kernel
theorem dX4_copyAltered_9 : decode cX4_copyAltered 9 = .ok (.invokevirtual 101, 3) := by decide +kernel
theorem dX4_copyAltered_12 : decode cX4_copyAltered 12 = .ok (.ifCond .eq 15, 3) := by decide +kernel
theorem dX4_copyAltered_15 : decode cX4_copyAltered 15 = .ok (.aload 4, 2) := by decide +kernel
theorem dX4_copyAltered_17 : decode cX4_copyAltered 17 = .ok (.getfield 105, 3) := by decide +kernel
theorem dX4_copyAltered_20 : decode cX4_copyAltered 20 = .ok (.iload_n 1, 1) := by decide +kernel
theorem dX4_copyAltered_21 : decode cX4_copyAltered 21 = .ok (.aaload, 1) := by decide +kernel
theorem dX4_copyAltered_22 : decode cX4_copyAltered 22 = .ok (.iload_n 2, 1) := by decide +kernel
theorem dX4_copyAltered_23 : decode cX4_copyAltered 23 = .ok (.iload_n 3, 1) := by decide +kernel
theorem dX4_copyAltered_24 : decode cX4_copyAltered 24 = .ok (.invokevirtual 143, 3) := by decide +kernel
theorem dX4_copyAltered_27 : decode cX4_copyAltered 27 = .ok (.aload 4, 2) := by decide +kernel
theorem dX4_copyAltered_29 : decode cX4_copyAltered 29 = .ok (.areturn, 1) := by decide +kernel
theorem dX5_init_0 : decode cX5_init 0 = .ok (.aload_n 0, 1) := by decide +kernel
theorem dX5_init_1 : decode cX5_init 1 = .ok (.invokespecial 1, 3) := by decide +kernel
theorem dX5_init_4 : decode cX5_init 4 = .ok (.aload_n 0, 1) := by decide +kernel
theorem dX5_init_5 : decode cX5_init 5 = .ok (.sipush 225, 3) := by decide +kernel
theorem dX5_init_8 : decode cX5_init 8 = .ok (.newarray .int, 2) := by decide +kernel
theorem dX5_init_10 : decode cX5_init 10 = .ok (.putfield 7, 3) := by decide +kernel
theorem dX5_init_13 : decode cX5_init 13 = .ok (.aload_n 0, 1) := by decide +kernel
theorem dX5_init_14 : decode cX5_init 14 = .ok (.bipush 75, 2) := by decide +kernel
theorem dX5_init_16 : decode cX5_init 16 = .ok (.newarray .int, 2) := by decide +kernel
theorem dX5_init_18 : decode cX5_init 18 = .ok (.putfield 13, 3) := by decide +kernel
theorem dX5_init_21 : decode cX5_init 21 = .ok (.aload_n 0, 1) := by decide +kernel
theorem dX5_init_22 : decode cX5_init 22 = .ok (.iconst 2, 1) := by decide +kernel
theorem dX5_init_23 : decode cX5_init 23 = .ok (.newarray .boolean, 2) := by decide +kernel
theorem dX5_init_25 : decode cX5_init 25 = .ok (.putfield 16, 3) := by decide +kernel
theorem dX5_init_28 : decode cX5_init 28 = .ok (.aload_n 0, 1) := by decide +kernel
theorem dX5_init_29 : decode cX5_init 29 = .ok (.bipush 75, 2) := by decide +kernel
theorem dX5_init_31 : decode cX5_init 31 = .ok (.newarray .int, 2) := by decide +kernel
theorem dX5_init_33 : decode cX5_init 33 = .ok (.putfield 20, 3) := by decide +kernel
theorem dX5_init_36 : decode cX5_init 36 = .ok (.aload_n 0, 1) := by decide +kernel
theorem dX5_init_37 : decode cX5_init 37 = .ok (.sipush 160, 3) := by decide +kernel
theorem dX5_init_40 : decode cX5_init 40 = .ok (.newarray .int, 2) := by decide +kernel
theorem dX5_init_42 : decode cX5_init 42 = .ok (.putfield 23, 3) := by decide +kernel
theorem dX5_init_45 : decode cX5_init 45 = .ok (.aload_n 0, 1) := by decide +kernel
theorem dX5_init_46 : decode cX5_init 46 = .ok (.iconst 4, 1) := by decide +kernel
theorem dX5_init_47 : decode cX5_init 47 = .ok (.newarray .int, 2) := by decide +kernel
theorem dX5_init_49 : decode cX5_init 49 = .ok (.putfield 26, 3) := by decide +kernel
theorem dX5_init_52 : decode cX5_init 52 = .ok (.aload_n 0, 1) := by decide +kernel
theorem dX5_init_53 : decode cX5_init 53 = .ok (.bipush 41, 2) := by decide +kernel
theorem dX5_init_55 : decode cX5_init 55 = .ok (.newarray .int, 2) := by decide +kernel
theorem dX5_init_57 : decode cX5_init 57 = .ok (.putfield 29, 3) := by decide +kernel
theorem dX5_init_60 : decode cX5_init 60 = .ok (.aload_n 0, 1) := by decide +kernel
theorem dX5_init_61 : decode cX5_init 61 = .ok (.bipush 41, 2) := by decide +kernel
theorem dX5_init_63 : decode cX5_init 63 = .ok (.newarray .int, 2) := by decide +kernel
theorem dX5_init_65 : decode cX5_init 65 = .ok (.putfield 32, 3) := by decide +kernel
theorem dX5_init_68 : decode cX5_init 68 = .ok (.aload_n 0, 1) := by decide +kernel
theorem dX5_init_69 : decode cX5_init 69 = .ok (.iconst 4, 1) := by decide +kernel
theorem dX5_init_70 : decode cX5_init 70 = .ok (.newarray .int, 2) := by decide +kernel
theorem dX5_init_72 : decode cX5_init 72 = .ok (.putfield 35, 3) := by decide +kernel
theorem dX5_init_75 : decode cX5_init 75 = .ok (.aload_n 0, 1) := by decide +kernel
theorem dX5_init_76 : decode cX5_init 76 = .ok (.iconst 4, 1) := by decide +kernel
theorem dX5_init_77 : decode cX5_init 77 = .ok (.newarray .int, 2) := by decide +kernel
theorem dX5_init_79 : decode cX5_init 79 = .ok (.putfield 38, 3) := by decide +kernel
theorem dX5_init_82 : decode cX5_init 82 = .ok (.aload_n 0, 1) := by decide +kernel
theorem dX5_init_83 : decode cX5_init 83 = .ok (.sipush 160, 3) := by decide +kernel
theorem dX5_init_86 : decode cX5_init 86 = .ok (.newarray .int, 2) := by decide +kernel
theorem dX5_init_88 : decode cX5_init 88 = .ok (.putfield 41, 3) := by decide +kernel
theorem dX5_init_91 : decode cX5_init 91 = .ok (.aload_n 0, 1) := by decide +kernel
theorem dX5_init_92 : decode cX5_init 92 = .ok (.bipush 75, 2) := by decide +kernel
theorem dX5_init_94 : decode cX5_init 94 = .ok (.newarray .int, 2) := by decide +kernel
theorem dX5_init_96 : decode cX5_init 96 = .ok (.putfield 44, 3) := by decide +kernel
theorem dX5_init_99 : decode cX5_init 99 = .ok (.iconst 0, 1) := by decide +kernel
theorem dX5_init_100 : decode cX5_init 100 = .ok (.istore_n 1, 1) := by decide +kernel
theorem dX5_init_101 : decode cX5_init 101 = .ok (.iload_n 1, 1) := by decide +kernel
theorem dX5_init_102 : decode cX5_init 102 = .ok (.iconst 4, 1) := by decide +kernel
theorem dX5_init_103 : decode cX5_init 103 = .ok (.if_icmp .ge 17, 3) := by decide +kernel
theorem dX5_init_106 : decode cX5_init 106 = .ok (.aload_n 0, 1) := by decide +kernel
theorem dX5_init_107 : decode cX5_init 107 = .ok (.getfield 35, 3) := by decide +kernel
theorem dX5_init_110 : decode cX5_init 110 = .ok (.iload_n 1, 1) := by decide +kernel
theorem dX5_init_111 : decode cX5_init 111 = .ok (.bipush (-4), 2) := by decide +kernel
theorem dX5_init_113 : decode cX5_init 113 = .ok (.iastore, 1) := by decide +kernel
theorem dX5_init_114 : decode cX5_init 114 = .ok (.iinc 1 1, 3) := by decide +kernel
theorem dX5_init_117 : decode cX5_init 117 = .ok (.goto (-16), 3) := by decide +kernel
theorem dX5_init_120 : decode cX5_init 120 = .ok (.aload_n 0, 1) := by decide +kernel
theorem dX5_init_121 : decode cX5_init 121 = .ok (.invokevirtual 47, 3) := by decide +kernel
theorem dX5_init_124 : decode cX5_init 124 = .ok (.aload_n 0, 1) := by decide +kernel
theorem dX5_init_125 : decode cX5_init 125 = .ok (.invokevirtual 50, 3) := by decide +kernel
theorem dX5_init_128 : decode cX5_init 128 = .ok (.return_, 1) := by decide +kernel
theorem dX5_in_0 : decode cX5_in 0 = .ok (.lload_n 0, 1) := by decide +kernel
theorem dX5_in_1 : decode cX5_in 1 = .ok (.lload_n 2, 1) := by decide +kernel
theorem dX5_in_2 : decode cX5_in 2 = .ok (.lcmp, 1) := by decide +kernel
theorem dX5_in_3 : decode cX5_in 3 = .ok (.ifCond .lt 14, 3) := by decide +kernel
theorem dX5_in_6 : decode cX5_in 6 = .ok (.lload_n 0, 1) := by decide +kernel
theorem dX5_in_7 : decode cX5_in 7 = .ok (.lload 4, 2) := by decide +kernel
theorem dX5_in_9 : decode cX5_in 9 = .ok (.lcmp, 1) := by decide +kernel
theorem dX5_in_10 : decode cX5_in 10 = .ok (.ifCond .gt 7, 3) := by decide +kernel
theorem dX5_in_13 : decode cX5_in 13 = .ok (.iconst 1, 1) := by decide +kernel
theorem dX5_in_14 : decode cX5_in 14 = .ok (.goto 4, 3) := by decide +kernel
theorem dX5_in_17 : decode cX5_in 17 = .ok (.iconst 0, 1) := by decide +kernel
theorem dX5_in_18 : decode cX5_in 18 = .ok (.ireturn, 1) := by decide +kernel
theorem dX5_flag_0 : decode cX5_flag 0 = .ok (.iload_n 0, 1) := by decide +kernel
theorem dX5_flag_1 : decode cX5_flag 1 = .ok (.ifCond .eq 7, 3) := by decide +kernel
theorem dX5_flag_4 : decode cX5_flag 4 = .ok (.iconst 1, 1) := by decide +kernel
theorem dX5_flag_5 : decode cX5_flag 5 = .ok (.goto 4, 3) := by decide +kernel
theorem dX5_flag_8 : decode cX5_flag 8 = .ok (.iconst 0, 1) := by decide +kernel
theorem dX5_flag_9 : decode cX5_flag 9 = .ok (.ireturn, 1) := by decide +kernel
theorem dX5_within_0 : decode cX5_within 0 = .ok (.iload_n 0, 1) := by decide +kernel
theorem dX5_within_1 : decode cX5_within 1 = .ok (.ifCond .ge 7, 3) := by decide +kernel
theorem dX5_within_4 : decode cX5_within 4 = .ok (.iconst 0, 1) := by decide +kernel
theorem dX5_within_5 : decode cX5_within 5 = .ok (.goto 13, 3) := by decide +kernel
theorem dX5_within_8 : decode cX5_within 8 = .ok (.iload_n 0, 1) := by decide +kernel
theorem dX5_within_9 : decode cX5_within 9 = .ok (.iload_n 1, 1) := by decide +kernel
theorem dX5_within_10 : decode cX5_within 10 = .ok (.if_icmp .le 7, 3) := by decide +kernel
theorem dX5_within_13 : decode cX5_within 13 = .ok (.iload_n 1, 1) := by decide +kernel
theorem dX5_within_14 : decode cX5_within 14 = .ok (.goto 4, 3) := by decide +kernel
theorem dX5_within_17 : decode cX5_within 17 = .ok (.iload_n 0, 1) := by decide +kernel
theorem dX5_within_18 : decode cX5_within 18 = .ok (.ireturn, 1) := by decide +kernel
theorem dX5_firstDraft_0 : decode cX5_firstDraft 0 = .ok (.iconst 0, 1) := by decide +kernel
theorem dX5_firstDraft_1 : decode cX5_firstDraft 1 = .ok (.istore_n 1, 1) := by decide +kernel
theorem dX5_firstDraft_2 : decode cX5_firstDraft 2 = .ok (.iload_n 1, 1) := by decide +kernel
theorem dX5_firstDraft_3 : decode cX5_firstDraft 3 = .ok (.bipush 75, 2) := by decide +kernel
theorem dX5_firstDraft_5 : decode cX5_firstDraft 5 = .ok (.if_icmp .ge 16, 3) := by decide +kernel
theorem dX5_firstDraft_8 : decode cX5_firstDraft 8 = .ok (.aload_n 0, 1) := by decide +kernel
theorem dX5_firstDraft_9 : decode cX5_firstDraft 9 = .ok (.getfield 20, 3) := by decide +kernel
theorem dX5_firstDraft_12 : decode cX5_firstDraft 12 = .ok (.iload_n 1, 1) := by decide +kernel
theorem dX5_firstDraft_13 : decode cX5_firstDraft 13 = .ok (.iconst 0, 1) := by decide +kernel
theorem dX5_firstDraft_14 : decode cX5_firstDraft 14 = .ok (.iastore, 1) := by decide +kernel
theorem dX5_firstDraft_15 : decode cX5_firstDraft 15 = .ok (.iinc 1 1, 3) := by decide +kernel
theorem dX5_firstDraft_18 : decode cX5_firstDraft 18 = .ok (.goto (-16), 3) := by decide +kernel
theorem dX5_firstDraft_21 : decode cX5_firstDraft 21 = .ok (.aload_n 0, 1) := by decide +kernel
theorem dX5_firstDraft_22 : decode cX5_firstDraft 22 = .ok (.getfield 20, 3) := by decide +kernel
theorem dX5_firstDraft_25 : decode cX5_firstDraft 25 = .ok (.bipush 54, 2) := by decide +kernel
theorem dX5_firstDraft_27 : decode cX5_firstDraft 27 = .ok (.iconst 1, 1) := by decide +kernel
theorem dX5_firstDraft_28 : decode cX5_firstDraft 28 = .ok (.iastore, 1) := by decide +kernel
theorem dX5_firstDraft_29 : decode cX5_firstDraft 29 = .ok (.aload_n 0, 1) := by decide +kernel
theorem dX5_firstDraft_30 : decode cX5_firstDraft 30 = .ok (.iconst 0, 1) := by decide +kernel
theorem dX5_firstDraft_31 : decode cX5_firstDraft 31 = .ok (.putfield 53, 3) := by decide +kernel
theorem dX5_firstDraft_34 : decode cX5_firstDraft 34 = .ok (.aload_n 0, 1) := by decide +kernel
theorem dX5_firstDraft_35 : decode cX5_firstDraft 35 = .ok (.iconst (-1), 1) := by decide +kernel
theorem dX5_firstDraft_36 : decode cX5_firstDraft 36 = .ok (.putfield 57, 3) := by decide +kernel
theorem dX5_firstDraft_39 : decode cX5_firstDraft 39 = .ok (.return_, 1) := by decide +kernel
theorem dX5_keepDraft_0 : decode cX5_keepDraft 0 = .ok (.iconst 0, 1) := by decide +kernel
theorem dX5_keepDraft_1 : decode cX5_keepDraft 1 = .ok (.istore_n 1, 1) := by decide +kernel
theorem dX5_keepDraft_2 : decode cX5_keepDraft 2 = .ok (.iload_n 1, 1) := by decide +kernel
theorem dX5_keepDraft_3 : decode cX5_keepDraft 3 = .ok (.bipush 75, 2) := by decide +kernel
theorem dX5_keepDraft_5 : decode cX5_keepDraft 5 = .ok (.if_icmp .ge 21, 3) := by decide +kernel
theorem dX5_keepDraft_8 : decode cX5_keepDraft 8 = .ok (.aload_n 0, 1) := by decide +kernel
theorem dX5_keepDraft_9 : decode cX5_keepDraft 9 = .ok (.getfield 7, 3) := by decide +kernel
theorem dX5_keepDraft_12 : decode cX5_keepDraft 12 = .ok (.iload_n 1, 1) := by decide +kernel
theorem dX5_keepDraft_13 : decode cX5_keepDraft 13 = .ok (.aload_n 0, 1) := by decide +kernel
theorem dX5_keepDraft_14 : decode cX5_keepDraft 14 = .ok (.getfield 20, 3) := by decide +kernel
theorem dX5_keepDraft_17 : decode cX5_keepDraft 17 = .ok (.iload_n 1, 1) := by decide +kernel
theorem dX5_keepDraft_18 : decode cX5_keepDraft 18 = .ok (.iaload, 1) := by decide +kernel
theorem dX5_keepDraft_19 : decode cX5_keepDraft 19 = .ok (.iastore, 1) := by decide +kernel
theorem dX5_keepDraft_20 : decode cX5_keepDraft 20 = .ok (.iinc 1 1, 3) := by decide +kernel
theorem dX5_keepDraft_23 : decode cX5_keepDraft 23 = .ok (.goto (-21), 3) := by decide +kernel
theorem dX5_keepDraft_26 : decode cX5_keepDraft 26 = .ok (.aload_n 0, 1) := by decide +kernel
theorem dX5_keepDraft_27 : decode cX5_keepDraft 27 = .ok (.getfield 16, 3) := by decide +kernel
theorem dX5_keepDraft_30 : decode cX5_keepDraft 30 = .ok (.iconst 0, 1) := by decide +kernel
theorem dX5_keepDraft_31 : decode cX5_keepDraft 31 = .ok (.iconst 0, 1) := by decide +kernel
theorem dX5_keepDraft_32 : decode cX5_keepDraft 32 = .ok (.bastore, 1) := by decide +kernel
theorem dX5_keepDraft_33 : decode cX5_keepDraft 33 = .ok (.aload_n 0, 1) := by decide +kernel
theorem dX5_keepDraft_34 : decode cX5_keepDraft 34 = .ok (.getfield 16, 3) := by decide +kernel
theorem dX5_keepDraft_37 : decode cX5_keepDraft 37 = .ok (.iconst 1, 1) := by decide +kernel
theorem dX5_keepDraft_38 : decode cX5_keepDraft 38 = .ok (.iconst 0, 1) := by decide +kernel
theorem dX5_keepDraft_39 : decode cX5_keepDraft 39 = .ok (.bastore, 1) := by decide +kernel
theorem dX5_keepDraft_40 : decode cX5_keepDraft 40 = .ok (.return_, 1) := by decide +kernel
theorem dX5_feed_0 : decode cX5_feed 0 = .ok (.iload_n 1, 1) := by decide +kernel
theorem dX5_feed_1 : decode cX5_feed 1 = .ok (.i2l, 1) := by decide +kernel
theorem dX5_feed_2 : decode cX5_feed 2 = .ok (.lconst 0, 1) := by decide +kernel
theorem dX5_feed_3 : decode cX5_feed 3 = .ok (.ldc2_w 61, 3) := by decide +kernel
theorem dX5_feed_6 : decode cX5_feed 6 = .ok (.invokestatic 63, 3) := by decide +kernel
theorem dX5_feed_9 : decode cX5_feed 9 = .ok (.ifCond .ne 5, 3) := by decide +kernel
theorem dX5_feed_12 : decode cX5_feed 12 = .ok (.iconst (-1), 1) := by decide +kernel
theorem dX5_feed_13 : decode cX5_feed 13 = .ok (.ireturn, 1) := by decide +kernel
theorem dX5_feed_14 : decode cX5_feed 14 = .ok (.aload_n 0, 1) := by decide +kernel
theorem dX5_feed_15 : decode cX5_feed 15 = .ok (.getfield 67, 3) := by decide +kernel
theorem dX5_feed_18 : decode cX5_feed 18 = .ok (.sipush 160, 3) := by decide +kernel
theorem dX5_feed_21 : decode cX5_feed 21 = .ok (.if_icmp .ne 6, 3) := by decide +kernel
theorem dX5_feed_24 : decode cX5_feed 24 = .ok (.bipush (-3), 2) := by decide +kernel
theorem dX5_feed_26 : decode cX5_feed 26 = .ok (.ireturn, 1) := by decide +kernel
theorem dX5_feed_27 : decode cX5_feed 27 = .ok (.aload_n 0, 1) := by decide +kernel
theorem dX5_feed_28 : decode cX5_feed 28 = .ok (.getfield 23, 3) := by decide +kernel
theorem dX5_feed_31 : decode cX5_feed 31 = .ok (.aload_n 0, 1) := by decide +kernel
theorem dX5_feed_32 : decode cX5_feed 32 = .ok (.getfield 67, 3) := by decide +kernel
theorem dX5_feed_35 : decode cX5_feed 35 = .ok (.iload_n 1, 1) := by decide +kernel
theorem dX5_feed_36 : decode cX5_feed 36 = .ok (.iastore, 1) := by decide +kernel
theorem dX5_feed_37 : decode cX5_feed 37 = .ok (.aload_n 0, 1) := by decide +kernel
theorem dX5_feed_38 : decode cX5_feed 38 = .ok (.dup, 1) := by decide +kernel
theorem dX5_feed_39 : decode cX5_feed 39 = .ok (.getfield 67, 3) := by decide +kernel
theorem dX5_feed_42 : decode cX5_feed 42 = .ok (.iconst 1, 1) := by decide +kernel
theorem dX5_feed_43 : decode cX5_feed 43 = .ok (.iadd, 1) := by decide +kernel
theorem dX5_feed_44 : decode cX5_feed 44 = .ok (.putfield 67, 3) := by decide +kernel
theorem dX5_feed_47 : decode cX5_feed 47 = .ok (.aload_n 0, 1) := by decide +kernel
theorem dX5_feed_48 : decode cX5_feed 48 = .ok (.getfield 67, 3) := by decide +kernel
theorem dX5_feed_51 : decode cX5_feed 51 = .ok (.ireturn, 1) := by decide +kernel
theorem dX5_end_0 : decode cX5_end 0 = .ok (.iload_n 1, 1) := by decide +kernel
theorem dX5_end_1 : decode cX5_end 1 = .ok (.i2l, 1) := by decide +kernel
theorem dX5_end_2 : decode cX5_end 2 = .ok (.lconst 0, 1) := by decide +kernel
theorem dX5_end_3 : decode cX5_end 3 = .ok (.aload_n 0, 1) := by decide +kernel
theorem dX5_end_4 : decode cX5_end 4 = .ok (.getfield 67, 3) := by decide +kernel
theorem dX5_end_7 : decode cX5_end 7 = .ok (.i2l, 1) := by decide +kernel
theorem dX5_end_8 : decode cX5_end 8 = .ok (.invokestatic 63, 3) := by decide +kernel
theorem dX5_end_11 : decode cX5_end 11 = .ok (.ifCond .ne 5, 3) := by decide +kernel
theorem dX5_end_14 : decode cX5_end 14 = .ok (.iconst (-1), 1) := by decide +kernel
theorem dX5_end_15 : decode cX5_end 15 = .ok (.ireturn, 1) := by decide +kernel
theorem dX5_end_16 : decode cX5_end 16 = .ok (.aload_n 0, 1) := by decide +kernel
theorem dX5_end_17 : decode cX5_end 17 = .ok (.getfield 67, 3) := by decide +kernel
theorem dX5_end_20 : decode cX5_end 20 = .ok (.istore_n 2, 1) := by decide +kernel
theorem dX5_end_21 : decode cX5_end 21 = .ok (.aload_n 0, 1) := by decide +kernel
theorem dX5_end_22 : decode cX5_end 22 = .ok (.iload_n 1, 1) := by decide +kernel
theorem dX5_end_23 : decode cX5_end 23 = .ok (.putfield 67, 3) := by decide +kernel
theorem dX5_end_26 : decode cX5_end 26 = .ok (.iload_n 2, 1) := by decide +kernel
theorem dX5_end_27 : decode cX5_end 27 = .ok (.ireturn, 1) := by decide +kernel
theorem dX5_requires_0 : decode cX5_requires 0 = .ok (.iload_n 1, 1) := by decide +kernel
theorem dX5_requires_1 : decode cX5_requires 1 = .ok (.ifCond .ne 23, 3) := by decide +kernel
theorem dX5_requires_4 : decode cX5_requires 4 = .ok (.aload_n 0, 1) := by decide +kernel
theorem dX5_requires_5 : decode cX5_requires 5 = .ok (.getfield 70, 3) := by decide +kernel
theorem dX5_requires_8 : decode cX5_requires 8 = .ok (.ifCond .ne 16, 3) := by decide +kernel
theorem dX5_requires_11 : decode cX5_requires 11 = .ok (.aload_n 0, 1) := by decide +kernel
theorem dX5_requires_12 : decode cX5_requires 12 = .ok (.iload_n 2, 1) := by decide +kernel
theorem dX5_requires_13 : decode cX5_requires 13 = .ok (.putfield 70, 3) := by decide +kernel
theorem dX5_requires_16 : decode cX5_requires 16 = .ok (.aload_n 0, 1) := by decide +kernel
theorem dX5_requires_17 : decode cX5_requires 17 = .ok (.aload_n 0, 1) := by decide +kernel
theorem dX5_requires_18 : decode cX5_requires 18 = .ok (.getfield 73, 3) := by decide +kernel
theorem dX5_requires_21 : decode cX5_requires 21 = .ok (.putfield 76, 3) := by decide +kernel
theorem dX5_requires_24 : decode cX5_requires 24 = .ok (.return_, 1) := by decide +kernel
theorem dX5_byteAt_0 : decode cX5_byteAt 0 = .ok (.iload_n 1, 1) := by decide +kernel
theorem dX5_byteAt_1 : decode cX5_byteAt 1 = .ok (.aload_n 0, 1) := by decide +kernel
theorem dX5_byteAt_2 : decode cX5_byteAt 2 = .ok (.getfield 67, 3) := by decide +kernel
theorem dX5_byteAt_5 : decode cX5_byteAt 5 = .ok (.if_icmp .ge 12, 3) := by decide +kernel
theorem dX5_byteAt_8 : decode cX5_byteAt 8 = .ok (.aload_n 0, 1) := by decide +kernel
theorem dX5_byteAt_9 : decode cX5_byteAt 9 = .ok (.getfield 23, 3) := by decide +kernel
theorem dX5_byteAt_12 : decode cX5_byteAt 12 = .ok (.iload_n 1, 1) := by decide +kernel
theorem dX5_byteAt_13 : decode cX5_byteAt 13 = .ok (.iaload, 1) := by decide +kernel
theorem dX5_byteAt_14 : decode cX5_byteAt 14 = .ok (.goto 4, 3) := by decide +kernel
theorem dX5_byteAt_17 : decode cX5_byteAt 17 = .ok (.iconst (-1), 1) := by decide +kernel
theorem dX5_byteAt_18 : decode cX5_byteAt 18 = .ok (.ireturn, 1) := by decide +kernel
theorem dX5_is_0 : decode cX5_is 0 = .ok (.aload_n 0, 1) := by decide +kernel
theorem dX5_is_1 : decode cX5_is 1 = .ok (.getfield 79, 3) := by decide +kernel
theorem dX5_is_4 : decode cX5_is 4 = .ok (.aload_n 0, 1) := by decide +kernel
theorem dX5_is_5 : decode cX5_is 5 = .ok (.getfield 73, 3) := by decide +kernel
theorem dX5_is_8 : decode cX5_is 8 = .ok (.isub, 1) := by decide +kernel
theorem dX5_is_9 : decode cX5_is 9 = .ok (.iload_n 1, 1) := by decide +kernel
theorem dX5_is_10 : decode cX5_is 10 = .ok (.if_icmp .ne 48, 3) := by decide +kernel
theorem dX5_is_13 : decode cX5_is 13 = .ok (.aload_n 0, 1) := by decide +kernel
theorem dX5_is_14 : decode cX5_is 14 = .ok (.aload_n 0, 1) := by decide +kernel
theorem dX5_is_15 : decode cX5_is 15 = .ok (.getfield 73, 3) := by decide +kernel
theorem dX5_is_18 : decode cX5_is 18 = .ok (.invokevirtual 82, 3) := by decide +kernel
theorem dX5_is_21 : decode cX5_is 21 = .ok (.iload_n 2, 1) := by decide +kernel
theorem dX5_is_22 : decode cX5_is 22 = .ok (.if_icmp .ne 36, 3) := by decide +kernel
theorem dX5_is_25 : decode cX5_is 25 = .ok (.aload_n 0, 1) := by decide +kernel
theorem dX5_is_26 : decode cX5_is 26 = .ok (.aload_n 0, 1) := by decide +kernel
theorem dX5_is_27 : decode cX5_is 27 = .ok (.getfield 73, 3) := by decide +kernel
theorem dX5_is_30 : decode cX5_is 30 = .ok (.iconst 1, 1) := by decide +kernel
theorem dX5_is_31 : decode cX5_is 31 = .ok (.iadd, 1) := by decide +kernel
theorem dX5_is_32 : decode cX5_is 32 = .ok (.invokevirtual 82, 3) := by decide +kernel
theorem dX5_is_35 : decode cX5_is 35 = .ok (.iload_n 3, 1) := by decide +kernel
theorem dX5_is_36 : decode cX5_is 36 = .ok (.if_icmp .ne 22, 3) := by decide +kernel
theorem dX5_is_39 : decode cX5_is 39 = .ok (.aload_n 0, 1) := by decide +kernel
theorem dX5_is_40 : decode cX5_is 40 = .ok (.aload_n 0, 1) := by decide +kernel
theorem dX5_is_41 : decode cX5_is 41 = .ok (.getfield 73, 3) := by decide +kernel
theorem dX5_is_44 : decode cX5_is 44 = .ok (.iconst 2, 1) := by decide +kernel
theorem dX5_is_45 : decode cX5_is 45 = .ok (.iadd, 1) := by decide +kernel
theorem dX5_is_46 : decode cX5_is 46 = .ok (.invokevirtual 82, 3) := by decide +kernel
theorem dX5_is_49 : decode cX5_is 49 = .ok (.iload 4, 2) := by decide +kernel
theorem dX5_is_51 : decode cX5_is 51 = .ok (.if_icmp .ne 7, 3) := by decide +kernel
theorem dX5_is_54 : decode cX5_is 54 = .ok (.iconst 1, 1) := by decide +kernel
theorem dX5_is_55 : decode cX5_is 55 = .ok (.goto 4, 3) := by decide +kernel
theorem dX5_is_58 : decode cX5_is 58 = .ok (.iconst 0, 1) := by decide +kernel
theorem dX5_is_59 : decode cX5_is 59 = .ok (.ireturn, 1) := by decide +kernel
theorem dX5_endsIn_0 : decode cX5_endsIn 0 = .ok (.aload_n 0, 1) := by decide +kernel
theorem dX5_endsIn_1 : decode cX5_endsIn 1 = .ok (.aload_n 0, 1) := by decide +kernel
theorem dX5_endsIn_2 : decode cX5_endsIn 2 = .ok (.getfield 73, 3) := by decide +kernel
theorem dX5_endsIn_5 : decode cX5_endsIn 5 = .ok (.iconst 3, 1) := by decide +kernel
theorem dX5_endsIn_6 : decode cX5_endsIn 6 = .ok (.iadd, 1) := by decide +kernel
theorem dX5_endsIn_7 : decode cX5_endsIn 7 = .ok (.invokevirtual 82, 3) := by decide +kernel
theorem dX5_endsIn_10 : decode cX5_endsIn 10 = .ok (.iload_n 1, 1) := by decide +kernel
theorem dX5_endsIn_11 : decode cX5_endsIn 11 = .ok (.if_icmp .ne 25, 3) := by decide +kernel
theorem dX5_endsIn_14 : decode cX5_endsIn 14 = .ok (.iload_n 2, 1) := by decide +kernel
theorem dX5_endsIn_15 : decode cX5_endsIn 15 = .ok (.ifCond .eq 17, 3) := by decide +kernel
theorem dX5_endsIn_18 : decode cX5_endsIn 18 = .ok (.aload_n 0, 1) := by decide +kernel
theorem dX5_endsIn_19 : decode cX5_endsIn 19 = .ok (.aload_n 0, 1) := by decide +kernel
theorem dX5_endsIn_20 : decode cX5_endsIn 20 = .ok (.getfield 73, 3) := by decide +kernel
theorem dX5_endsIn_23 : decode cX5_endsIn 23 = .ok (.iconst 4, 1) := by decide +kernel
theorem dX5_endsIn_24 : decode cX5_endsIn 24 = .ok (.iadd, 1) := by decide +kernel
theorem dX5_endsIn_25 : decode cX5_endsIn 25 = .ok (.invokevirtual 82, 3) := by decide +kernel
theorem dX5_endsIn_28 : decode cX5_endsIn 28 = .ok (.iload_n 2, 1) := by decide +kernel
theorem dX5_endsIn_29 : decode cX5_endsIn 29 = .ok (.if_icmp .ne 7, 3) := by decide +kernel
theorem dX5_endsIn_32 : decode cX5_endsIn 32 = .ok (.iconst 1, 1) := by decide +kernel
theorem dX5_endsIn_33 : decode cX5_endsIn 33 = .ok (.goto 4, 3) := by decide +kernel
theorem dX5_endsIn_36 : decode cX5_endsIn 36 = .ok (.iconst 0, 1) := by decide +kernel
theorem dX5_endsIn_37 : decode cX5_endsIn 37 = .ok (.ireturn, 1) := by decide +kernel
theorem dX5_lineNow_0 : decode cX5_lineNow 0 = .ok (.aload_n 0, 1) := by decide +kernel
theorem dX5_lineNow_1 : decode cX5_lineNow 1 = .ok (.iconst 5, 1) := by decide +kernel
theorem dX5_lineNow_2 : decode cX5_lineNow 2 = .ok (.bipush 97, 2) := by decide +kernel
theorem dX5_lineNow_4 : decode cX5_lineNow 4 = .ok (.bipush 108, 2) := by decide +kernel
theorem dX5_lineNow_6 : decode cX5_lineNow 6 = .ok (.bipush 105, 2) := by decide +kernel
theorem dX5_lineNow_8 : decode cX5_lineNow 8 = .ok (.invokevirtual 86, 3) := by decide +kernel
theorem dX5_lineNow_11 : decode cX5_lineNow 11 = .ok (.ifCond .eq 16, 3) := by decide +kernel
theorem dX5_lineNow_14 : decode cX5_lineNow 14 = .ok (.aload_n 0, 1) := by decide +kernel
theorem dX5_lineNow_15 : decode cX5_lineNow 15 = .ok (.bipush 107, 2) := by decide +kernel
theorem dX5_lineNow_17 : decode cX5_lineNow 17 = .ok (.bipush 101, 2) := by decide +kernel
theorem dX5_lineNow_19 : decode cX5_lineNow 19 = .ok (.invokevirtual 90, 3) := by decide +kernel
theorem dX5_lineNow_22 : decode cX5_lineNow 22 = .ok (.ifCond .eq 5, 3) := by decide +kernel
theorem dX5_lineNow_25 : decode cX5_lineNow 25 = .ok (.iconst 0, 1) := by decide +kernel
theorem dX5_lineNow_26 : decode cX5_lineNow 26 = .ok (.ireturn, 1) := by decide +kernel
theorem dX5_lineNow_27 : decode cX5_lineNow 27 = .ok (.aload_n 0, 1) := by decide +kernel
theorem dX5_lineNow_28 : decode cX5_lineNow 28 = .ok (.iconst 5, 1) := by decide +kernel
theorem dX5_lineNow_29 : decode cX5_lineNow 29 = .ok (.bipush 115, 2) := by decide +kernel
theorem dX5_lineNow_31 : decode cX5_lineNow 31 = .ok (.bipush 99, 2) := by decide +kernel
theorem dX5_lineNow_33 : decode cX5_lineNow 33 = .ok (.bipush 97, 2) := by decide +kernel
theorem dX5_lineNow_35 : decode cX5_lineNow 35 = .ok (.invokevirtual 86, 3) := by decide +kernel
theorem dX5_lineNow_38 : decode cX5_lineNow 38 = .ok (.ifCond .eq 16, 3) := by decide +kernel
theorem dX5_lineNow_41 : decode cX5_lineNow 41 = .ok (.aload_n 0, 1) := by decide +kernel
theorem dX5_lineNow_42 : decode cX5_lineNow 42 = .ok (.bipush 108, 2) := by decide +kernel
theorem dX5_lineNow_44 : decode cX5_lineNow 44 = .ok (.bipush 101, 2) := by decide +kernel
theorem dX5_lineNow_46 : decode cX5_lineNow 46 = .ok (.invokevirtual 90, 3) := by decide +kernel
theorem dX5_lineNow_49 : decode cX5_lineNow 49 = .ok (.ifCond .eq 5, 3) := by decide +kernel
theorem dX5_lineNow_52 : decode cX5_lineNow 52 = .ok (.iconst 1, 1) := by decide +kernel
theorem dX5_lineNow_53 : decode cX5_lineNow 53 = .ok (.ireturn, 1) := by decide +kernel
theorem dX5_lineNow_54 : decode cX5_lineNow 54 = .ok (.aload_n 0, 1) := by decide +kernel
theorem dX5_lineNow_55 : decode cX5_lineNow 55 = .ok (.iconst 4, 1) := by decide +kernel
theorem dX5_lineNow_56 : decode cX5_lineNow 56 = .ok (.bipush 115, 2) := by decide +kernel
theorem dX5_lineNow_58 : decode cX5_lineNow 58 = .ok (.bipush 104, 2) := by decide +kernel
theorem dX5_lineNow_60 : decode cX5_lineNow 60 = .ok (.bipush 117, 2) := by decide +kernel
theorem dX5_lineNow_62 : decode cX5_lineNow 62 = .ok (.invokevirtual 86, 3) := by decide +kernel
theorem dX5_lineNow_65 : decode cX5_lineNow 65 = .ok (.ifCond .eq 15, 3) := by decide +kernel
theorem dX5_lineNow_68 : decode cX5_lineNow 68 = .ok (.aload_n 0, 1) := by decide +kernel
theorem dX5_lineNow_69 : decode cX5_lineNow 69 = .ok (.bipush 116, 2) := by decide +kernel
theorem dX5_lineNow_71 : decode cX5_lineNow 71 = .ok (.iconst 0, 1) := by decide +kernel
theorem dX5_lineNow_72 : decode cX5_lineNow 72 = .ok (.invokevirtual 90, 3) := by decide +kernel
theorem dX5_lineNow_75 : decode cX5_lineNow 75 = .ok (.ifCond .eq 5, 3) := by decide +kernel
theorem dX5_lineNow_78 : decode cX5_lineNow 78 = .ok (.iconst 2, 1) := by decide +kernel
theorem dX5_lineNow_79 : decode cX5_lineNow 79 = .ok (.ireturn, 1) := by decide +kernel
theorem dX5_lineNow_80 : decode cX5_lineNow 80 = .ok (.aload_n 0, 1) := by decide +kernel
theorem dX5_lineNow_81 : decode cX5_lineNow 81 = .ok (.iconst 4, 1) := by decide +kernel
theorem dX5_lineNow_82 : decode cX5_lineNow 82 = .ok (.bipush 98, 2) := by decide +kernel
theorem dX5_lineNow_84 : decode cX5_lineNow 84 = .ok (.bipush 111, 2) := by decide +kernel
theorem dX5_lineNow_86 : decode cX5_lineNow 86 = .ok (.bipush 116, 2) := by decide +kernel
theorem dX5_lineNow_88 : decode cX5_lineNow 88 = .ok (.invokevirtual 86, 3) := by decide +kernel
theorem dX5_lineNow_91 : decode cX5_lineNow 91 = .ok (.ifCond .eq 15, 3) := by decide +kernel
theorem dX5_lineNow_94 : decode cX5_lineNow 94 = .ok (.aload_n 0, 1) := by decide +kernel
theorem dX5_lineNow_95 : decode cX5_lineNow 95 = .ok (.bipush 104, 2) := by decide +kernel
theorem dX5_lineNow_97 : decode cX5_lineNow 97 = .ok (.iconst 0, 1) := by decide +kernel
theorem dX5_lineNow_98 : decode cX5_lineNow 98 = .ok (.invokevirtual 90, 3) := by decide +kernel
theorem dX5_lineNow_101 : decode cX5_lineNow 101 = .ok (.ifCond .eq 5, 3) := by decide +kernel
theorem dX5_lineNow_104 : decode cX5_lineNow 104 = .ok (.iconst 3, 1) := by decide +kernel
theorem dX5_lineNow_105 : decode cX5_lineNow 105 = .ok (.ireturn, 1) := by decide +kernel
theorem dX5_lineNow_106 : decode cX5_lineNow 106 = .ok (.aload_n 0, 1) := by decide +kernel
theorem dX5_lineNow_107 : decode cX5_lineNow 107 = .ok (.iconst 5, 1) := by decide +kernel
theorem dX5_lineNow_108 : decode cX5_lineNow 108 = .ok (.bipush 112, 2) := by decide +kernel
theorem dX5_lineNow_110 : decode cX5_lineNow 110 = .ok (.bipush 114, 2) := by decide +kernel
theorem dX5_lineNow_112 : decode cX5_lineNow 112 = .ok (.bipush 101, 2) := by decide +kernel
theorem dX5_lineNow_114 : decode cX5_lineNow 114 = .ok (.invokevirtual 86, 3) := by decide +kernel
theorem dX5_lineNow_117 : decode cX5_lineNow 117 = .ok (.ifCond .eq 18, 3) := by decide +kernel
theorem dX5_lineNow_120 : decode cX5_lineNow 120 = .ok (.aload_n 0, 1) := by decide +kernel
theorem dX5_lineNow_121 : decode cX5_lineNow 121 = .ok (.bipush 115, 2) := by decide +kernel
theorem dX5_lineNow_123 : decode cX5_lineNow 123 = .ok (.bipush 115, 2) := by decide +kernel
theorem dX5_lineNow_125 : decode cX5_lineNow 125 = .ok (.invokevirtual 90, 3) := by decide +kernel
theorem dX5_lineNow_128 : decode cX5_lineNow 128 = .ok (.ifCond .eq 7, 3) := by decide +kernel
theorem dX5_lineNow_131 : decode cX5_lineNow 131 = .ok (.iconst 4, 1) := by decide +kernel
theorem dX5_lineNow_132 : decode cX5_lineNow 132 = .ok (.goto 34, 3) := by decide +kernel
theorem dX5_lineNow_135 : decode cX5_lineNow 135 = .ok (.aload_n 0, 1) := by decide +kernel
theorem dX5_lineNow_136 : decode cX5_lineNow 136 = .ok (.iconst 5, 1) := by decide +kernel
theorem dX5_lineNow_137 : decode cX5_lineNow 137 = .ok (.bipush 101, 2) := by decide +kernel
theorem dX5_lineNow_139 : decode cX5_lineNow 139 = .ok (.bipush 118, 2) := by decide +kernel
theorem dX5_lineNow_141 : decode cX5_lineNow 141 = .ok (.bipush 101, 2) := by decide +kernel
theorem dX5_lineNow_143 : decode cX5_lineNow 143 = .ok (.invokevirtual 86, 3) := by decide +kernel
theorem dX5_lineNow_146 : decode cX5_lineNow 146 = .ok (.ifCond .eq 18, 3) := by decide +kernel
theorem dX5_lineNow_149 : decode cX5_lineNow 149 = .ok (.aload_n 0, 1) := by decide +kernel
theorem dX5_lineNow_150 : decode cX5_lineNow 150 = .ok (.bipush 114, 2) := by decide +kernel
theorem dX5_lineNow_152 : decode cX5_lineNow 152 = .ok (.bipush 121, 2) := by decide +kernel
theorem dX5_lineNow_154 : decode cX5_lineNow 154 = .ok (.invokevirtual 90, 3) := by decide +kernel
theorem dX5_lineNow_157 : decode cX5_lineNow 157 = .ok (.ifCond .eq 7, 3) := by decide +kernel
theorem dX5_lineNow_160 : decode cX5_lineNow 160 = .ok (.iconst 5, 1) := by decide +kernel
theorem dX5_lineNow_161 : decode cX5_lineNow 161 = .ok (.goto 5, 3) := by decide +kernel
theorem dX5_lineNow_164 : decode cX5_lineNow 164 = .ok (.bipush (-4), 2) := by decide +kernel
theorem dX5_lineNow_166 : decode cX5_lineNow 166 = .ok (.ireturn, 1) := by decide +kernel
theorem dX5_reads_0 : decode cX5_reads 0 = .ok (.aload_n 0, 1) := by decide +kernel
theorem dX5_reads_1 : decode cX5_reads 1 = .ok (.getfield 70, 3) := by decide +kernel
theorem dX5_reads_4 : decode cX5_reads 4 = .ok (.ifCond .le 4, 3) := by decide +kernel
theorem dX5_reads_7 : decode cX5_reads 7 = .ok (.return_, 1) := by decide +kernel
theorem dX5_reads_8 : decode cX5_reads 8 = .ok (.aload_n 0, 1) := by decide +kernel
theorem dX5_reads_9 : decode cX5_reads 9 = .ok (.aload_n 0, 1) := by decide +kernel
theorem dX5_reads_10 : decode cX5_reads 10 = .ok (.getfield 79, 3) := by decide +kernel
theorem dX5_reads_13 : decode cX5_reads 13 = .ok (.invokevirtual 82, 3) := by decide +kernel
theorem dX5_reads_16 : decode cX5_reads 16 = .ok (.bipush 32, 2) := by decide +kernel
theorem dX5_reads_18 : decode cX5_reads 18 = .ok (.if_icmp .ne 16, 3) := by decide +kernel
theorem dX5_reads_21 : decode cX5_reads 21 = .ok (.aload_n 0, 1) := by decide +kernel
theorem dX5_reads_22 : decode cX5_reads 22 = .ok (.dup, 1) := by decide +kernel
theorem dX5_reads_23 : decode cX5_reads 23 = .ok (.getfield 79, 3) := by decide +kernel
theorem dX5_reads_26 : decode cX5_reads 26 = .ok (.iconst 1, 1) := by decide +kernel
theorem dX5_reads_27 : decode cX5_reads 27 = .ok (.iadd, 1) := by decide +kernel
theorem dX5_reads_28 : decode cX5_reads 28 = .ok (.putfield 79, 3) := by decide +kernel
theorem dX5_reads_31 : decode cX5_reads 31 = .ok (.goto (-23), 3) := by decide +kernel
theorem dX5_reads_34 : decode cX5_reads 34 = .ok (.aload_n 0, 1) := by decide +kernel
theorem dX5_reads_35 : decode cX5_reads 35 = .ok (.aload_n 0, 1) := by decide +kernel
theorem dX5_reads_36 : decode cX5_reads 36 = .ok (.getfield 79, 3) := by decide +kernel
theorem dX5_reads_39 : decode cX5_reads 39 = .ok (.putfield 73, 3) := by decide +kernel
theorem dX5_reads_42 : decode cX5_reads 42 = .ok (.aload_n 0, 1) := by decide +kernel
theorem dX5_reads_43 : decode cX5_reads 43 = .ok (.aload_n 0, 1) := by decide +kernel
theorem dX5_reads_44 : decode cX5_reads 44 = .ok (.getfield 79, 3) := by decide +kernel
theorem dX5_reads_47 : decode cX5_reads 47 = .ok (.invokevirtual 82, 3) := by decide +kernel
theorem dX5_reads_50 : decode cX5_reads 50 = .ok (.istore_n 1, 1) := by decide +kernel
theorem dX5_reads_51 : decode cX5_reads 51 = .ok (.iload_n 1, 1) := by decide +kernel
theorem dX5_reads_52 : decode cX5_reads 52 = .ok (.ifCond .ge 11, 3) := by decide +kernel
theorem dX5_reads_55 : decode cX5_reads 55 = .ok (.aload_n 0, 1) := by decide +kernel
theorem dX5_reads_56 : decode cX5_reads 56 = .ok (.iconst 0, 1) := by decide +kernel
theorem dX5_reads_57 : decode cX5_reads 57 = .ok (.putfield 94, 3) := by decide +kernel
theorem dX5_reads_60 : decode cX5_reads 60 = .ok (.goto 214, 3) := by decide +kernel
theorem dX5_reads_63 : decode cX5_reads 63 = .ok (.iload_n 1, 1) := by decide +kernel
theorem dX5_reads_64 : decode cX5_reads 64 = .ok (.i2l, 1) := by decide +kernel
theorem dX5_reads_65 : decode cX5_reads 65 = .ok (.ldc2_w 97, 3) := by decide +kernel
theorem dX5_reads_68 : decode cX5_reads 68 = .ok (.ldc2_w 99, 3) := by decide +kernel
theorem dX5_reads_71 : decode cX5_reads 71 = .ok (.invokestatic 63, 3) := by decide +kernel
theorem dX5_reads_74 : decode cX5_reads 74 = .ok (.ifCond .eq 42, 3) := by decide +kernel
theorem dX5_reads_77 : decode cX5_reads 77 = .ok (.aload_n 0, 1) := by decide +kernel
theorem dX5_reads_78 : decode cX5_reads 78 = .ok (.iconst 1, 1) := by decide +kernel
theorem dX5_reads_79 : decode cX5_reads 79 = .ok (.putfield 94, 3) := by decide +kernel
theorem dX5_reads_82 : decode cX5_reads 82 = .ok (.aload_n 0, 1) := by decide +kernel
theorem dX5_reads_83 : decode cX5_reads 83 = .ok (.aload_n 0, 1) := by decide +kernel
theorem dX5_reads_84 : decode cX5_reads 84 = .ok (.getfield 79, 3) := by decide +kernel
theorem dX5_reads_87 : decode cX5_reads 87 = .ok (.invokevirtual 82, 3) := by decide +kernel
theorem dX5_reads_90 : decode cX5_reads 90 = .ok (.i2l, 1) := by decide +kernel
theorem dX5_reads_91 : decode cX5_reads 91 = .ok (.ldc2_w 97, 3) := by decide +kernel
theorem dX5_reads_94 : decode cX5_reads 94 = .ok (.ldc2_w 99, 3) := by decide +kernel
theorem dX5_reads_97 : decode cX5_reads 97 = .ok (.invokestatic 63, 3) := by decide +kernel
theorem dX5_reads_100 : decode cX5_reads 100 = .ok (.ifCond .eq 174, 3) := by decide +kernel
theorem dX5_reads_103 : decode cX5_reads 103 = .ok (.aload_n 0, 1) := by decide +kernel
theorem dX5_reads_104 : decode cX5_reads 104 = .ok (.dup, 1) := by decide +kernel
theorem dX5_reads_105 : decode cX5_reads 105 = .ok (.getfield 79, 3) := by decide +kernel
theorem dX5_reads_108 : decode cX5_reads 108 = .ok (.iconst 1, 1) := by decide +kernel
theorem dX5_reads_109 : decode cX5_reads 109 = .ok (.iadd, 1) := by decide +kernel
theorem dX5_reads_110 : decode cX5_reads 110 = .ok (.putfield 79, 3) := by decide +kernel
theorem dX5_reads_113 : decode cX5_reads 113 = .ok (.goto (-31), 3) := by decide +kernel
theorem dX5_reads_116 : decode cX5_reads 116 = .ok (.iload_n 1, 1) := by decide +kernel
theorem dX5_reads_117 : decode cX5_reads 117 = .ok (.i2l, 1) := by decide +kernel
theorem dX5_reads_118 : decode cX5_reads 118 = .ok (.ldc2_w 101, 3) := by decide +kernel
theorem dX5_reads_121 : decode cX5_reads 121 = .ok (.ldc2_w 103, 3) := by decide +kernel
theorem dX5_reads_124 : decode cX5_reads 124 = .ok (.invokestatic 63, 3) := by decide +kernel
theorem dX5_reads_127 : decode cX5_reads 127 = .ok (.ifCond .eq 116, 3) := by decide +kernel
theorem dX5_reads_130 : decode cX5_reads 130 = .ok (.aload_n 0, 1) := by decide +kernel
theorem dX5_reads_131 : decode cX5_reads 131 = .ok (.iconst 2, 1) := by decide +kernel
theorem dX5_reads_132 : decode cX5_reads 132 = .ok (.putfield 94, 3) := by decide +kernel
theorem dX5_reads_135 : decode cX5_reads 135 = .ok (.aload_n 0, 1) := by decide +kernel
theorem dX5_reads_136 : decode cX5_reads 136 = .ok (.iconst 0, 1) := by decide +kernel
theorem dX5_reads_137 : decode cX5_reads 137 = .ok (.putfield 105, 3) := by decide +kernel
theorem dX5_reads_140 : decode cX5_reads 140 = .ok (.aload_n 0, 1) := by decide +kernel
theorem dX5_reads_141 : decode cX5_reads 141 = .ok (.aload_n 0, 1) := by decide +kernel
theorem dX5_reads_142 : decode cX5_reads 142 = .ok (.getfield 79, 3) := by decide +kernel
theorem dX5_reads_145 : decode cX5_reads 145 = .ok (.invokevirtual 82, 3) := by decide +kernel
theorem dX5_reads_148 : decode cX5_reads 148 = .ok (.i2l, 1) := by decide +kernel
theorem dX5_reads_149 : decode cX5_reads 149 = .ok (.ldc2_w 101, 3) := by decide +kernel
theorem dX5_reads_152 : decode cX5_reads 152 = .ok (.ldc2_w 103, 3) := by decide +kernel
theorem dX5_reads_155 : decode cX5_reads 155 = .ok (.invokestatic 63, 3) := by decide +kernel
theorem dX5_reads_158 : decode cX5_reads 158 = .ok (.ifCond .eq 59, 3) := by decide +kernel
theorem dX5_reads_161 : decode cX5_reads 161 = .ok (.aload_n 0, 1) := by decide +kernel
theorem dX5_reads_162 : decode cX5_reads 162 = .ok (.aload_n 0, 1) := by decide +kernel
theorem dX5_reads_163 : decode cX5_reads 163 = .ok (.getfield 79, 3) := by decide +kernel
theorem dX5_reads_166 : decode cX5_reads 166 = .ok (.aload_n 0, 1) := by decide +kernel
theorem dX5_reads_167 : decode cX5_reads 167 = .ok (.getfield 73, 3) := by decide +kernel
theorem dX5_reads_170 : decode cX5_reads 170 = .ok (.isub, 1) := by decide +kernel
theorem dX5_reads_171 : decode cX5_reads 171 = .ok (.iconst 2, 1) := by decide +kernel
theorem dX5_reads_172 : decode cX5_reads 172 = .ok (.if_icmp .ge 25, 3) := by decide +kernel
theorem dX5_reads_175 : decode cX5_reads 175 = .ok (.bipush 10, 2) := by decide +kernel
theorem dX5_reads_177 : decode cX5_reads 177 = .ok (.aload_n 0, 1) := by decide +kernel
theorem dX5_reads_178 : decode cX5_reads 178 = .ok (.getfield 105, 3) := by decide +kernel
theorem dX5_reads_181 : decode cX5_reads 181 = .ok (.imul, 1) := by decide +kernel
theorem dX5_reads_182 : decode cX5_reads 182 = .ok (.aload_n 0, 1) := by decide +kernel
theorem dX5_reads_183 : decode cX5_reads 183 = .ok (.aload_n 0, 1) := by decide +kernel
theorem dX5_reads_184 : decode cX5_reads 184 = .ok (.getfield 79, 3) := by decide +kernel
theorem dX5_reads_187 : decode cX5_reads 187 = .ok (.invokevirtual 82, 3) := by decide +kernel
theorem dX5_reads_190 : decode cX5_reads 190 = .ok (.iadd, 1) := by decide +kernel
theorem dX5_reads_191 : decode cX5_reads 191 = .ok (.bipush 48, 2) := by decide +kernel
theorem dX5_reads_193 : decode cX5_reads 193 = .ok (.isub, 1) := by decide +kernel
theorem dX5_reads_194 : decode cX5_reads 194 = .ok (.goto 7, 3) := by decide +kernel
theorem dX5_reads_197 : decode cX5_reads 197 = .ok (.aload_n 0, 1) := by decide +kernel
theorem dX5_reads_198 : decode cX5_reads 198 = .ok (.getfield 105, 3) := by decide +kernel
theorem dX5_reads_201 : decode cX5_reads 201 = .ok (.putfield 105, 3) := by decide +kernel
theorem dX5_reads_204 : decode cX5_reads 204 = .ok (.aload_n 0, 1) := by decide +kernel
theorem dX5_reads_205 : decode cX5_reads 205 = .ok (.dup, 1) := by decide +kernel
theorem dX5_reads_206 : decode cX5_reads 206 = .ok (.getfield 79, 3) := by decide +kernel
theorem dX5_reads_209 : decode cX5_reads 209 = .ok (.iconst 1, 1) := by decide +kernel
theorem dX5_reads_210 : decode cX5_reads 210 = .ok (.iadd, 1) := by decide +kernel
theorem dX5_reads_211 : decode cX5_reads 211 = .ok (.putfield 79, 3) := by decide +kernel
theorem dX5_reads_214 : decode cX5_reads 214 = .ok (.goto (-74), 3) := by decide +kernel
theorem dX5_reads_217 : decode cX5_reads 217 = .ok (.aload_n 0, 1) := by decide +kernel
theorem dX5_reads_218 : decode cX5_reads 218 = .ok (.aload_n 0, 1) := by decide +kernel
theorem dX5_reads_219 : decode cX5_reads 219 = .ok (.getfield 79, 3) := by decide +kernel
theorem dX5_reads_222 : decode cX5_reads 222 = .ok (.aload_n 0, 1) := by decide +kernel
theorem dX5_reads_223 : decode cX5_reads 223 = .ok (.getfield 73, 3) := by decide +kernel
theorem dX5_reads_226 : decode cX5_reads 226 = .ok (.isub, 1) := by decide +kernel
theorem dX5_reads_227 : decode cX5_reads 227 = .ok (.iconst 2, 1) := by decide +kernel
theorem dX5_reads_228 : decode cX5_reads 228 = .ok (.if_icmp .gt 7, 3) := by decide +kernel
theorem dX5_reads_231 : decode cX5_reads 231 = .ok (.iconst 1, 1) := by decide +kernel
theorem dX5_reads_232 : decode cX5_reads 232 = .ok (.goto 4, 3) := by decide +kernel
theorem dX5_reads_235 : decode cX5_reads 235 = .ok (.iconst 0, 1) := by decide +kernel
theorem dX5_reads_236 : decode cX5_reads 236 = .ok (.iconst 1, 1) := by decide +kernel
theorem dX5_reads_237 : decode cX5_reads 237 = .ok (.invokevirtual 108, 3) := by decide +kernel
theorem dX5_reads_240 : decode cX5_reads 240 = .ok (.goto 34, 3) := by decide +kernel
theorem dX5_reads_243 : decode cX5_reads 243 = .ok (.aload_n 0, 1) := by decide +kernel
theorem dX5_reads_244 : decode cX5_reads 244 = .ok (.iconst 3, 1) := by decide +kernel
theorem dX5_reads_245 : decode cX5_reads 245 = .ok (.putfield 94, 3) := by decide +kernel
theorem dX5_reads_248 : decode cX5_reads 248 = .ok (.aload_n 0, 1) := by decide +kernel
theorem dX5_reads_249 : decode cX5_reads 249 = .ok (.iload_n 1, 1) := by decide +kernel
theorem dX5_reads_250 : decode cX5_reads 250 = .ok (.bipush 59, 2) := by decide +kernel
theorem dX5_reads_252 : decode cX5_reads 252 = .ok (.if_icmp .ne 7, 3) := by decide +kernel
theorem dX5_reads_255 : decode cX5_reads 255 = .ok (.iconst 1, 1) := by decide +kernel
theorem dX5_reads_256 : decode cX5_reads 256 = .ok (.goto 4, 3) := by decide +kernel
theorem dX5_reads_259 : decode cX5_reads 259 = .ok (.iconst 0, 1) := by decide +kernel
theorem dX5_reads_260 : decode cX5_reads 260 = .ok (.iconst 1, 1) := by decide +kernel
theorem dX5_reads_261 : decode cX5_reads 261 = .ok (.invokevirtual 108, 3) := by decide +kernel
theorem dX5_reads_264 : decode cX5_reads 264 = .ok (.aload_n 0, 1) := by decide +kernel
theorem dX5_reads_265 : decode cX5_reads 265 = .ok (.dup, 1) := by decide +kernel
theorem dX5_reads_266 : decode cX5_reads 266 = .ok (.getfield 79, 3) := by decide +kernel
theorem dX5_reads_269 : decode cX5_reads 269 = .ok (.iconst 1, 1) := by decide +kernel
theorem dX5_reads_270 : decode cX5_reads 270 = .ok (.iadd, 1) := by decide +kernel
theorem dX5_reads_271 : decode cX5_reads 271 = .ok (.putfield 79, 3) := by decide +kernel
theorem dX5_reads_274 : decode cX5_reads 274 = .ok (.return_, 1) := by decide +kernel
theorem dX5_readNumber_0 : decode cX5_readNumber 0 = .ok (.aload_n 0, 1) := by decide +kernel
theorem dX5_readNumber_1 : decode cX5_readNumber 1 = .ok (.getfield 70, 3) := by decide +kernel
theorem dX5_readNumber_4 : decode cX5_readNumber 4 = .ok (.ifCond .ne 21, 3) := by decide +kernel
theorem dX5_readNumber_7 : decode cX5_readNumber 7 = .ok (.aload_n 0, 1) := by decide +kernel
theorem dX5_readNumber_8 : decode cX5_readNumber 8 = .ok (.aload_n 0, 1) := by decide +kernel
theorem dX5_readNumber_9 : decode cX5_readNumber 9 = .ok (.getfield 94, 3) := by decide +kernel
theorem dX5_readNumber_12 : decode cX5_readNumber 12 = .ok (.iconst 2, 1) := by decide +kernel
theorem dX5_readNumber_13 : decode cX5_readNumber 13 = .ok (.if_icmp .ne 7, 3) := by decide +kernel
theorem dX5_readNumber_16 : decode cX5_readNumber 16 = .ok (.iconst 1, 1) := by decide +kernel
theorem dX5_readNumber_17 : decode cX5_readNumber 17 = .ok (.goto 4, 3) := by decide +kernel
theorem dX5_readNumber_20 : decode cX5_readNumber 20 = .ok (.iconst 0, 1) := by decide +kernel
theorem dX5_readNumber_21 : decode cX5_readNumber 21 = .ok (.iconst 2, 1) := by decide +kernel
theorem dX5_readNumber_22 : decode cX5_readNumber 22 = .ok (.invokevirtual 108, 3) := by decide +kernel
theorem dX5_readNumber_25 : decode cX5_readNumber 25 = .ok (.aload_n 0, 1) := by decide +kernel
theorem dX5_readNumber_26 : decode cX5_readNumber 26 = .ok (.getfield 70, 3) := by decide +kernel
theorem dX5_readNumber_29 : decode cX5_readNumber 29 = .ok (.ifCond .ne 20, 3) := by decide +kernel
theorem dX5_readNumber_32 : decode cX5_readNumber 32 = .ok (.aload_n 0, 1) := by decide +kernel
theorem dX5_readNumber_33 : decode cX5_readNumber 33 = .ok (.aload_n 0, 1) := by decide +kernel
theorem dX5_readNumber_34 : decode cX5_readNumber 34 = .ok (.getfield 105, 3) := by decide +kernel
theorem dX5_readNumber_37 : decode cX5_readNumber 37 = .ok (.i2l, 1) := by decide +kernel
theorem dX5_readNumber_38 : decode cX5_readNumber 38 = .ok (.iload_n 1, 1) := by decide +kernel
theorem dX5_readNumber_39 : decode cX5_readNumber 39 = .ok (.i2l, 1) := by decide +kernel
theorem dX5_readNumber_40 : decode cX5_readNumber 40 = .ok (.iload_n 2, 1) := by decide +kernel
theorem dX5_readNumber_41 : decode cX5_readNumber 41 = .ok (.i2l, 1) := by decide +kernel
theorem dX5_readNumber_42 : decode cX5_readNumber 42 = .ok (.invokestatic 63, 3) := by decide +kernel
theorem dX5_readNumber_45 : decode cX5_readNumber 45 = .ok (.iconst 3, 1) := by decide +kernel
theorem dX5_readNumber_46 : decode cX5_readNumber 46 = .ok (.invokevirtual 108, 3) := by decide +kernel
theorem dX5_readNumber_49 : decode cX5_readNumber 49 = .ok (.aload_n 0, 1) := by decide +kernel
theorem dX5_readNumber_50 : decode cX5_readNumber 50 = .ok (.getfield 70, 3) := by decide +kernel
theorem dX5_readNumber_53 : decode cX5_readNumber 53 = .ok (.ifCond .ne 10, 3) := by decide +kernel
theorem dX5_readNumber_56 : decode cX5_readNumber 56 = .ok (.aload_n 0, 1) := by decide +kernel
theorem dX5_readNumber_57 : decode cX5_readNumber 57 = .ok (.getfield 105, 3) := by decide +kernel
theorem dX5_readNumber_60 : decode cX5_readNumber 60 = .ok (.goto 4, 3) := by decide +kernel
theorem dX5_readNumber_63 : decode cX5_readNumber 63 = .ok (.iconst 0, 1) := by decide +kernel
theorem dX5_readNumber_64 : decode cX5_readNumber 64 = .ok (.istore_n 3, 1) := by decide +kernel
theorem dX5_readNumber_65 : decode cX5_readNumber 65 = .ok (.aload_n 0, 1) := by decide +kernel
theorem dX5_readNumber_66 : decode cX5_readNumber 66 = .ok (.invokevirtual 112, 3) := by decide +kernel
theorem dX5_readNumber_69 : decode cX5_readNumber 69 = .ok (.iload_n 3, 1) := by decide +kernel
theorem dX5_readNumber_70 : decode cX5_readNumber 70 = .ok (.ireturn, 1) := by decide +kernel
theorem dX5_readPress_0 : decode cX5_readPress 0 = .ok (.bipush 29, 2) := by decide +kernel
theorem dX5_readPress_2 : decode cX5_readPress 2 = .ok (.iconst 3, 1) := by decide +kernel
theorem dX5_readPress_3 : decode cX5_readPress 3 = .ok (.aload_n 0, 1) := by decide +kernel
theorem dX5_readPress_4 : decode cX5_readPress 4 = .ok (.getfield 20, 3) := by decide +kernel
theorem dX5_readPress_7 : decode cX5_readPress 7 = .ok (.bipush 53, 2) := by decide +kernel
theorem dX5_readPress_9 : decode cX5_readPress 9 = .ok (.iaload, 1) := by decide +kernel
theorem dX5_readPress_10 : decode cX5_readPress 10 = .ok (.imul, 1) := by decide +kernel
theorem dX5_readPress_11 : decode cX5_readPress 11 = .ok (.iadd, 1) := by decide +kernel
theorem dX5_readPress_12 : decode cX5_readPress 12 = .ok (.istore_n 1, 1) := by decide +kernel
theorem dX5_readPress_13 : decode cX5_readPress 13 = .ok (.aload_n 0, 1) := by decide +kernel
theorem dX5_readPress_14 : decode cX5_readPress 14 = .ok (.getfield 20, 3) := by decide +kernel
theorem dX5_readPress_17 : decode cX5_readPress 17 = .ok (.iload_n 1, 1) := by decide +kernel
theorem dX5_readPress_18 : decode cX5_readPress 18 = .ok (.iconst 0, 1) := by decide +kernel
theorem dX5_readPress_19 : decode cX5_readPress 19 = .ok (.iadd, 1) := by decide +kernel
theorem dX5_readPress_20 : decode cX5_readPress 20 = .ok (.aload_n 0, 1) := by decide +kernel
theorem dX5_readPress_21 : decode cX5_readPress 21 = .ok (.iconst 0, 1) := by decide +kernel
theorem dX5_readPress_22 : decode cX5_readPress 22 = .ok (.bipush 99, 2) := by decide +kernel
theorem dX5_readPress_24 : decode cX5_readPress 24 = .ok (.invokevirtual 115, 3) := by decide +kernel
theorem dX5_readPress_27 : decode cX5_readPress 27 = .ok (.iastore, 1) := by decide +kernel
theorem dX5_readPress_28 : decode cX5_readPress 28 = .ok (.aload_n 0, 1) := by decide +kernel
theorem dX5_readPress_29 : decode cX5_readPress 29 = .ok (.getfield 20, 3) := by decide +kernel
theorem dX5_readPress_32 : decode cX5_readPress 32 = .ok (.iload_n 1, 1) := by decide +kernel
theorem dX5_readPress_33 : decode cX5_readPress 33 = .ok (.iconst 1, 1) := by decide +kernel
theorem dX5_readPress_34 : decode cX5_readPress 34 = .ok (.iadd, 1) := by decide +kernel
theorem dX5_readPress_35 : decode cX5_readPress 35 = .ok (.aload_n 0, 1) := by decide +kernel
theorem dX5_readPress_36 : decode cX5_readPress 36 = .ok (.iconst 0, 1) := by decide +kernel
theorem dX5_readPress_37 : decode cX5_readPress 37 = .ok (.iconst 3, 1) := by decide +kernel
theorem dX5_readPress_38 : decode cX5_readPress 38 = .ok (.invokevirtual 115, 3) := by decide +kernel
theorem dX5_readPress_41 : decode cX5_readPress 41 = .ok (.iastore, 1) := by decide +kernel
theorem dX5_readPress_42 : decode cX5_readPress 42 = .ok (.aload_n 0, 1) := by decide +kernel
theorem dX5_readPress_43 : decode cX5_readPress 43 = .ok (.aload_n 0, 1) := by decide +kernel
theorem dX5_readPress_44 : decode cX5_readPress 44 = .ok (.getfield 20, 3) := by decide +kernel
theorem dX5_readPress_47 : decode cX5_readPress 47 = .ok (.iload_n 1, 1) := by decide +kernel
theorem dX5_readPress_48 : decode cX5_readPress 48 = .ok (.iconst 1, 1) := by decide +kernel
theorem dX5_readPress_49 : decode cX5_readPress 49 = .ok (.iadd, 1) := by decide +kernel
theorem dX5_readPress_50 : decode cX5_readPress 50 = .ok (.iaload, 1) := by decide +kernel
theorem dX5_readPress_51 : decode cX5_readPress 51 = .ok (.aload_n 0, 1) := by decide +kernel
theorem dX5_readPress_52 : decode cX5_readPress 52 = .ok (.getfield 57, 3) := by decide +kernel
theorem dX5_readPress_55 : decode cX5_readPress 55 = .ok (.if_icmp .le 14, 3) := by decide +kernel
theorem dX5_readPress_58 : decode cX5_readPress 58 = .ok (.aload_n 0, 1) := by decide +kernel
theorem dX5_readPress_59 : decode cX5_readPress 59 = .ok (.getfield 20, 3) := by decide +kernel
theorem dX5_readPress_62 : decode cX5_readPress 62 = .ok (.iload_n 1, 1) := by decide +kernel
theorem dX5_readPress_63 : decode cX5_readPress 63 = .ok (.iconst 1, 1) := by decide +kernel
theorem dX5_readPress_64 : decode cX5_readPress 64 = .ok (.iadd, 1) := by decide +kernel
theorem dX5_readPress_65 : decode cX5_readPress 65 = .ok (.iaload, 1) := by decide +kernel
theorem dX5_readPress_66 : decode cX5_readPress 66 = .ok (.goto 7, 3) := by decide +kernel
theorem dX5_readPress_69 : decode cX5_readPress 69 = .ok (.aload_n 0, 1) := by decide +kernel
theorem dX5_readPress_70 : decode cX5_readPress 70 = .ok (.getfield 57, 3) := by decide +kernel
theorem dX5_readPress_73 : decode cX5_readPress 73 = .ok (.putfield 57, 3) := by decide +kernel
theorem dX5_readPress_76 : decode cX5_readPress 76 = .ok (.aload_n 0, 1) := by decide +kernel
theorem dX5_readPress_77 : decode cX5_readPress 77 = .ok (.getfield 20, 3) := by decide +kernel
theorem dX5_readPress_80 : decode cX5_readPress 80 = .ok (.iload_n 1, 1) := by decide +kernel
theorem dX5_readPress_81 : decode cX5_readPress 81 = .ok (.iconst 2, 1) := by decide +kernel
theorem dX5_readPress_82 : decode cX5_readPress 82 = .ok (.iadd, 1) := by decide +kernel
theorem dX5_readPress_83 : decode cX5_readPress 83 = .ok (.aload_n 0, 1) := by decide +kernel
theorem dX5_readPress_84 : decode cX5_readPress 84 = .ok (.iconst 0, 1) := by decide +kernel
theorem dX5_readPress_85 : decode cX5_readPress 85 = .ok (.iconst 1, 1) := by decide +kernel
theorem dX5_readPress_86 : decode cX5_readPress 86 = .ok (.invokevirtual 115, 3) := by decide +kernel
theorem dX5_readPress_89 : decode cX5_readPress 89 = .ok (.iastore, 1) := by decide +kernel
theorem dX5_readPress_90 : decode cX5_readPress 90 = .ok (.aload_n 0, 1) := by decide +kernel
theorem dX5_readPress_91 : decode cX5_readPress 91 = .ok (.getfield 20, 3) := by decide +kernel
theorem dX5_readPress_94 : decode cX5_readPress 94 = .ok (.bipush 53, 2) := by decide +kernel
theorem dX5_readPress_96 : decode cX5_readPress 96 = .ok (.dup2, 1) := by decide +kernel
theorem dX5_readPress_97 : decode cX5_readPress 97 = .ok (.iaload, 1) := by decide +kernel
theorem dX5_readPress_98 : decode cX5_readPress 98 = .ok (.iconst 1, 1) := by decide +kernel
theorem dX5_readPress_99 : decode cX5_readPress 99 = .ok (.iadd, 1) := by decide +kernel
theorem dX5_readPress_100 : decode cX5_readPress 100 = .ok (.iastore, 1) := by decide +kernel
theorem dX5_readPress_101 : decode cX5_readPress 101 = .ok (.return_, 1) := by decide +kernel
theorem dX5_readLineOf_0 : decode cX5_readLineOf 0 = .ok (.iload_n 1, 1) := by decide +kernel
theorem dX5_readLineOf_1 : decode cX5_readLineOf 1 = .ok (.lookupswitch 50 #[(4, 27), (5, 34)], 27) := by decide +kernel
theorem dX5_readLineOf_28 : decode cX5_readLineOf 28 = .ok (.aload_n 0, 1) := by decide +kernel
theorem dX5_readLineOf_29 : decode cX5_readLineOf 29 = .ok (.invokevirtual 119, 3) := by decide +kernel
theorem dX5_readLineOf_32 : decode cX5_readLineOf 32 = .ok (.goto 96, 3) := by decide +kernel
theorem dX5_readLineOf_35 : decode cX5_readLineOf 35 = .ok (.aload_n 0, 1) := by decide +kernel
theorem dX5_readLineOf_36 : decode cX5_readLineOf 36 = .ok (.getfield 20, 3) := by decide +kernel
theorem dX5_readLineOf_39 : decode cX5_readLineOf 39 = .ok (.bipush 54, 2) := by decide +kernel
theorem dX5_readLineOf_41 : decode cX5_readLineOf 41 = .ok (.aload_n 0, 1) := by decide +kernel
theorem dX5_readLineOf_42 : decode cX5_readLineOf 42 = .ok (.iconst 1, 1) := by decide +kernel
theorem dX5_readLineOf_43 : decode cX5_readLineOf 43 = .ok (.iconst 4, 1) := by decide +kernel
theorem dX5_readLineOf_44 : decode cX5_readLineOf 44 = .ok (.invokevirtual 115, 3) := by decide +kernel
theorem dX5_readLineOf_47 : decode cX5_readLineOf 47 = .ok (.iastore, 1) := by decide +kernel
theorem dX5_readLineOf_48 : decode cX5_readLineOf 48 = .ok (.goto 80, 3) := by decide +kernel
theorem dX5_readLineOf_51 : decode cX5_readLineOf 51 = .ok (.aload_n 0, 1) := by decide +kernel
theorem dX5_readLineOf_52 : decode cX5_readLineOf 52 = .ok (.getfield 20, 3) := by decide +kernel
theorem dX5_readLineOf_55 : decode cX5_readLineOf 55 = .ok (.bipush 7, 2) := by decide +kernel
theorem dX5_readLineOf_57 : decode cX5_readLineOf 57 = .ok (.aload_n 0, 1) := by decide +kernel
theorem dX5_readLineOf_58 : decode cX5_readLineOf 58 = .ok (.getfield 20, 3) := by decide +kernel
theorem dX5_readLineOf_61 : decode cX5_readLineOf 61 = .ok (.bipush 28, 2) := by decide +kernel
theorem dX5_readLineOf_63 : decode cX5_readLineOf 63 = .ok (.iaload, 1) := by decide +kernel
theorem dX5_readLineOf_64 : decode cX5_readLineOf 64 = .ok (.imul, 1) := by decide +kernel
theorem dX5_readLineOf_65 : decode cX5_readLineOf 65 = .ok (.iconst 1, 1) := by decide +kernel
theorem dX5_readLineOf_66 : decode cX5_readLineOf 66 = .ok (.iadd, 1) := by decide +kernel
theorem dX5_readLineOf_67 : decode cX5_readLineOf 67 = .ok (.iload_n 1, 1) := by decide +kernel
theorem dX5_readLineOf_68 : decode cX5_readLineOf 68 = .ok (.iastore, 1) := by decide +kernel
theorem dX5_readLineOf_69 : decode cX5_readLineOf 69 = .ok (.aload_n 0, 1) := by decide +kernel
theorem dX5_readLineOf_70 : decode cX5_readLineOf 70 = .ok (.getfield 20, 3) := by decide +kernel
theorem dX5_readLineOf_73 : decode cX5_readLineOf 73 = .ok (.bipush 7, 2) := by decide +kernel
theorem dX5_readLineOf_75 : decode cX5_readLineOf 75 = .ok (.aload_n 0, 1) := by decide +kernel
theorem dX5_readLineOf_76 : decode cX5_readLineOf 76 = .ok (.getfield 20, 3) := by decide +kernel
theorem dX5_readLineOf_79 : decode cX5_readLineOf 79 = .ok (.bipush 28, 2) := by decide +kernel
theorem dX5_readLineOf_81 : decode cX5_readLineOf 81 = .ok (.iaload, 1) := by decide +kernel
theorem dX5_readLineOf_82 : decode cX5_readLineOf 82 = .ok (.imul, 1) := by decide +kernel
theorem dX5_readLineOf_83 : decode cX5_readLineOf 83 = .ok (.iconst 0, 1) := by decide +kernel
theorem dX5_readLineOf_84 : decode cX5_readLineOf 84 = .ok (.iadd, 1) := by decide +kernel
theorem dX5_readLineOf_85 : decode cX5_readLineOf 85 = .ok (.aload_n 0, 1) := by decide +kernel
theorem dX5_readLineOf_86 : decode cX5_readLineOf 86 = .ok (.iconst 0, 1) := by decide +kernel
theorem dX5_readLineOf_87 : decode cX5_readLineOf 87 = .ok (.bipush 9, 2) := by decide +kernel
theorem dX5_readLineOf_89 : decode cX5_readLineOf 89 = .ok (.invokevirtual 115, 3) := by decide +kernel
theorem dX5_readLineOf_92 : decode cX5_readLineOf 92 = .ok (.iastore, 1) := by decide +kernel
theorem dX5_readLineOf_93 : decode cX5_readLineOf 93 = .ok (.aload_n 0, 1) := by decide +kernel
theorem dX5_readLineOf_94 : decode cX5_readLineOf 94 = .ok (.getfield 20, 3) := by decide +kernel
theorem dX5_readLineOf_97 : decode cX5_readLineOf 97 = .ok (.bipush 7, 2) := by decide +kernel
theorem dX5_readLineOf_99 : decode cX5_readLineOf 99 = .ok (.aload_n 0, 1) := by decide +kernel
theorem dX5_readLineOf_100 : decode cX5_readLineOf 100 = .ok (.getfield 20, 3) := by decide +kernel
theorem dX5_readLineOf_103 : decode cX5_readLineOf 103 = .ok (.bipush 28, 2) := by decide +kernel
theorem dX5_readLineOf_105 : decode cX5_readLineOf 105 = .ok (.iaload, 1) := by decide +kernel
theorem dX5_readLineOf_106 : decode cX5_readLineOf 106 = .ok (.imul, 1) := by decide +kernel
theorem dX5_readLineOf_107 : decode cX5_readLineOf 107 = .ok (.iconst 2, 1) := by decide +kernel
theorem dX5_readLineOf_108 : decode cX5_readLineOf 108 = .ok (.iadd, 1) := by decide +kernel
theorem dX5_readLineOf_109 : decode cX5_readLineOf 109 = .ok (.aload_n 0, 1) := by decide +kernel
theorem dX5_readLineOf_110 : decode cX5_readLineOf 110 = .ok (.iconst 1, 1) := by decide +kernel
theorem dX5_readLineOf_111 : decode cX5_readLineOf 111 = .ok (.bipush 9, 2) := by decide +kernel
theorem dX5_readLineOf_113 : decode cX5_readLineOf 113 = .ok (.invokevirtual 115, 3) := by decide +kernel
theorem dX5_readLineOf_116 : decode cX5_readLineOf 116 = .ok (.iastore, 1) := by decide +kernel
theorem dX5_readLineOf_117 : decode cX5_readLineOf 117 = .ok (.aload_n 0, 1) := by decide +kernel
theorem dX5_readLineOf_118 : decode cX5_readLineOf 118 = .ok (.getfield 20, 3) := by decide +kernel
theorem dX5_readLineOf_121 : decode cX5_readLineOf 121 = .ok (.bipush 28, 2) := by decide +kernel
theorem dX5_readLineOf_123 : decode cX5_readLineOf 123 = .ok (.dup2, 1) := by decide +kernel
theorem dX5_readLineOf_124 : decode cX5_readLineOf 124 = .ok (.iaload, 1) := by decide +kernel
theorem dX5_readLineOf_125 : decode cX5_readLineOf 125 = .ok (.iconst 1, 1) := by decide +kernel
theorem dX5_readLineOf_126 : decode cX5_readLineOf 126 = .ok (.iadd, 1) := by decide +kernel
theorem dX5_readLineOf_127 : decode cX5_readLineOf 127 = .ok (.iastore, 1) := by decide +kernel
theorem dX5_readLineOf_128 : decode cX5_readLineOf 128 = .ok (.return_, 1) := by decide +kernel
theorem dX5_readLine_0 : decode cX5_readLine 0 = .ok (.aload_n 0, 1) := by decide +kernel
theorem dX5_readLine_1 : decode cX5_readLine 1 = .ok (.getfield 94, 3) := by decide +kernel
theorem dX5_readLine_4 : decode cX5_readLine 4 = .ok (.iconst 1, 1) := by decide +kernel
theorem dX5_readLine_5 : decode cX5_readLine 5 = .ok (.if_icmp .ne 10, 3) := by decide +kernel
theorem dX5_readLine_8 : decode cX5_readLine 8 = .ok (.aload_n 0, 1) := by decide +kernel
theorem dX5_readLine_9 : decode cX5_readLine 9 = .ok (.invokevirtual 122, 3) := by decide +kernel
theorem dX5_readLine_12 : decode cX5_readLine 12 = .ok (.goto 5, 3) := by decide +kernel
theorem dX5_readLine_15 : decode cX5_readLine 15 = .ok (.bipush (-4), 2) := by decide +kernel
theorem dX5_readLine_17 : decode cX5_readLine 17 = .ok (.istore_n 1, 1) := by decide +kernel
theorem dX5_readLine_18 : decode cX5_readLine 18 = .ok (.aload_n 0, 1) := by decide +kernel
theorem dX5_readLine_19 : decode cX5_readLine 19 = .ok (.iload_n 1, 1) := by decide +kernel
theorem dX5_readLine_20 : decode cX5_readLine 20 = .ok (.bipush (-4), 2) := by decide +kernel
theorem dX5_readLine_22 : decode cX5_readLine 22 = .ok (.if_icmp .eq 7, 3) := by decide +kernel
theorem dX5_readLine_25 : decode cX5_readLine 25 = .ok (.iconst 1, 1) := by decide +kernel
theorem dX5_readLine_26 : decode cX5_readLine 26 = .ok (.goto 4, 3) := by decide +kernel
theorem dX5_readLine_29 : decode cX5_readLine 29 = .ok (.iconst 0, 1) := by decide +kernel
theorem dX5_readLine_30 : decode cX5_readLine 30 = .ok (.iconst 2, 1) := by decide +kernel
theorem dX5_readLine_31 : decode cX5_readLine 31 = .ok (.invokevirtual 108, 3) := by decide +kernel
theorem dX5_readLine_34 : decode cX5_readLine 34 = .ok (.aload_n 0, 1) := by decide +kernel
theorem dX5_readLine_35 : decode cX5_readLine 35 = .ok (.iload_n 1, 1) := by decide +kernel
theorem dX5_readLine_36 : decode cX5_readLine 36 = .ok (.iconst 4, 1) := by decide +kernel
theorem dX5_readLine_37 : decode cX5_readLine 37 = .ok (.if_icmp .ge 14, 3) := by decide +kernel
theorem dX5_readLine_40 : decode cX5_readLine 40 = .ok (.aload_n 0, 1) := by decide +kernel
theorem dX5_readLine_41 : decode cX5_readLine 41 = .ok (.getfield 20, 3) := by decide +kernel
theorem dX5_readLine_44 : decode cX5_readLine 44 = .ok (.bipush 28, 2) := by decide +kernel
theorem dX5_readLine_46 : decode cX5_readLine 46 = .ok (.iaload, 1) := by decide +kernel
theorem dX5_readLine_47 : decode cX5_readLine 47 = .ok (.iconst 4, 1) := by decide +kernel
theorem dX5_readLine_48 : decode cX5_readLine 48 = .ok (.if_icmp .ge 7, 3) := by decide +kernel
theorem dX5_readLine_51 : decode cX5_readLine 51 = .ok (.iconst 1, 1) := by decide +kernel
theorem dX5_readLine_52 : decode cX5_readLine 52 = .ok (.goto 4, 3) := by decide +kernel
theorem dX5_readLine_55 : decode cX5_readLine 55 = .ok (.iconst 0, 1) := by decide +kernel
theorem dX5_readLine_56 : decode cX5_readLine 56 = .ok (.iconst 5, 1) := by decide +kernel
theorem dX5_readLine_57 : decode cX5_readLine 57 = .ok (.invokevirtual 108, 3) := by decide +kernel
theorem dX5_readLine_60 : decode cX5_readLine 60 = .ok (.aload_n 0, 1) := by decide +kernel
theorem dX5_readLine_61 : decode cX5_readLine 61 = .ok (.iload_n 1, 1) := by decide +kernel
theorem dX5_readLine_62 : decode cX5_readLine 62 = .ok (.iconst 4, 1) := by decide +kernel
theorem dX5_readLine_63 : decode cX5_readLine 63 = .ok (.if_icmp .ne 15, 3) := by decide +kernel
theorem dX5_readLine_66 : decode cX5_readLine 66 = .ok (.aload_n 0, 1) := by decide +kernel
theorem dX5_readLine_67 : decode cX5_readLine 67 = .ok (.getfield 20, 3) := by decide +kernel
theorem dX5_readLine_70 : decode cX5_readLine 70 = .ok (.bipush 53, 2) := by decide +kernel
theorem dX5_readLine_72 : decode cX5_readLine 72 = .ok (.iaload, 1) := by decide +kernel
theorem dX5_readLine_73 : decode cX5_readLine 73 = .ok (.bipush 8, 2) := by decide +kernel
theorem dX5_readLine_75 : decode cX5_readLine 75 = .ok (.if_icmp .ge 7, 3) := by decide +kernel
theorem dX5_readLine_78 : decode cX5_readLine 78 = .ok (.iconst 1, 1) := by decide +kernel
theorem dX5_readLine_79 : decode cX5_readLine 79 = .ok (.goto 4, 3) := by decide +kernel
theorem dX5_readLine_82 : decode cX5_readLine 82 = .ok (.iconst 0, 1) := by decide +kernel
theorem dX5_readLine_83 : decode cX5_readLine 83 = .ok (.iconst 5, 1) := by decide +kernel
theorem dX5_readLine_84 : decode cX5_readLine 84 = .ok (.invokevirtual 108, 3) := by decide +kernel
theorem dX5_readLine_87 : decode cX5_readLine 87 = .ok (.aload_n 0, 1) := by decide +kernel
theorem dX5_readLine_88 : decode cX5_readLine 88 = .ok (.iload_n 1, 1) := by decide +kernel
theorem dX5_readLine_89 : decode cX5_readLine 89 = .ok (.iconst 5, 1) := by decide +kernel
theorem dX5_readLine_90 : decode cX5_readLine 90 = .ok (.if_icmp .ne 10, 3) := by decide +kernel
theorem dX5_readLine_93 : decode cX5_readLine 93 = .ok (.aload_n 0, 1) := by decide +kernel
theorem dX5_readLine_94 : decode cX5_readLine 94 = .ok (.getfield 53, 3) := by decide +kernel
theorem dX5_readLine_97 : decode cX5_readLine 97 = .ok (.ifCond .ne 7, 3) := by decide +kernel
theorem dX5_readLine_100 : decode cX5_readLine 100 = .ok (.iconst 1, 1) := by decide +kernel
theorem dX5_readLine_101 : decode cX5_readLine 101 = .ok (.goto 4, 3) := by decide +kernel
theorem dX5_readLine_104 : decode cX5_readLine 104 = .ok (.iconst 0, 1) := by decide +kernel
theorem dX5_readLine_105 : decode cX5_readLine 105 = .ok (.iconst 4, 1) := by decide +kernel
theorem dX5_readLine_106 : decode cX5_readLine 106 = .ok (.invokevirtual 108, 3) := by decide +kernel
theorem dX5_readLine_109 : decode cX5_readLine 109 = .ok (.aload_n 0, 1) := by decide +kernel
theorem dX5_readLine_110 : decode cX5_readLine 110 = .ok (.aload_n 0, 1) := by decide +kernel
theorem dX5_readLine_111 : decode cX5_readLine 111 = .ok (.getfield 53, 3) := by decide +kernel
theorem dX5_readLine_114 : decode cX5_readLine 114 = .ok (.ifCond .ne 8, 3) := by decide +kernel
theorem dX5_readLine_117 : decode cX5_readLine 117 = .ok (.iload_n 1, 1) := by decide +kernel
theorem dX5_readLine_118 : decode cX5_readLine 118 = .ok (.iconst 5, 1) := by decide +kernel
theorem dX5_readLine_119 : decode cX5_readLine 119 = .ok (.if_icmp .ne 7, 3) := by decide +kernel
theorem dX5_readLine_122 : decode cX5_readLine 122 = .ok (.iconst 1, 1) := by decide +kernel
theorem dX5_readLine_123 : decode cX5_readLine 123 = .ok (.goto 4, 3) := by decide +kernel
theorem dX5_readLine_126 : decode cX5_readLine 126 = .ok (.iconst 0, 1) := by decide +kernel
theorem dX5_readLine_127 : decode cX5_readLine 127 = .ok (.putfield 53, 3) := by decide +kernel
theorem dX5_readLine_130 : decode cX5_readLine 130 = .ok (.aload_n 0, 1) := by decide +kernel
theorem dX5_readLine_131 : decode cX5_readLine 131 = .ok (.invokevirtual 112, 3) := by decide +kernel
theorem dX5_readLine_134 : decode cX5_readLine 134 = .ok (.aload_n 0, 1) := by decide +kernel
theorem dX5_readLine_135 : decode cX5_readLine 135 = .ok (.getfield 70, 3) := by decide +kernel
theorem dX5_readLine_138 : decode cX5_readLine 138 = .ok (.ifCond .le 4, 3) := by decide +kernel
theorem dX5_readLine_141 : decode cX5_readLine 141 = .ok (.return_, 1) := by decide +kernel
theorem dX5_readLine_142 : decode cX5_readLine 142 = .ok (.aload_n 0, 1) := by decide +kernel
theorem dX5_readLine_143 : decode cX5_readLine 143 = .ok (.iload_n 1, 1) := by decide +kernel
theorem dX5_readLine_144 : decode cX5_readLine 144 = .ok (.invokevirtual 126, 3) := by decide +kernel
theorem dX5_readLine_147 : decode cX5_readLine 147 = .ok (.aload_n 0, 1) := by decide +kernel
theorem dX5_readLine_148 : decode cX5_readLine 148 = .ok (.getfield 70, 3) := by decide +kernel
theorem dX5_readLine_151 : decode cX5_readLine 151 = .ok (.ifCond .ne 21, 3) := by decide +kernel
theorem dX5_readLine_154 : decode cX5_readLine 154 = .ok (.aload_n 0, 1) := by decide +kernel
theorem dX5_readLine_155 : decode cX5_readLine 155 = .ok (.aload_n 0, 1) := by decide +kernel
theorem dX5_readLine_156 : decode cX5_readLine 156 = .ok (.getfield 94, 3) := by decide +kernel
theorem dX5_readLine_159 : decode cX5_readLine 159 = .ok (.iconst 3, 1) := by decide +kernel
theorem dX5_readLine_160 : decode cX5_readLine 160 = .ok (.if_icmp .ne 7, 3) := by decide +kernel
theorem dX5_readLine_163 : decode cX5_readLine 163 = .ok (.iconst 1, 1) := by decide +kernel
theorem dX5_readLine_164 : decode cX5_readLine 164 = .ok (.goto 4, 3) := by decide +kernel
theorem dX5_readLine_167 : decode cX5_readLine 167 = .ok (.iconst 0, 1) := by decide +kernel
theorem dX5_readLine_168 : decode cX5_readLine 168 = .ok (.iconst 2, 1) := by decide +kernel
theorem dX5_readLine_169 : decode cX5_readLine 169 = .ok (.invokevirtual 108, 3) := by decide +kernel
theorem dX5_readLine_172 : decode cX5_readLine 172 = .ok (.aload_n 0, 1) := by decide +kernel
theorem dX5_readLine_173 : decode cX5_readLine 173 = .ok (.invokevirtual 112, 3) := by decide +kernel
theorem dX5_readLine_176 : decode cX5_readLine 176 = .ok (.return_, 1) := by decide +kernel
theorem dX5_text_0 : decode cX5_text 0 = .ok (.iconst 0, 1) := by decide +kernel
theorem dX5_text_1 : decode cX5_text 1 = .ok (.istore_n 1, 1) := by decide +kernel
theorem dX5_text_2 : decode cX5_text 2 = .ok (.aload_n 0, 1) := by decide +kernel
theorem dX5_text_3 : decode cX5_text 3 = .ok (.iconst 0, 1) := by decide +kernel
theorem dX5_text_4 : decode cX5_text 4 = .ok (.putfield 70, 3) := by decide +kernel
theorem dX5_text_7 : decode cX5_text 7 = .ok (.aload_n 0, 1) := by decide +kernel
theorem dX5_text_8 : decode cX5_text 8 = .ok (.iconst 0, 1) := by decide +kernel
theorem dX5_text_9 : decode cX5_text 9 = .ok (.putfield 79, 3) := by decide +kernel
theorem dX5_text_12 : decode cX5_text 12 = .ok (.aload_n 0, 1) := by decide +kernel
theorem dX5_text_13 : decode cX5_text 13 = .ok (.invokevirtual 47, 3) := by decide +kernel
theorem dX5_text_16 : decode cX5_text 16 = .ok (.aload_n 0, 1) := by decide +kernel
theorem dX5_text_17 : decode cX5_text 17 = .ok (.invokevirtual 112, 3) := by decide +kernel
theorem dX5_text_20 : decode cX5_text 20 = .ok (.aload_n 0, 1) := by decide +kernel
theorem dX5_text_21 : decode cX5_text 21 = .ok (.getfield 70, 3) := by decide +kernel
theorem dX5_text_24 : decode cX5_text 24 = .ok (.ifCond .ne 20, 3) := by decide +kernel
theorem dX5_text_27 : decode cX5_text 27 = .ok (.aload_n 0, 1) := by decide +kernel
theorem dX5_text_28 : decode cX5_text 28 = .ok (.getfield 94, 3) := by decide +kernel
theorem dX5_text_31 : decode cX5_text 31 = .ok (.ifCond .eq 13, 3) := by decide +kernel
theorem dX5_text_34 : decode cX5_text 34 = .ok (.aload_n 0, 1) := by decide +kernel
theorem dX5_text_35 : decode cX5_text 35 = .ok (.invokevirtual 130, 3) := by decide +kernel
theorem dX5_text_38 : decode cX5_text 38 = .ok (.iinc 1 1, 3) := by decide +kernel
theorem dX5_text_41 : decode cX5_text 41 = .ok (.goto (-21), 3) := by decide +kernel
theorem dX5_text_44 : decode cX5_text 44 = .ok (.aload_n 0, 1) := by decide +kernel
theorem dX5_text_45 : decode cX5_text 45 = .ok (.aload_n 0, 1) := by decide +kernel
theorem dX5_text_46 : decode cX5_text 46 = .ok (.getfield 57, 3) := by decide +kernel
theorem dX5_text_49 : decode cX5_text 49 = .ok (.aload_n 0, 1) := by decide +kernel
theorem dX5_text_50 : decode cX5_text 50 = .ok (.getfield 20, 3) := by decide +kernel
theorem dX5_text_53 : decode cX5_text 53 = .ok (.bipush 28, 2) := by decide +kernel
theorem dX5_text_55 : decode cX5_text 55 = .ok (.iaload, 1) := by decide +kernel
theorem dX5_text_56 : decode cX5_text 56 = .ok (.if_icmp .ge 7, 3) := by decide +kernel
theorem dX5_text_59 : decode cX5_text 59 = .ok (.iconst 1, 1) := by decide +kernel
theorem dX5_text_60 : decode cX5_text 60 = .ok (.goto 4, 3) := by decide +kernel
theorem dX5_text_63 : decode cX5_text 63 = .ok (.iconst 0, 1) := by decide +kernel
theorem dX5_text_64 : decode cX5_text 64 = .ok (.bipush 6, 2) := by decide +kernel
theorem dX5_text_66 : decode cX5_text 66 = .ok (.invokevirtual 108, 3) := by decide +kernel
theorem dX5_text_69 : decode cX5_text 69 = .ok (.aload_n 0, 1) := by decide +kernel
theorem dX5_text_70 : decode cX5_text 70 = .ok (.iconst 0, 1) := by decide +kernel
theorem dX5_text_71 : decode cX5_text 71 = .ok (.putfield 67, 3) := by decide +kernel
theorem dX5_text_74 : decode cX5_text 74 = .ok (.aload_n 0, 1) := by decide +kernel
theorem dX5_text_75 : decode cX5_text 75 = .ok (.getfield 70, 3) := by decide +kernel
theorem dX5_text_78 : decode cX5_text 78 = .ok (.ifCond .le 11, 3) := by decide +kernel
theorem dX5_text_81 : decode cX5_text 81 = .ok (.bipush (-10), 2) := by decide +kernel
theorem dX5_text_83 : decode cX5_text 83 = .ok (.aload_n 0, 1) := by decide +kernel
theorem dX5_text_84 : decode cX5_text 84 = .ok (.getfield 76, 3) := by decide +kernel
theorem dX5_text_87 : decode cX5_text 87 = .ok (.isub, 1) := by decide +kernel
theorem dX5_text_88 : decode cX5_text 88 = .ok (.ireturn, 1) := by decide +kernel
theorem dX5_text_89 : decode cX5_text 89 = .ok (.aload_n 0, 1) := by decide +kernel
theorem dX5_text_90 : decode cX5_text 90 = .ok (.invokevirtual 50, 3) := by decide +kernel
theorem dX5_text_93 : decode cX5_text 93 = .ok (.iload_n 1, 1) := by decide +kernel
theorem dX5_text_94 : decode cX5_text 94 = .ok (.ireturn, 1) := by decide +kernel
theorem dX5_fault_0 : decode cX5_fault 0 = .ok (.aload_n 0, 1) := by decide +kernel
theorem dX5_fault_1 : decode cX5_fault 1 = .ok (.getfield 70, 3) := by decide +kernel
theorem dX5_fault_4 : decode cX5_fault 4 = .ok (.ireturn, 1) := by decide +kernel
theorem dX5_isKey_0 : decode cX5_isKey 0 = .ok (.iload_n 1, 1) := by decide +kernel
theorem dX5_isKey_1 : decode cX5_isKey 1 = .ok (.i2l, 1) := by decide +kernel
theorem dX5_isKey_2 : decode cX5_isKey 2 = .ok (.lconst 0, 1) := by decide +kernel
theorem dX5_isKey_3 : decode cX5_isKey 3 = .ok (.aload_n 0, 1) := by decide +kernel
theorem dX5_isKey_4 : decode cX5_isKey 4 = .ok (.getfield 7, 3) := by decide +kernel
theorem dX5_isKey_7 : decode cX5_isKey 7 = .ok (.bipush 28, 2) := by decide +kernel
theorem dX5_isKey_9 : decode cX5_isKey 9 = .ok (.iaload, 1) := by decide +kernel
theorem dX5_isKey_10 : decode cX5_isKey 10 = .ok (.iconst 1, 1) := by decide +kernel
theorem dX5_isKey_11 : decode cX5_isKey 11 = .ok (.isub, 1) := by decide +kernel
theorem dX5_isKey_12 : decode cX5_isKey 12 = .ok (.i2l, 1) := by decide +kernel
theorem dX5_isKey_13 : decode cX5_isKey 13 = .ok (.invokestatic 63, 3) := by decide +kernel
theorem dX5_isKey_16 : decode cX5_isKey 16 = .ok (.ireturn, 1) := by decide +kernel
theorem dX5_isPart_0 : decode cX5_isPart 0 = .ok (.iload_n 0, 1) := by decide +kernel
theorem dX5_isPart_1 : decode cX5_isPart 1 = .ok (.i2l, 1) := by decide +kernel
theorem dX5_isPart_2 : decode cX5_isPart 2 = .ok (.lconst 0, 1) := by decide +kernel
theorem dX5_isPart_3 : decode cX5_isPart 3 = .ok (.lconst 1, 1) := by decide +kernel
theorem dX5_isPart_4 : decode cX5_isPart 4 = .ok (.invokestatic 63, 3) := by decide +kernel
theorem dX5_isPart_7 : decode cX5_isPart 7 = .ok (.ireturn, 1) := by decide +kernel
theorem dX5_starts_0 : decode cX5_starts 0 = .ok (.iconst 0, 1) := by decide +kernel
theorem dX5_starts_1 : decode cX5_starts 1 = .ok (.istore_n 1, 1) := by decide +kernel
theorem dX5_starts_2 : decode cX5_starts 2 = .ok (.iload_n 1, 1) := by decide +kernel
theorem dX5_starts_3 : decode cX5_starts 3 = .ok (.bipush 75, 2) := by decide +kernel
theorem dX5_starts_5 : decode cX5_starts 5 = .ok (.if_icmp .ge 21, 3) := by decide +kernel
theorem dX5_starts_8 : decode cX5_starts 8 = .ok (.aload_n 0, 1) := by decide +kernel
theorem dX5_starts_9 : decode cX5_starts 9 = .ok (.getfield 13, 3) := by decide +kernel
theorem dX5_starts_12 : decode cX5_starts 12 = .ok (.iload_n 1, 1) := by decide +kernel
theorem dX5_starts_13 : decode cX5_starts 13 = .ok (.aload_n 0, 1) := by decide +kernel
theorem dX5_starts_14 : decode cX5_starts 14 = .ok (.getfield 7, 3) := by decide +kernel
theorem dX5_starts_17 : decode cX5_starts 17 = .ok (.iload_n 1, 1) := by decide +kernel
theorem dX5_starts_18 : decode cX5_starts 18 = .ok (.iaload, 1) := by decide +kernel
theorem dX5_starts_19 : decode cX5_starts 19 = .ok (.iastore, 1) := by decide +kernel
theorem dX5_starts_20 : decode cX5_starts 20 = .ok (.iinc 1 1, 3) := by decide +kernel
theorem dX5_starts_23 : decode cX5_starts 23 = .ok (.goto (-21), 3) := by decide +kernel
theorem dX5_starts_26 : decode cX5_starts 26 = .ok (.iconst 0, 1) := by decide +kernel
theorem dX5_starts_27 : decode cX5_starts 27 = .ok (.istore_n 1, 1) := by decide +kernel
theorem dX5_starts_28 : decode cX5_starts 28 = .ok (.iload_n 1, 1) := by decide +kernel
theorem dX5_starts_29 : decode cX5_starts 29 = .ok (.iconst 4, 1) := by decide +kernel
theorem dX5_starts_30 : decode cX5_starts 30 = .ok (.if_icmp .ge 16, 3) := by decide +kernel
theorem dX5_starts_33 : decode cX5_starts 33 = .ok (.aload_n 0, 1) := by decide +kernel
theorem dX5_starts_34 : decode cX5_starts 34 = .ok (.getfield 26, 3) := by decide +kernel
theorem dX5_starts_37 : decode cX5_starts 37 = .ok (.iload_n 1, 1) := by decide +kernel
theorem dX5_starts_38 : decode cX5_starts 38 = .ok (.iconst 0, 1) := by decide +kernel
theorem dX5_starts_39 : decode cX5_starts 39 = .ok (.iastore, 1) := by decide +kernel
theorem dX5_starts_40 : decode cX5_starts 40 = .ok (.iinc 1 1, 3) := by decide +kernel
theorem dX5_starts_43 : decode cX5_starts 43 = .ok (.goto (-15), 3) := by decide +kernel
theorem dX5_starts_46 : decode cX5_starts 46 = .ok (.aload_n 0, 1) := by decide +kernel
theorem dX5_starts_47 : decode cX5_starts 47 = .ok (.iconst 0, 1) := by decide +kernel
theorem dX5_starts_48 : decode cX5_starts 48 = .ok (.putfield 133, 3) := by decide +kernel
theorem dX5_starts_51 : decode cX5_starts 51 = .ok (.aload_n 0, 1) := by decide +kernel
theorem dX5_starts_52 : decode cX5_starts 52 = .ok (.bipush (-4), 2) := by decide +kernel
theorem dX5_starts_54 : decode cX5_starts 54 = .ok (.putfield 136, 3) := by decide +kernel
theorem dX5_starts_57 : decode cX5_starts 57 = .ok (.return_, 1) := by decide +kernel
theorem dX5_settles_0 : decode cX5_settles 0 = .ok (.iconst 0, 1) := by decide +kernel
theorem dX5_settles_1 : decode cX5_settles 1 = .ok (.istore_n 1, 1) := by decide +kernel
theorem dX5_settles_2 : decode cX5_settles 2 = .ok (.iload_n 1, 1) := by decide +kernel
theorem dX5_settles_3 : decode cX5_settles 3 = .ok (.bipush 75, 2) := by decide +kernel
theorem dX5_settles_5 : decode cX5_settles 5 = .ok (.if_icmp .ge 21, 3) := by decide +kernel
theorem dX5_settles_8 : decode cX5_settles 8 = .ok (.aload_n 0, 1) := by decide +kernel
theorem dX5_settles_9 : decode cX5_settles 9 = .ok (.getfield 7, 3) := by decide +kernel
theorem dX5_settles_12 : decode cX5_settles 12 = .ok (.iload_n 1, 1) := by decide +kernel
theorem dX5_settles_13 : decode cX5_settles 13 = .ok (.aload_n 0, 1) := by decide +kernel
theorem dX5_settles_14 : decode cX5_settles 14 = .ok (.getfield 13, 3) := by decide +kernel
theorem dX5_settles_17 : decode cX5_settles 17 = .ok (.iload_n 1, 1) := by decide +kernel
theorem dX5_settles_18 : decode cX5_settles 18 = .ok (.iaload, 1) := by decide +kernel
theorem dX5_settles_19 : decode cX5_settles 19 = .ok (.iastore, 1) := by decide +kernel
theorem dX5_settles_20 : decode cX5_settles 20 = .ok (.iinc 1 1, 3) := by decide +kernel
theorem dX5_settles_23 : decode cX5_settles 23 = .ok (.goto (-21), 3) := by decide +kernel
theorem dX5_settles_26 : decode cX5_settles 26 = .ok (.return_, 1) := by decide +kernel
theorem dX5_of_0 : decode cX5_of 0 = .ok (.aload_n 0, 1) := by decide +kernel
theorem dX5_of_1 : decode cX5_of 1 = .ok (.getfield 13, 3) := by decide +kernel
theorem dX5_of_4 : decode cX5_of 4 = .ok (.bipush 7, 2) := by decide +kernel
theorem dX5_of_6 : decode cX5_of 6 = .ok (.iload_n 1, 1) := by decide +kernel
theorem dX5_of_7 : decode cX5_of 7 = .ok (.imul, 1) := by decide +kernel
theorem dX5_of_8 : decode cX5_of 8 = .ok (.iload_n 2, 1) := by decide +kernel
theorem dX5_of_9 : decode cX5_of 9 = .ok (.iadd, 1) := by decide +kernel
theorem dX5_of_10 : decode cX5_of 10 = .ok (.iaload, 1) := by decide +kernel
theorem dX5_of_11 : decode cX5_of 11 = .ok (.ireturn, 1) := by decide +kernel
theorem dX5_becomesOf_0 : decode cX5_becomesOf 0 = .ok (.aload_n 0, 1) := by decide +kernel
theorem dX5_becomesOf_1 : decode cX5_becomesOf 1 = .ok (.getfield 13, 3) := by decide +kernel
theorem dX5_becomesOf_4 : decode cX5_becomesOf 4 = .ok (.bipush 7, 2) := by decide +kernel
theorem dX5_becomesOf_6 : decode cX5_becomesOf 6 = .ok (.iload_n 1, 1) := by decide +kernel
theorem dX5_becomesOf_7 : decode cX5_becomesOf 7 = .ok (.imul, 1) := by decide +kernel
theorem dX5_becomesOf_8 : decode cX5_becomesOf 8 = .ok (.iload_n 2, 1) := by decide +kernel
theorem dX5_becomesOf_9 : decode cX5_becomesOf 9 = .ok (.iadd, 1) := by decide +kernel
theorem dX5_becomesOf_10 : decode cX5_becomesOf 10 = .ok (.iload_n 3, 1) := by decide +kernel
theorem dX5_becomesOf_11 : decode cX5_becomesOf 11 = .ok (.iastore, 1) := by decide +kernel
theorem dX5_becomesOf_12 : decode cX5_becomesOf 12 = .ok (.return_, 1) := by decide +kernel
theorem dX5_ofPress_0 : decode cX5_ofPress 0 = .ok (.aload_n 0, 1) := by decide +kernel
theorem dX5_ofPress_1 : decode cX5_ofPress 1 = .ok (.getfield 13, 3) := by decide +kernel
theorem dX5_ofPress_4 : decode cX5_ofPress 4 = .ok (.bipush 29, 2) := by decide +kernel
theorem dX5_ofPress_6 : decode cX5_ofPress 6 = .ok (.iconst 3, 1) := by decide +kernel
theorem dX5_ofPress_7 : decode cX5_ofPress 7 = .ok (.iload_n 1, 1) := by decide +kernel
theorem dX5_ofPress_8 : decode cX5_ofPress 8 = .ok (.imul, 1) := by decide +kernel
theorem dX5_ofPress_9 : decode cX5_ofPress 9 = .ok (.iadd, 1) := by decide +kernel
theorem dX5_ofPress_10 : decode cX5_ofPress 10 = .ok (.iload_n 2, 1) := by decide +kernel
theorem dX5_ofPress_11 : decode cX5_ofPress 11 = .ok (.iadd, 1) := by decide +kernel
theorem dX5_ofPress_12 : decode cX5_ofPress 12 = .ok (.iaload, 1) := by decide +kernel
theorem dX5_ofPress_13 : decode cX5_ofPress 13 = .ok (.ireturn, 1) := by decide +kernel
theorem dX5_latestPress_0 : decode cX5_latestPress 0 = .ok (.bipush (-4), 2) := by decide +kernel
theorem dX5_latestPress_2 : decode cX5_latestPress 2 = .ok (.istore_n 3, 1) := by decide +kernel
theorem dX5_latestPress_3 : decode cX5_latestPress 3 = .ok (.iconst 0, 1) := by decide +kernel
theorem dX5_latestPress_4 : decode cX5_latestPress 4 = .ok (.istore 4, 2) := by decide +kernel
theorem dX5_latestPress_6 : decode cX5_latestPress 6 = .ok (.iload 4, 2) := by decide +kernel
theorem dX5_latestPress_8 : decode cX5_latestPress 8 = .ok (.aload_n 0, 1) := by decide +kernel
theorem dX5_latestPress_9 : decode cX5_latestPress 9 = .ok (.getfield 13, 3) := by decide +kernel
theorem dX5_latestPress_12 : decode cX5_latestPress 12 = .ok (.bipush 53, 2) := by decide +kernel
theorem dX5_latestPress_14 : decode cX5_latestPress 14 = .ok (.iaload, 1) := by decide +kernel
theorem dX5_latestPress_15 : decode cX5_latestPress 15 = .ok (.if_icmp .ge 81, 3) := by decide +kernel
theorem dX5_latestPress_18 : decode cX5_latestPress 18 = .ok (.iload 4, 2) := by decide +kernel
theorem dX5_latestPress_20 : decode cX5_latestPress 20 = .ok (.aload_n 0, 1) := by decide +kernel
theorem dX5_latestPress_21 : decode cX5_latestPress 21 = .ok (.getfield 136, 3) := by decide +kernel
theorem dX5_latestPress_24 : decode cX5_latestPress 24 = .ok (.if_icmp .eq 29, 3) := by decide +kernel
theorem dX5_latestPress_27 : decode cX5_latestPress 27 = .ok (.aload_n 0, 1) := by decide +kernel
theorem dX5_latestPress_28 : decode cX5_latestPress 28 = .ok (.iload 4, 2) := by decide +kernel
theorem dX5_latestPress_30 : decode cX5_latestPress 30 = .ok (.iconst 1, 1) := by decide +kernel
theorem dX5_latestPress_31 : decode cX5_latestPress 31 = .ok (.invokevirtual 139, 3) := by decide +kernel
theorem dX5_latestPress_34 : decode cX5_latestPress 34 = .ok (.iload_n 1, 1) := by decide +kernel
theorem dX5_latestPress_35 : decode cX5_latestPress 35 = .ok (.if_icmp .ne 18, 3) := by decide +kernel
theorem dX5_latestPress_38 : decode cX5_latestPress 38 = .ok (.aload_n 0, 1) := by decide +kernel
theorem dX5_latestPress_39 : decode cX5_latestPress 39 = .ok (.iload 4, 2) := by decide +kernel
theorem dX5_latestPress_41 : decode cX5_latestPress 41 = .ok (.iconst 0, 1) := by decide +kernel
theorem dX5_latestPress_42 : decode cX5_latestPress 42 = .ok (.invokevirtual 139, 3) := by decide +kernel
theorem dX5_latestPress_45 : decode cX5_latestPress 45 = .ok (.iload_n 2, 1) := by decide +kernel
theorem dX5_latestPress_46 : decode cX5_latestPress 46 = .ok (.if_icmp .gt 7, 3) := by decide +kernel
theorem dX5_latestPress_49 : decode cX5_latestPress 49 = .ok (.iconst 1, 1) := by decide +kernel
theorem dX5_latestPress_50 : decode cX5_latestPress 50 = .ok (.goto 4, 3) := by decide +kernel
theorem dX5_latestPress_53 : decode cX5_latestPress 53 = .ok (.iconst 0, 1) := by decide +kernel
theorem dX5_latestPress_54 : decode cX5_latestPress 54 = .ok (.istore 5, 2) := by decide +kernel
theorem dX5_latestPress_56 : decode cX5_latestPress 56 = .ok (.iload 5, 2) := by decide +kernel
theorem dX5_latestPress_58 : decode cX5_latestPress 58 = .ok (.ifCond .eq 30, 3) := by decide +kernel
theorem dX5_latestPress_61 : decode cX5_latestPress 61 = .ok (.iload_n 3, 1) := by decide +kernel
theorem dX5_latestPress_62 : decode cX5_latestPress 62 = .ok (.bipush (-4), 2) := by decide +kernel
theorem dX5_latestPress_64 : decode cX5_latestPress 64 = .ok (.if_icmp .eq 19, 3) := by decide +kernel
theorem dX5_latestPress_67 : decode cX5_latestPress 67 = .ok (.aload_n 0, 1) := by decide +kernel
theorem dX5_latestPress_68 : decode cX5_latestPress 68 = .ok (.iload 4, 2) := by decide +kernel
theorem dX5_latestPress_70 : decode cX5_latestPress 70 = .ok (.iconst 0, 1) := by decide +kernel
theorem dX5_latestPress_71 : decode cX5_latestPress 71 = .ok (.invokevirtual 139, 3) := by decide +kernel
theorem dX5_latestPress_74 : decode cX5_latestPress 74 = .ok (.aload_n 0, 1) := by decide +kernel
theorem dX5_latestPress_75 : decode cX5_latestPress 75 = .ok (.iload_n 3, 1) := by decide +kernel
theorem dX5_latestPress_76 : decode cX5_latestPress 76 = .ok (.iconst 0, 1) := by decide +kernel
theorem dX5_latestPress_77 : decode cX5_latestPress 77 = .ok (.invokevirtual 139, 3) := by decide +kernel
theorem dX5_latestPress_80 : decode cX5_latestPress 80 = .ok (.if_icmp .lt 8, 3) := by decide +kernel
theorem dX5_latestPress_83 : decode cX5_latestPress 83 = .ok (.iload 4, 2) := by decide +kernel
theorem dX5_latestPress_85 : decode cX5_latestPress 85 = .ok (.goto 4, 3) := by decide +kernel
theorem dX5_latestPress_88 : decode cX5_latestPress 88 = .ok (.iload_n 3, 1) := by decide +kernel
theorem dX5_latestPress_89 : decode cX5_latestPress 89 = .ok (.istore_n 3, 1) := by decide +kernel
theorem dX5_latestPress_90 : decode cX5_latestPress 90 = .ok (.iinc 4 1, 3) := by decide +kernel
theorem dX5_latestPress_93 : decode cX5_latestPress 93 = .ok (.goto (-87), 3) := by decide +kernel
theorem dX5_latestPress_96 : decode cX5_latestPress 96 = .ok (.iload_n 3, 1) := by decide +kernel
theorem dX5_latestPress_97 : decode cX5_latestPress 97 = .ok (.ireturn, 1) := by decide +kernel
theorem dX5_contactOf_0 : decode cX5_contactOf 0 = .ok (.aload_n 0, 1) := by decide +kernel
theorem dX5_contactOf_1 : decode cX5_contactOf 1 = .ok (.iload_n 1, 1) := by decide +kernel
theorem dX5_contactOf_2 : decode cX5_contactOf 2 = .ok (.iload_n 2, 1) := by decide +kernel
theorem dX5_contactOf_3 : decode cX5_contactOf 3 = .ok (.invokevirtual 142, 3) := by decide +kernel
theorem dX5_contactOf_6 : decode cX5_contactOf 6 = .ok (.istore_n 3, 1) := by decide +kernel
theorem dX5_contactOf_7 : decode cX5_contactOf 7 = .ok (.iload_n 3, 1) := by decide +kernel
theorem dX5_contactOf_8 : decode cX5_contactOf 8 = .ok (.bipush (-4), 2) := by decide +kernel
theorem dX5_contactOf_10 : decode cX5_contactOf 10 = .ok (.if_icmp .ne 5, 3) := by decide +kernel
theorem dX5_contactOf_13 : decode cX5_contactOf 13 = .ok (.iconst 0, 1) := by decide +kernel
theorem dX5_contactOf_14 : decode cX5_contactOf 14 = .ok (.ireturn, 1) := by decide +kernel
theorem dX5_contactOf_15 : decode cX5_contactOf 15 = .ok (.iload_n 2, 1) := by decide +kernel
theorem dX5_contactOf_16 : decode cX5_contactOf 16 = .ok (.aload_n 0, 1) := by decide +kernel
theorem dX5_contactOf_17 : decode cX5_contactOf 17 = .ok (.iload_n 3, 1) := by decide +kernel
theorem dX5_contactOf_18 : decode cX5_contactOf 18 = .ok (.iconst 0, 1) := by decide +kernel
theorem dX5_contactOf_19 : decode cX5_contactOf 19 = .ok (.invokevirtual 139, 3) := by decide +kernel
theorem dX5_contactOf_22 : decode cX5_contactOf 22 = .ok (.isub, 1) := by decide +kernel
theorem dX5_contactOf_23 : decode cX5_contactOf 23 = .ok (.istore 4, 2) := by decide +kernel
theorem dX5_contactOf_25 : decode cX5_contactOf 25 = .ok (.iload 4, 2) := by decide +kernel
theorem dX5_contactOf_27 : decode cX5_contactOf 27 = .ok (.aload_n 0, 1) := by decide +kernel
theorem dX5_contactOf_28 : decode cX5_contactOf 28 = .ok (.iload_n 1, 1) := by decide +kernel
theorem dX5_contactOf_29 : decode cX5_contactOf 29 = .ok (.iconst 0, 1) := by decide +kernel
theorem dX5_contactOf_30 : decode cX5_contactOf 30 = .ok (.invokevirtual 145, 3) := by decide +kernel
theorem dX5_contactOf_33 : decode cX5_contactOf 33 = .ok (.if_icmp .ge 22, 3) := by decide +kernel
theorem dX5_contactOf_36 : decode cX5_contactOf 36 = .ok (.iload 4, 2) := by decide +kernel
theorem dX5_contactOf_38 : decode cX5_contactOf 38 = .ok (.iconst 2, 1) := by decide +kernel
theorem dX5_contactOf_39 : decode cX5_contactOf 39 = .ok (.irem, 1) := by decide +kernel
theorem dX5_contactOf_40 : decode cX5_contactOf 40 = .ok (.iconst 1, 1) := by decide +kernel
theorem dX5_contactOf_41 : decode cX5_contactOf 41 = .ok (.if_icmp .ne 14, 3) := by decide +kernel
theorem dX5_contactOf_44 : decode cX5_contactOf 44 = .ok (.iconst 1, 1) := by decide +kernel
theorem dX5_contactOf_45 : decode cX5_contactOf 45 = .ok (.aload_n 0, 1) := by decide +kernel
theorem dX5_contactOf_46 : decode cX5_contactOf 46 = .ok (.iload_n 3, 1) := by decide +kernel
theorem dX5_contactOf_47 : decode cX5_contactOf 47 = .ok (.iconst 2, 1) := by decide +kernel
theorem dX5_contactOf_48 : decode cX5_contactOf 48 = .ok (.invokevirtual 139, 3) := by decide +kernel
theorem dX5_contactOf_51 : decode cX5_contactOf 51 = .ok (.isub, 1) := by decide +kernel
theorem dX5_contactOf_52 : decode cX5_contactOf 52 = .ok (.goto 9, 3) := by decide +kernel
theorem dX5_contactOf_55 : decode cX5_contactOf 55 = .ok (.aload_n 0, 1) := by decide +kernel
theorem dX5_contactOf_56 : decode cX5_contactOf 56 = .ok (.iload_n 3, 1) := by decide +kernel
theorem dX5_contactOf_57 : decode cX5_contactOf 57 = .ok (.iconst 2, 1) := by decide +kernel
theorem dX5_contactOf_58 : decode cX5_contactOf 58 = .ok (.invokevirtual 139, 3) := by decide +kernel
theorem dX5_contactOf_61 : decode cX5_contactOf 61 = .ok (.ireturn, 1) := by decide +kernel
theorem dX5_wants_0 : decode cX5_wants 0 = .ok (.aload_n 0, 1) := by decide +kernel
theorem dX5_wants_1 : decode cX5_wants 1 = .ok (.iload_n 1, 1) := by decide +kernel
theorem dX5_wants_2 : decode cX5_wants 2 = .ok (.iconst 1, 1) := by decide +kernel
theorem dX5_wants_3 : decode cX5_wants 3 = .ok (.invokevirtual 145, 3) := by decide +kernel
theorem dX5_wants_6 : decode cX5_wants 6 = .ok (.iconst 2, 1) := by decide +kernel
theorem dX5_wants_7 : decode cX5_wants 7 = .ok (.if_icmp .ne 7, 3) := by decide +kernel
theorem dX5_wants_10 : decode cX5_wants 10 = .ok (.iconst 1, 1) := by decide +kernel
theorem dX5_wants_11 : decode cX5_wants 11 = .ok (.goto 9, 3) := by decide +kernel
theorem dX5_wants_14 : decode cX5_wants 14 = .ok (.aload_n 0, 1) := by decide +kernel
theorem dX5_wants_15 : decode cX5_wants 15 = .ok (.iload_n 1, 1) := by decide +kernel
theorem dX5_wants_16 : decode cX5_wants 16 = .ok (.iconst 2, 1) := by decide +kernel
theorem dX5_wants_17 : decode cX5_wants 17 = .ok (.invokevirtual 145, 3) := by decide +kernel
theorem dX5_wants_20 : decode cX5_wants 20 = .ok (.ireturn, 1) := by decide +kernel
theorem dX5_shuts_0 : decode cX5_shuts 0 = .ok (.aload_n 0, 1) := by decide +kernel
theorem dX5_shuts_1 : decode cX5_shuts 1 = .ok (.iload_n 1, 1) := by decide +kernel
theorem dX5_shuts_2 : decode cX5_shuts 2 = .ok (.iconst 1, 1) := by decide +kernel
theorem dX5_shuts_3 : decode cX5_shuts 3 = .ok (.invokevirtual 145, 3) := by decide +kernel
theorem dX5_shuts_6 : decode cX5_shuts 6 = .ok (.iconst 2, 1) := by decide +kernel
theorem dX5_shuts_7 : decode cX5_shuts 7 = .ok (.if_icmp .eq 13, 3) := by decide +kernel
theorem dX5_shuts_10 : decode cX5_shuts 10 = .ok (.aload_n 0, 1) := by decide +kernel
theorem dX5_shuts_11 : decode cX5_shuts 11 = .ok (.iload_n 1, 1) := by decide +kernel
theorem dX5_shuts_12 : decode cX5_shuts 12 = .ok (.iconst 1, 1) := by decide +kernel
theorem dX5_shuts_13 : decode cX5_shuts 13 = .ok (.invokevirtual 145, 3) := by decide +kernel
theorem dX5_shuts_16 : decode cX5_shuts 16 = .ok (.iconst 3, 1) := by decide +kernel
theorem dX5_shuts_17 : decode cX5_shuts 17 = .ok (.if_icmp .ne 12, 3) := by decide +kernel
theorem dX5_shuts_20 : decode cX5_shuts 20 = .ok (.aload_n 0, 1) := by decide +kernel
theorem dX5_shuts_21 : decode cX5_shuts 21 = .ok (.iload_n 1, 1) := by decide +kernel
theorem dX5_shuts_22 : decode cX5_shuts 22 = .ok (.iconst 2, 1) := by decide +kernel
theorem dX5_shuts_23 : decode cX5_shuts 23 = .ok (.invokevirtual 145, 3) := by decide +kernel
theorem dX5_shuts_26 : decode cX5_shuts 26 = .ok (.goto 4, 3) := by decide +kernel
theorem dX5_shuts_29 : decode cX5_shuts 29 = .ok (.iconst 0, 1) := by decide +kernel
theorem dX5_shuts_30 : decode cX5_shuts 30 = .ok (.ireturn, 1) := by decide +kernel
theorem dX5_comesToSay_0 : decode cX5_comesToSay 0 = .ok (.aload_n 0, 1) := by decide +kernel
theorem dX5_comesToSay_1 : decode cX5_comesToSay 1 = .ok (.iload_n 1, 1) := by decide +kernel
theorem dX5_comesToSay_2 : decode cX5_comesToSay 2 = .ok (.iconst 3, 1) := by decide +kernel
theorem dX5_comesToSay_3 : decode cX5_comesToSay 3 = .ok (.invokevirtual 145, 3) := by decide +kernel
theorem dX5_comesToSay_6 : decode cX5_comesToSay 6 = .ok (.iload_n 2, 1) := by decide +kernel
theorem dX5_comesToSay_7 : decode cX5_comesToSay 7 = .ok (.if_icmp .ne 4, 3) := by decide +kernel
theorem dX5_comesToSay_10 : decode cX5_comesToSay 10 = .ok (.return_, 1) := by decide +kernel
theorem dX5_comesToSay_11 : decode cX5_comesToSay 11 = .ok (.aload_n 0, 1) := by decide +kernel
theorem dX5_comesToSay_12 : decode cX5_comesToSay 12 = .ok (.dup, 1) := by decide +kernel
theorem dX5_comesToSay_13 : decode cX5_comesToSay 13 = .ok (.getfield 133, 3) := by decide +kernel
theorem dX5_comesToSay_16 : decode cX5_comesToSay 16 = .ok (.iconst 1, 1) := by decide +kernel
theorem dX5_comesToSay_17 : decode cX5_comesToSay 17 = .ok (.iadd, 1) := by decide +kernel
theorem dX5_comesToSay_18 : decode cX5_comesToSay 18 = .ok (.putfield 133, 3) := by decide +kernel
theorem dX5_comesToSay_21 : decode cX5_comesToSay 21 = .ok (.aload_n 0, 1) := by decide +kernel
theorem dX5_comesToSay_22 : decode cX5_comesToSay 22 = .ok (.iload_n 1, 1) := by decide +kernel
theorem dX5_comesToSay_23 : decode cX5_comesToSay 23 = .ok (.iconst 3, 1) := by decide +kernel
theorem dX5_comesToSay_24 : decode cX5_comesToSay 24 = .ok (.iload_n 2, 1) := by decide +kernel
theorem dX5_comesToSay_25 : decode cX5_comesToSay 25 = .ok (.invokevirtual 148, 3) := by decide +kernel
theorem dX5_comesToSay_28 : decode cX5_comesToSay 28 = .ok (.iload_n 2, 1) := by decide +kernel
theorem dX5_comesToSay_29 : decode cX5_comesToSay 29 = .ok (.iconst 1, 1) := by decide +kernel
theorem dX5_comesToSay_30 : decode cX5_comesToSay 30 = .ok (.if_icmp .ne 35, 3) := by decide +kernel
theorem dX5_comesToSay_33 : decode cX5_comesToSay 33 = .ok (.aload_n 0, 1) := by decide +kernel
theorem dX5_comesToSay_34 : decode cX5_comesToSay 34 = .ok (.getfield 26, 3) := by decide +kernel
theorem dX5_comesToSay_37 : decode cX5_comesToSay 37 = .ok (.iload_n 1, 1) := by decide +kernel
theorem dX5_comesToSay_38 : decode cX5_comesToSay 38 = .ok (.dup2, 1) := by decide +kernel
theorem dX5_comesToSay_39 : decode cX5_comesToSay 39 = .ok (.iaload, 1) := by decide +kernel
theorem dX5_comesToSay_40 : decode cX5_comesToSay 40 = .ok (.iconst 1, 1) := by decide +kernel
theorem dX5_comesToSay_41 : decode cX5_comesToSay 41 = .ok (.iadd, 1) := by decide +kernel
theorem dX5_comesToSay_42 : decode cX5_comesToSay 42 = .ok (.iastore, 1) := by decide +kernel
theorem dX5_comesToSay_43 : decode cX5_comesToSay 43 = .ok (.aload_n 0, 1) := by decide +kernel
theorem dX5_comesToSay_44 : decode cX5_comesToSay 44 = .ok (.iload_n 1, 1) := by decide +kernel
theorem dX5_comesToSay_45 : decode cX5_comesToSay 45 = .ok (.bipush 6, 2) := by decide +kernel
theorem dX5_comesToSay_47 : decode cX5_comesToSay 47 = .ok (.aload_n 0, 1) := by decide +kernel
theorem dX5_comesToSay_48 : decode cX5_comesToSay 48 = .ok (.iload_n 1, 1) := by decide +kernel
theorem dX5_comesToSay_49 : decode cX5_comesToSay 49 = .ok (.bipush 6, 2) := by decide +kernel
theorem dX5_comesToSay_51 : decode cX5_comesToSay 51 = .ok (.invokevirtual 145, 3) := by decide +kernel
theorem dX5_comesToSay_54 : decode cX5_comesToSay 54 = .ok (.iconst 1, 1) := by decide +kernel
theorem dX5_comesToSay_55 : decode cX5_comesToSay 55 = .ok (.iadd, 1) := by decide +kernel
theorem dX5_comesToSay_56 : decode cX5_comesToSay 56 = .ok (.sipush 999, 3) := by decide +kernel
theorem dX5_comesToSay_59 : decode cX5_comesToSay 59 = .ok (.invokestatic 152, 3) := by decide +kernel
theorem dX5_comesToSay_62 : decode cX5_comesToSay 62 = .ok (.invokevirtual 148, 3) := by decide +kernel
theorem dX5_comesToSay_65 : decode cX5_comesToSay 65 = .ok (.return_, 1) := by decide +kernel
theorem dX5_weighs_0 : decode cX5_weighs 0 = .ok (.aload_n 0, 1) := by decide +kernel
theorem dX5_weighs_1 : decode cX5_weighs 1 = .ok (.iload_n 1, 1) := by decide +kernel
theorem dX5_weighs_2 : decode cX5_weighs 2 = .ok (.iconst 4, 1) := by decide +kernel
theorem dX5_weighs_3 : decode cX5_weighs 3 = .ok (.invokevirtual 145, 3) := by decide +kernel
theorem dX5_weighs_6 : decode cX5_weighs 6 = .ok (.iload_n 2, 1) := by decide +kernel
theorem dX5_weighs_7 : decode cX5_weighs 7 = .ok (.iconst 1, 1) := by decide +kernel
theorem dX5_weighs_8 : decode cX5_weighs 8 = .ok (.if_icmp .ne 7, 3) := by decide +kernel
theorem dX5_weighs_11 : decode cX5_weighs 11 = .ok (.iconst 1, 1) := by decide +kernel
theorem dX5_weighs_12 : decode cX5_weighs 12 = .ok (.goto 4, 3) := by decide +kernel
theorem dX5_weighs_15 : decode cX5_weighs 15 = .ok (.iconst (-1), 1) := by decide +kernel
theorem dX5_weighs_16 : decode cX5_weighs 16 = .ok (.iadd, 1) := by decide +kernel
theorem dX5_weighs_17 : decode cX5_weighs 17 = .ok (.aload_n 0, 1) := by decide +kernel
theorem dX5_weighs_18 : decode cX5_weighs 18 = .ok (.iload_n 1, 1) := by decide +kernel
theorem dX5_weighs_19 : decode cX5_weighs 19 = .ok (.iconst 2, 1) := by decide +kernel
theorem dX5_weighs_20 : decode cX5_weighs 20 = .ok (.invokevirtual 145, 3) := by decide +kernel
theorem dX5_weighs_23 : decode cX5_weighs 23 = .ok (.invokestatic 152, 3) := by decide +kernel
theorem dX5_weighs_26 : decode cX5_weighs 26 = .ok (.istore_n 3, 1) := by decide +kernel
theorem dX5_weighs_27 : decode cX5_weighs 27 = .ok (.aload_n 0, 1) := by decide +kernel
theorem dX5_weighs_28 : decode cX5_weighs 28 = .ok (.iload_n 1, 1) := by decide +kernel
theorem dX5_weighs_29 : decode cX5_weighs 29 = .ok (.iconst 4, 1) := by decide +kernel
theorem dX5_weighs_30 : decode cX5_weighs 30 = .ok (.iload_n 3, 1) := by decide +kernel
theorem dX5_weighs_31 : decode cX5_weighs 31 = .ok (.invokevirtual 148, 3) := by decide +kernel
theorem dX5_weighs_34 : decode cX5_weighs 34 = .ok (.iload_n 3, 1) := by decide +kernel
theorem dX5_weighs_35 : decode cX5_weighs 35 = .ok (.aload_n 0, 1) := by decide +kernel
theorem dX5_weighs_36 : decode cX5_weighs 36 = .ok (.iload_n 1, 1) := by decide +kernel
theorem dX5_weighs_37 : decode cX5_weighs 37 = .ok (.iconst 2, 1) := by decide +kernel
theorem dX5_weighs_38 : decode cX5_weighs 38 = .ok (.invokevirtual 145, 3) := by decide +kernel
theorem dX5_weighs_41 : decode cX5_weighs 41 = .ok (.if_icmp .ne 12, 3) := by decide +kernel
theorem dX5_weighs_44 : decode cX5_weighs 44 = .ok (.aload_n 0, 1) := by decide +kernel
theorem dX5_weighs_45 : decode cX5_weighs 45 = .ok (.iload_n 1, 1) := by decide +kernel
theorem dX5_weighs_46 : decode cX5_weighs 46 = .ok (.iconst 1, 1) := by decide +kernel
theorem dX5_weighs_47 : decode cX5_weighs 47 = .ok (.invokevirtual 155, 3) := by decide +kernel
theorem dX5_weighs_50 : decode cX5_weighs 50 = .ok (.goto 13, 3) := by decide +kernel
theorem dX5_weighs_53 : decode cX5_weighs 53 = .ok (.iload_n 3, 1) := by decide +kernel
theorem dX5_weighs_54 : decode cX5_weighs 54 = .ok (.ifCond .ne 9, 3) := by decide +kernel
theorem dX5_weighs_57 : decode cX5_weighs 57 = .ok (.aload_n 0, 1) := by decide +kernel
theorem dX5_weighs_58 : decode cX5_weighs 58 = .ok (.iload_n 1, 1) := by decide +kernel
theorem dX5_weighs_59 : decode cX5_weighs 59 = .ok (.iconst 0, 1) := by decide +kernel
theorem dX5_weighs_60 : decode cX5_weighs 60 = .ok (.invokevirtual 155, 3) := by decide +kernel
theorem dX5_weighs_63 : decode cX5_weighs 63 = .ok (.return_, 1) := by decide +kernel
theorem dX5_countsUp_0 : decode cX5_countsUp 0 = .ok (.iload_n 2, 1) := by decide +kernel
theorem dX5_countsUp_1 : decode cX5_countsUp 1 = .ok (.aload_n 0, 1) := by decide +kernel
theorem dX5_countsUp_2 : decode cX5_countsUp 2 = .ok (.iload_n 1, 1) := by decide +kernel
theorem dX5_countsUp_3 : decode cX5_countsUp 3 = .ok (.iconst 3, 1) := by decide +kernel
theorem dX5_countsUp_4 : decode cX5_countsUp 4 = .ok (.invokevirtual 145, 3) := by decide +kernel
theorem dX5_countsUp_7 : decode cX5_countsUp 7 = .ok (.if_icmp .ne 11, 3) := by decide +kernel
theorem dX5_countsUp_10 : decode cX5_countsUp 10 = .ok (.aload_n 0, 1) := by decide +kernel
theorem dX5_countsUp_11 : decode cX5_countsUp 11 = .ok (.iload_n 1, 1) := by decide +kernel
theorem dX5_countsUp_12 : decode cX5_countsUp 12 = .ok (.iconst 4, 1) := by decide +kernel
theorem dX5_countsUp_13 : decode cX5_countsUp 13 = .ok (.iconst 0, 1) := by decide +kernel
theorem dX5_countsUp_14 : decode cX5_countsUp 14 = .ok (.invokevirtual 148, 3) := by decide +kernel
theorem dX5_countsUp_17 : decode cX5_countsUp 17 = .ok (.return_, 1) := by decide +kernel
theorem dX5_countsUp_18 : decode cX5_countsUp 18 = .ok (.aload_n 0, 1) := by decide +kernel
theorem dX5_countsUp_19 : decode cX5_countsUp 19 = .ok (.iload_n 1, 1) := by decide +kernel
theorem dX5_countsUp_20 : decode cX5_countsUp 20 = .ok (.iconst 4, 1) := by decide +kernel
theorem dX5_countsUp_21 : decode cX5_countsUp 21 = .ok (.aload_n 0, 1) := by decide +kernel
theorem dX5_countsUp_22 : decode cX5_countsUp 22 = .ok (.iload_n 1, 1) := by decide +kernel
theorem dX5_countsUp_23 : decode cX5_countsUp 23 = .ok (.iconst 4, 1) := by decide +kernel
theorem dX5_countsUp_24 : decode cX5_countsUp 24 = .ok (.invokevirtual 145, 3) := by decide +kernel
theorem dX5_countsUp_27 : decode cX5_countsUp 27 = .ok (.iconst 1, 1) := by decide +kernel
theorem dX5_countsUp_28 : decode cX5_countsUp 28 = .ok (.iadd, 1) := by decide +kernel
theorem dX5_countsUp_29 : decode cX5_countsUp 29 = .ok (.invokevirtual 148, 3) := by decide +kernel
theorem dX5_countsUp_32 : decode cX5_countsUp 32 = .ok (.aload_n 0, 1) := by decide +kernel
theorem dX5_countsUp_33 : decode cX5_countsUp 33 = .ok (.iload_n 1, 1) := by decide +kernel
theorem dX5_countsUp_34 : decode cX5_countsUp 34 = .ok (.iconst 4, 1) := by decide +kernel
theorem dX5_countsUp_35 : decode cX5_countsUp 35 = .ok (.invokevirtual 145, 3) := by decide +kernel
theorem dX5_countsUp_38 : decode cX5_countsUp 38 = .ok (.aload_n 0, 1) := by decide +kernel
theorem dX5_countsUp_39 : decode cX5_countsUp 39 = .ok (.iload_n 1, 1) := by decide +kernel
theorem dX5_countsUp_40 : decode cX5_countsUp 40 = .ok (.invokevirtual 159, 3) := by decide +kernel
theorem dX5_countsUp_43 : decode cX5_countsUp 43 = .ok (.if_icmp .lt 27, 3) := by decide +kernel
theorem dX5_countsUp_46 : decode cX5_countsUp 46 = .ok (.aload_n 0, 1) := by decide +kernel
theorem dX5_countsUp_47 : decode cX5_countsUp 47 = .ok (.iload_n 1, 1) := by decide +kernel
theorem dX5_countsUp_48 : decode cX5_countsUp 48 = .ok (.iload_n 2, 1) := by decide +kernel
theorem dX5_countsUp_49 : decode cX5_countsUp 49 = .ok (.invokevirtual 155, 3) := by decide +kernel
theorem dX5_countsUp_52 : decode cX5_countsUp 52 = .ok (.aload_n 0, 1) := by decide +kernel
theorem dX5_countsUp_53 : decode cX5_countsUp 53 = .ok (.iload_n 1, 1) := by decide +kernel
theorem dX5_countsUp_54 : decode cX5_countsUp 54 = .ok (.iconst 4, 1) := by decide +kernel
theorem dX5_countsUp_55 : decode cX5_countsUp 55 = .ok (.iconst 0, 1) := by decide +kernel
theorem dX5_countsUp_56 : decode cX5_countsUp 56 = .ok (.invokevirtual 148, 3) := by decide +kernel
theorem dX5_countsUp_59 : decode cX5_countsUp 59 = .ok (.aload_n 0, 1) := by decide +kernel
theorem dX5_countsUp_60 : decode cX5_countsUp 60 = .ok (.iload_n 1, 1) := by decide +kernel
theorem dX5_countsUp_61 : decode cX5_countsUp 61 = .ok (.iconst 5, 1) := by decide +kernel
theorem dX5_countsUp_62 : decode cX5_countsUp 62 = .ok (.aload_n 0, 1) := by decide +kernel
theorem dX5_countsUp_63 : decode cX5_countsUp 63 = .ok (.iload_n 1, 1) := by decide +kernel
theorem dX5_countsUp_64 : decode cX5_countsUp 64 = .ok (.invokevirtual 162, 3) := by decide +kernel
theorem dX5_countsUp_67 : decode cX5_countsUp 67 = .ok (.invokevirtual 148, 3) := by decide +kernel
theorem dX5_countsUp_70 : decode cX5_countsUp 70 = .ok (.return_, 1) := by decide +kernel
theorem dX5_looks_0 : decode cX5_looks 0 = .ok (.aload_n 0, 1) := by decide +kernel
theorem dX5_looks_1 : decode cX5_looks 1 = .ok (.iload_n 1, 1) := by decide +kernel
theorem dX5_looks_2 : decode cX5_looks 2 = .ok (.iconst 5, 1) := by decide +kernel
theorem dX5_looks_3 : decode cX5_looks 3 = .ok (.invokevirtual 145, 3) := by decide +kernel
theorem dX5_looks_6 : decode cX5_looks 6 = .ok (.ifCond .le 20, 3) := by decide +kernel
theorem dX5_looks_9 : decode cX5_looks 9 = .ok (.aload_n 0, 1) := by decide +kernel
theorem dX5_looks_10 : decode cX5_looks 10 = .ok (.iload_n 1, 1) := by decide +kernel
theorem dX5_looks_11 : decode cX5_looks 11 = .ok (.iconst 5, 1) := by decide +kernel
theorem dX5_looks_12 : decode cX5_looks 12 = .ok (.aload_n 0, 1) := by decide +kernel
theorem dX5_looks_13 : decode cX5_looks 13 = .ok (.iload_n 1, 1) := by decide +kernel
theorem dX5_looks_14 : decode cX5_looks 14 = .ok (.iconst 5, 1) := by decide +kernel
theorem dX5_looks_15 : decode cX5_looks 15 = .ok (.invokevirtual 145, 3) := by decide +kernel
theorem dX5_looks_18 : decode cX5_looks 18 = .ok (.iconst 1, 1) := by decide +kernel
theorem dX5_looks_19 : decode cX5_looks 19 = .ok (.isub, 1) := by decide +kernel
theorem dX5_looks_20 : decode cX5_looks 20 = .ok (.invokevirtual 148, 3) := by decide +kernel
theorem dX5_looks_23 : decode cX5_looks 23 = .ok (.goto 28, 3) := by decide +kernel
theorem dX5_looks_26 : decode cX5_looks 26 = .ok (.aload_n 0, 1) := by decide +kernel
theorem dX5_looks_27 : decode cX5_looks 27 = .ok (.iload_n 1, 1) := by decide +kernel
theorem dX5_looks_28 : decode cX5_looks 28 = .ok (.iconst 1, 1) := by decide +kernel
theorem dX5_looks_29 : decode cX5_looks 29 = .ok (.invokevirtual 145, 3) := by decide +kernel
theorem dX5_looks_32 : decode cX5_looks 32 = .ok (.iconst 1, 1) := by decide +kernel
theorem dX5_looks_33 : decode cX5_looks 33 = .ok (.if_icmp .ne 12, 3) := by decide +kernel
theorem dX5_looks_36 : decode cX5_looks 36 = .ok (.aload_n 0, 1) := by decide +kernel
theorem dX5_looks_37 : decode cX5_looks 37 = .ok (.iload_n 1, 1) := by decide +kernel
theorem dX5_looks_38 : decode cX5_looks 38 = .ok (.iload_n 2, 1) := by decide +kernel
theorem dX5_looks_39 : decode cX5_looks 39 = .ok (.invokevirtual 165, 3) := by decide +kernel
theorem dX5_looks_42 : decode cX5_looks 42 = .ok (.goto 9, 3) := by decide +kernel
theorem dX5_looks_45 : decode cX5_looks 45 = .ok (.aload_n 0, 1) := by decide +kernel
theorem dX5_looks_46 : decode cX5_looks 46 = .ok (.iload_n 1, 1) := by decide +kernel
theorem dX5_looks_47 : decode cX5_looks 47 = .ok (.iload_n 2, 1) := by decide +kernel
theorem dX5_looks_48 : decode cX5_looks 48 = .ok (.invokevirtual 168, 3) := by decide +kernel
theorem dX5_looks_51 : decode cX5_looks 51 = .ok (.return_, 1) := by decide +kernel
theorem dX5_contactsNow_0 : decode cX5_contactsNow 0 = .ok (.iconst 0, 1) := by decide +kernel
theorem dX5_contactsNow_1 : decode cX5_contactsNow 1 = .ok (.istore_n 1, 1) := by decide +kernel
theorem dX5_contactsNow_2 : decode cX5_contactsNow 2 = .ok (.iconst 0, 1) := by decide +kernel
theorem dX5_contactsNow_3 : decode cX5_contactsNow 3 = .ok (.istore_n 2, 1) := by decide +kernel
theorem dX5_contactsNow_4 : decode cX5_contactsNow 4 = .ok (.iload_n 2, 1) := by decide +kernel
theorem dX5_contactsNow_5 : decode cX5_contactsNow 5 = .ok (.aload_n 0, 1) := by decide +kernel
theorem dX5_contactsNow_6 : decode cX5_contactsNow 6 = .ok (.getfield 13, 3) := by decide +kernel
theorem dX5_contactsNow_9 : decode cX5_contactsNow 9 = .ok (.bipush 28, 2) := by decide +kernel
theorem dX5_contactsNow_11 : decode cX5_contactsNow 11 = .ok (.iaload, 1) := by decide +kernel
theorem dX5_contactsNow_12 : decode cX5_contactsNow 12 = .ok (.if_icmp .ge 26, 3) := by decide +kernel
theorem dX5_contactsNow_15 : decode cX5_contactsNow 15 = .ok (.iload_n 1, 1) := by decide +kernel
theorem dX5_contactsNow_16 : decode cX5_contactsNow 16 = .ok (.aload_n 0, 1) := by decide +kernel
theorem dX5_contactsNow_17 : decode cX5_contactsNow 17 = .ok (.iload_n 2, 1) := by decide +kernel
theorem dX5_contactsNow_18 : decode cX5_contactsNow 18 = .ok (.aload_n 0, 1) := by decide +kernel
theorem dX5_contactsNow_19 : decode cX5_contactsNow 19 = .ok (.getfield 13, 3) := by decide +kernel
theorem dX5_contactsNow_22 : decode cX5_contactsNow 22 = .ok (.bipush 55, 2) := by decide +kernel
theorem dX5_contactsNow_24 : decode cX5_contactsNow 24 = .ok (.iaload, 1) := by decide +kernel
theorem dX5_contactsNow_25 : decode cX5_contactsNow 25 = .ok (.invokevirtual 171, 3) := by decide +kernel
theorem dX5_contactsNow_28 : decode cX5_contactsNow 28 = .ok (.iload_n 2, 1) := by decide +kernel
theorem dX5_contactsNow_29 : decode cX5_contactsNow 29 = .ok (.ishl, 1) := by decide +kernel
theorem dX5_contactsNow_30 : decode cX5_contactsNow 30 = .ok (.ior, 1) := by decide +kernel
theorem dX5_contactsNow_31 : decode cX5_contactsNow 31 = .ok (.istore_n 1, 1) := by decide +kernel
theorem dX5_contactsNow_32 : decode cX5_contactsNow 32 = .ok (.iinc 2 1, 3) := by decide +kernel
theorem dX5_contactsNow_35 : decode cX5_contactsNow 35 = .ok (.goto (-31), 3) := by decide +kernel
theorem dX5_contactsNow_38 : decode cX5_contactsNow 38 = .ok (.iload_n 1, 1) := by decide +kernel
theorem dX5_contactsNow_39 : decode cX5_contactsNow 39 = .ok (.ireturn, 1) := by decide +kernel
theorem dX5_says_0 : decode cX5_says 0 = .ok (.iconst 0, 1) := by decide +kernel
theorem dX5_says_1 : decode cX5_says 1 = .ok (.istore_n 1, 1) := by decide +kernel
theorem dX5_says_2 : decode cX5_says 2 = .ok (.iconst 0, 1) := by decide +kernel
theorem dX5_says_3 : decode cX5_says 3 = .ok (.istore_n 2, 1) := by decide +kernel
theorem dX5_says_4 : decode cX5_says 4 = .ok (.iload_n 2, 1) := by decide +kernel
theorem dX5_says_5 : decode cX5_says 5 = .ok (.aload_n 0, 1) := by decide +kernel
theorem dX5_says_6 : decode cX5_says 6 = .ok (.getfield 13, 3) := by decide +kernel
theorem dX5_says_9 : decode cX5_says 9 = .ok (.bipush 28, 2) := by decide +kernel
theorem dX5_says_11 : decode cX5_says 11 = .ok (.iaload, 1) := by decide +kernel
theorem dX5_says_12 : decode cX5_says 12 = .ok (.if_icmp .ge 20, 3) := by decide +kernel
theorem dX5_says_15 : decode cX5_says 15 = .ok (.iload_n 1, 1) := by decide +kernel
theorem dX5_says_16 : decode cX5_says 16 = .ok (.aload_n 0, 1) := by decide +kernel
theorem dX5_says_17 : decode cX5_says 17 = .ok (.iload_n 2, 1) := by decide +kernel
theorem dX5_says_18 : decode cX5_says 18 = .ok (.iconst 3, 1) := by decide +kernel
theorem dX5_says_19 : decode cX5_says 19 = .ok (.invokevirtual 145, 3) := by decide +kernel
theorem dX5_says_22 : decode cX5_says 22 = .ok (.iload_n 2, 1) := by decide +kernel
theorem dX5_says_23 : decode cX5_says 23 = .ok (.ishl, 1) := by decide +kernel
theorem dX5_says_24 : decode cX5_says 24 = .ok (.ior, 1) := by decide +kernel
theorem dX5_says_25 : decode cX5_says 25 = .ok (.istore_n 1, 1) := by decide +kernel
theorem dX5_says_26 : decode cX5_says 26 = .ok (.iinc 2 1, 3) := by decide +kernel
theorem dX5_says_29 : decode cX5_says 29 = .ok (.goto (-25), 3) := by decide +kernel
theorem dX5_says_32 : decode cX5_says 32 = .ok (.iload_n 1, 1) := by decide +kernel
theorem dX5_says_33 : decode cX5_says 33 = .ok (.ireturn, 1) := by decide +kernel
theorem dX5_tickGoesBy_0 : decode cX5_tickGoesBy 0 = .ok (.aload_n 0, 1) := by decide +kernel
theorem dX5_tickGoesBy_1 : decode cX5_tickGoesBy 1 = .ok (.getfield 13, 3) := by decide +kernel
theorem dX5_tickGoesBy_4 : decode cX5_tickGoesBy 4 = .ok (.bipush 55, 2) := by decide +kernel
theorem dX5_tickGoesBy_6 : decode cX5_tickGoesBy 6 = .ok (.iaload, 1) := by decide +kernel
theorem dX5_tickGoesBy_7 : decode cX5_tickGoesBy 7 = .ok (.aload_n 0, 1) := by decide +kernel
theorem dX5_tickGoesBy_8 : decode cX5_tickGoesBy 8 = .ok (.getfield 13, 3) := by decide +kernel
theorem dX5_tickGoesBy_11 : decode cX5_tickGoesBy 11 = .ok (.bipush 54, 2) := by decide +kernel
theorem dX5_tickGoesBy_13 : decode cX5_tickGoesBy 13 = .ok (.iaload, 1) := by decide +kernel
theorem dX5_tickGoesBy_14 : decode cX5_tickGoesBy 14 = .ok (.irem, 1) := by decide +kernel
theorem dX5_tickGoesBy_15 : decode cX5_tickGoesBy 15 = .ok (.ifCond .ne 32, 3) := by decide +kernel
theorem dX5_tickGoesBy_18 : decode cX5_tickGoesBy 18 = .ok (.iconst 0, 1) := by decide +kernel
theorem dX5_tickGoesBy_19 : decode cX5_tickGoesBy 19 = .ok (.istore_n 2, 1) := by decide +kernel
theorem dX5_tickGoesBy_20 : decode cX5_tickGoesBy 20 = .ok (.iload_n 2, 1) := by decide +kernel
theorem dX5_tickGoesBy_21 : decode cX5_tickGoesBy 21 = .ok (.aload_n 0, 1) := by decide +kernel
theorem dX5_tickGoesBy_22 : decode cX5_tickGoesBy 22 = .ok (.getfield 13, 3) := by decide +kernel
theorem dX5_tickGoesBy_25 : decode cX5_tickGoesBy 25 = .ok (.bipush 28, 2) := by decide +kernel
theorem dX5_tickGoesBy_27 : decode cX5_tickGoesBy 27 = .ok (.iaload, 1) := by decide +kernel
theorem dX5_tickGoesBy_28 : decode cX5_tickGoesBy 28 = .ok (.if_icmp .ge 19, 3) := by decide +kernel
theorem dX5_tickGoesBy_31 : decode cX5_tickGoesBy 31 = .ok (.aload_n 0, 1) := by decide +kernel
theorem dX5_tickGoesBy_32 : decode cX5_tickGoesBy 32 = .ok (.iload_n 2, 1) := by decide +kernel
theorem dX5_tickGoesBy_33 : decode cX5_tickGoesBy 33 = .ok (.iload_n 1, 1) := by decide +kernel
theorem dX5_tickGoesBy_34 : decode cX5_tickGoesBy 34 = .ok (.iload_n 2, 1) := by decide +kernel
theorem dX5_tickGoesBy_35 : decode cX5_tickGoesBy 35 = .ok (.ishr, 1) := by decide +kernel
theorem dX5_tickGoesBy_36 : decode cX5_tickGoesBy 36 = .ok (.iconst 1, 1) := by decide +kernel
theorem dX5_tickGoesBy_37 : decode cX5_tickGoesBy 37 = .ok (.iand, 1) := by decide +kernel
theorem dX5_tickGoesBy_38 : decode cX5_tickGoesBy 38 = .ok (.invokevirtual 174, 3) := by decide +kernel
theorem dX5_tickGoesBy_41 : decode cX5_tickGoesBy 41 = .ok (.iinc 2 1, 3) := by decide +kernel
theorem dX5_tickGoesBy_44 : decode cX5_tickGoesBy 44 = .ok (.goto (-24), 3) := by decide +kernel
theorem dX5_tickGoesBy_47 : decode cX5_tickGoesBy 47 = .ok (.aload_n 0, 1) := by decide +kernel
theorem dX5_tickGoesBy_48 : decode cX5_tickGoesBy 48 = .ok (.getfield 13, 3) := by decide +kernel
theorem dX5_tickGoesBy_51 : decode cX5_tickGoesBy 51 = .ok (.bipush 55, 2) := by decide +kernel
theorem dX5_tickGoesBy_53 : decode cX5_tickGoesBy 53 = .ok (.dup2, 1) := by decide +kernel
theorem dX5_tickGoesBy_54 : decode cX5_tickGoesBy 54 = .ok (.iaload, 1) := by decide +kernel
theorem dX5_tickGoesBy_55 : decode cX5_tickGoesBy 55 = .ok (.iconst 1, 1) := by decide +kernel
theorem dX5_tickGoesBy_56 : decode cX5_tickGoesBy 56 = .ok (.iadd, 1) := by decide +kernel
theorem dX5_tickGoesBy_57 : decode cX5_tickGoesBy 57 = .ok (.iastore, 1) := by decide +kernel
theorem dX5_tickGoesBy_58 : decode cX5_tickGoesBy 58 = .ok (.return_, 1) := by decide +kernel
theorem dX5_ticksGo_0 : decode cX5_ticksGo 0 = .ok (.iconst 0, 1) := by decide +kernel
theorem dX5_ticksGo_1 : decode cX5_ticksGo 1 = .ok (.istore_n 2, 1) := by decide +kernel
theorem dX5_ticksGo_2 : decode cX5_ticksGo 2 = .ok (.iload_n 2, 1) := by decide +kernel
theorem dX5_ticksGo_3 : decode cX5_ticksGo 3 = .ok (.iload_n 1, 1) := by decide +kernel
theorem dX5_ticksGo_4 : decode cX5_ticksGo 4 = .ok (.if_icmp .ge 17, 3) := by decide +kernel
theorem dX5_ticksGo_7 : decode cX5_ticksGo 7 = .ok (.aload_n 0, 1) := by decide +kernel
theorem dX5_ticksGo_8 : decode cX5_ticksGo 8 = .ok (.aload_n 0, 1) := by decide +kernel
theorem dX5_ticksGo_9 : decode cX5_ticksGo 9 = .ok (.invokevirtual 177, 3) := by decide +kernel
theorem dX5_ticksGo_12 : decode cX5_ticksGo 12 = .ok (.invokevirtual 180, 3) := by decide +kernel
theorem dX5_ticksGo_15 : decode cX5_ticksGo 15 = .ok (.iinc 2 1, 3) := by decide +kernel
theorem dX5_ticksGo_18 : decode cX5_ticksGo 18 = .ok (.goto (-16), 3) := by decide +kernel
theorem dX5_ticksGo_21 : decode cX5_ticksGo 21 = .ok (.return_, 1) := by decide +kernel
theorem dX5_struckByAll_0 : decode cX5_struckByAll 0 = .ok (.iconst 0, 1) := by decide +kernel
theorem dX5_struckByAll_1 : decode cX5_struckByAll 1 = .ok (.istore_n 1, 1) := by decide +kernel
theorem dX5_struckByAll_2 : decode cX5_struckByAll 2 = .ok (.iconst 0, 1) := by decide +kernel
theorem dX5_struckByAll_3 : decode cX5_struckByAll 3 = .ok (.istore_n 2, 1) := by decide +kernel
theorem dX5_struckByAll_4 : decode cX5_struckByAll 4 = .ok (.iload_n 2, 1) := by decide +kernel
theorem dX5_struckByAll_5 : decode cX5_struckByAll 5 = .ok (.iconst 4, 1) := by decide +kernel
theorem dX5_struckByAll_6 : decode cX5_struckByAll 6 = .ok (.if_icmp .ge 18, 3) := by decide +kernel
theorem dX5_struckByAll_9 : decode cX5_struckByAll 9 = .ok (.iload_n 1, 1) := by decide +kernel
theorem dX5_struckByAll_10 : decode cX5_struckByAll 10 = .ok (.aload_n 0, 1) := by decide +kernel
theorem dX5_struckByAll_11 : decode cX5_struckByAll 11 = .ok (.getfield 26, 3) := by decide +kernel
theorem dX5_struckByAll_14 : decode cX5_struckByAll 14 = .ok (.iload_n 2, 1) := by decide +kernel
theorem dX5_struckByAll_15 : decode cX5_struckByAll 15 = .ok (.iaload, 1) := by decide +kernel
theorem dX5_struckByAll_16 : decode cX5_struckByAll 16 = .ok (.iadd, 1) := by decide +kernel
theorem dX5_struckByAll_17 : decode cX5_struckByAll 17 = .ok (.istore_n 1, 1) := by decide +kernel
theorem dX5_struckByAll_18 : decode cX5_struckByAll 18 = .ok (.iinc 2 1, 3) := by decide +kernel
theorem dX5_struckByAll_21 : decode cX5_struckByAll 21 = .ok (.goto (-17), 3) := by decide +kernel
theorem dX5_struckByAll_24 : decode cX5_struckByAll 24 = .ok (.iload_n 1, 1) := by decide +kernel
theorem dX5_struckByAll_25 : decode cX5_struckByAll 25 = .ok (.ireturn, 1) := by decide +kernel
theorem dX5_cutsSum_0 : decode cX5_cutsSum 0 = .ok (.aload_n 0, 1) := by decide +kernel
theorem dX5_cutsSum_1 : decode cX5_cutsSum 1 = .ok (.iload_n 1, 1) := by decide +kernel
theorem dX5_cutsSum_2 : decode cX5_cutsSum 2 = .ok (.iconst 4, 1) := by decide +kernel
theorem dX5_cutsSum_3 : decode cX5_cutsSum 3 = .ok (.aload_n 0, 1) := by decide +kernel
theorem dX5_cutsSum_4 : decode cX5_cutsSum 4 = .ok (.iload_n 1, 1) := by decide +kernel
theorem dX5_cutsSum_5 : decode cX5_cutsSum 5 = .ok (.iconst 4, 1) := by decide +kernel
theorem dX5_cutsSum_6 : decode cX5_cutsSum 6 = .ok (.invokevirtual 145, 3) := by decide +kernel
theorem dX5_cutsSum_9 : decode cX5_cutsSum 9 = .ok (.aload_n 0, 1) := by decide +kernel
theorem dX5_cutsSum_10 : decode cX5_cutsSum 10 = .ok (.iload_n 1, 1) := by decide +kernel
theorem dX5_cutsSum_11 : decode cX5_cutsSum 11 = .ok (.iconst 2, 1) := by decide +kernel
theorem dX5_cutsSum_12 : decode cX5_cutsSum 12 = .ok (.invokevirtual 145, 3) := by decide +kernel
theorem dX5_cutsSum_15 : decode cX5_cutsSum 15 = .ok (.invokestatic 152, 3) := by decide +kernel
theorem dX5_cutsSum_18 : decode cX5_cutsSum 18 = .ok (.invokevirtual 148, 3) := by decide +kernel
theorem dX5_cutsSum_21 : decode cX5_cutsSum 21 = .ok (.return_, 1) := by decide +kernel
theorem dX5_sumOf_0 : decode cX5_sumOf 0 = .ok (.iconst 0, 1) := by decide +kernel
theorem dX5_sumOf_1 : decode cX5_sumOf 1 = .ok (.istore_n 2, 1) := by decide +kernel
theorem dX5_sumOf_2 : decode cX5_sumOf 2 = .ok (.iconst 0, 1) := by decide +kernel
theorem dX5_sumOf_3 : decode cX5_sumOf 3 = .ok (.istore_n 3, 1) := by decide +kernel
theorem dX5_sumOf_4 : decode cX5_sumOf 4 = .ok (.iload_n 3, 1) := by decide +kernel
theorem dX5_sumOf_5 : decode cX5_sumOf 5 = .ok (.aload_n 0, 1) := by decide +kernel
theorem dX5_sumOf_6 : decode cX5_sumOf 6 = .ok (.getfield 7, 3) := by decide +kernel
theorem dX5_sumOf_9 : decode cX5_sumOf 9 = .ok (.bipush 28, 2) := by decide +kernel
theorem dX5_sumOf_11 : decode cX5_sumOf 11 = .ok (.iaload, 1) := by decide +kernel
theorem dX5_sumOf_12 : decode cX5_sumOf 12 = .ok (.if_icmp .ge 23, 3) := by decide +kernel
theorem dX5_sumOf_15 : decode cX5_sumOf 15 = .ok (.iload_n 2, 1) := by decide +kernel
theorem dX5_sumOf_16 : decode cX5_sumOf 16 = .ok (.aload_n 0, 1) := by decide +kernel
theorem dX5_sumOf_17 : decode cX5_sumOf 17 = .ok (.getfield 7, 3) := by decide +kernel
theorem dX5_sumOf_20 : decode cX5_sumOf 20 = .ok (.bipush 7, 2) := by decide +kernel
theorem dX5_sumOf_22 : decode cX5_sumOf 22 = .ok (.iload_n 3, 1) := by decide +kernel
theorem dX5_sumOf_23 : decode cX5_sumOf 23 = .ok (.imul, 1) := by decide +kernel
theorem dX5_sumOf_24 : decode cX5_sumOf 24 = .ok (.iload_n 1, 1) := by decide +kernel
theorem dX5_sumOf_25 : decode cX5_sumOf 25 = .ok (.iadd, 1) := by decide +kernel
theorem dX5_sumOf_26 : decode cX5_sumOf 26 = .ok (.iaload, 1) := by decide +kernel
theorem dX5_sumOf_27 : decode cX5_sumOf 27 = .ok (.iadd, 1) := by decide +kernel
theorem dX5_sumOf_28 : decode cX5_sumOf 28 = .ok (.istore_n 2, 1) := by decide +kernel
theorem dX5_sumOf_29 : decode cX5_sumOf 29 = .ok (.iinc 3 1, 3) := by decide +kernel
theorem dX5_sumOf_32 : decode cX5_sumOf 32 = .ok (.goto (-28), 3) := by decide +kernel
theorem dX5_sumOf_35 : decode cX5_sumOf 35 = .ok (.iload_n 2, 1) := by decide +kernel
theorem dX5_sumOf_36 : decode cX5_sumOf 36 = .ok (.ireturn, 1) := by decide +kernel
theorem dX5_rule_0 : decode cX5_rule 0 = .ok (.aload_n 0, 1) := by decide +kernel
theorem dX5_rule_1 : decode cX5_rule 1 = .ok (.invokevirtual 183, 3) := by decide +kernel
theorem dX5_rule_4 : decode cX5_rule 4 = .ok (.iload_n 1, 1) := by decide +kernel
theorem dX5_rule_5 : decode cX5_rule 5 = .ok (.tableswitch 92 0 6 #[43, 51, 59, 67, 75, 80, 85], 43) := by decide +kernel
theorem dX5_rule_48 : decode cX5_rule 48 = .ok (.aload_n 0, 1) := by decide +kernel
theorem dX5_rule_49 : decode cX5_rule 49 = .ok (.getfield 7, 3) := by decide +kernel
theorem dX5_rule_52 : decode cX5_rule 52 = .ok (.bipush 28, 2) := by decide +kernel
theorem dX5_rule_54 : decode cX5_rule 54 = .ok (.iaload, 1) := by decide +kernel
theorem dX5_rule_55 : decode cX5_rule 55 = .ok (.ireturn, 1) := by decide +kernel
theorem dX5_rule_56 : decode cX5_rule 56 = .ok (.aload_n 0, 1) := by decide +kernel
theorem dX5_rule_57 : decode cX5_rule 57 = .ok (.getfield 7, 3) := by decide +kernel
theorem dX5_rule_60 : decode cX5_rule 60 = .ok (.bipush 53, 2) := by decide +kernel
theorem dX5_rule_62 : decode cX5_rule 62 = .ok (.iaload, 1) := by decide +kernel
theorem dX5_rule_63 : decode cX5_rule 63 = .ok (.ireturn, 1) := by decide +kernel
theorem dX5_rule_64 : decode cX5_rule 64 = .ok (.aload_n 0, 1) := by decide +kernel
theorem dX5_rule_65 : decode cX5_rule 65 = .ok (.getfield 7, 3) := by decide +kernel
theorem dX5_rule_68 : decode cX5_rule 68 = .ok (.bipush 55, 2) := by decide +kernel
theorem dX5_rule_70 : decode cX5_rule 70 = .ok (.iaload, 1) := by decide +kernel
theorem dX5_rule_71 : decode cX5_rule 71 = .ok (.ireturn, 1) := by decide +kernel
theorem dX5_rule_72 : decode cX5_rule 72 = .ok (.aload_n 0, 1) := by decide +kernel
theorem dX5_rule_73 : decode cX5_rule 73 = .ok (.getfield 7, 3) := by decide +kernel
theorem dX5_rule_76 : decode cX5_rule 76 = .ok (.bipush 54, 2) := by decide +kernel
theorem dX5_rule_78 : decode cX5_rule 78 = .ok (.iaload, 1) := by decide +kernel
theorem dX5_rule_79 : decode cX5_rule 79 = .ok (.ireturn, 1) := by decide +kernel
theorem dX5_rule_80 : decode cX5_rule 80 = .ok (.aload_n 0, 1) := by decide +kernel
theorem dX5_rule_81 : decode cX5_rule 81 = .ok (.invokevirtual 186, 3) := by decide +kernel
theorem dX5_rule_84 : decode cX5_rule 84 = .ok (.ireturn, 1) := by decide +kernel
theorem dX5_rule_85 : decode cX5_rule 85 = .ok (.aload_n 0, 1) := by decide +kernel
theorem dX5_rule_86 : decode cX5_rule 86 = .ok (.invokevirtual 177, 3) := by decide +kernel
theorem dX5_rule_89 : decode cX5_rule 89 = .ok (.ireturn, 1) := by decide +kernel
theorem dX5_rule_90 : decode cX5_rule 90 = .ok (.aload_n 0, 1) := by decide +kernel
theorem dX5_rule_91 : decode cX5_rule 91 = .ok (.bipush 6, 2) := by decide +kernel
theorem dX5_rule_93 : decode cX5_rule 93 = .ok (.invokevirtual 189, 3) := by decide +kernel
theorem dX5_rule_96 : decode cX5_rule 96 = .ok (.ireturn, 1) := by decide +kernel
theorem dX5_rule_97 : decode cX5_rule 97 = .ok (.iconst (-1), 1) := by decide +kernel
theorem dX5_rule_98 : decode cX5_rule 98 = .ok (.ireturn, 1) := by decide +kernel
theorem dX5_key_0 : decode cX5_key 0 = .ok (.aload_n 0, 1) := by decide +kernel
theorem dX5_key_1 : decode cX5_key 1 = .ok (.iload_n 1, 1) := by decide +kernel
theorem dX5_key_2 : decode cX5_key 2 = .ok (.invokevirtual 192, 3) := by decide +kernel
theorem dX5_key_5 : decode cX5_key 5 = .ok (.ifCond .eq 29, 3) := by decide +kernel
theorem dX5_key_8 : decode cX5_key 8 = .ok (.iload_n 2, 1) := by decide +kernel
theorem dX5_key_9 : decode cX5_key 9 = .ok (.i2l, 1) := by decide +kernel
theorem dX5_key_10 : decode cX5_key 10 = .ok (.lconst 0, 1) := by decide +kernel
theorem dX5_key_11 : decode cX5_key 11 = .ok (.ldc2_w 196, 3) := by decide +kernel
theorem dX5_key_14 : decode cX5_key 14 = .ok (.invokestatic 63, 3) := by decide +kernel
theorem dX5_key_17 : decode cX5_key 17 = .ok (.ifCond .eq 17, 3) := by decide +kernel
theorem dX5_key_20 : decode cX5_key 20 = .ok (.aload_n 0, 1) := by decide +kernel
theorem dX5_key_21 : decode cX5_key 21 = .ok (.getfield 7, 3) := by decide +kernel
theorem dX5_key_24 : decode cX5_key 24 = .ok (.bipush 7, 2) := by decide +kernel
theorem dX5_key_26 : decode cX5_key 26 = .ok (.iload_n 1, 1) := by decide +kernel
theorem dX5_key_27 : decode cX5_key 27 = .ok (.imul, 1) := by decide +kernel
theorem dX5_key_28 : decode cX5_key 28 = .ok (.iload_n 2, 1) := by decide +kernel
theorem dX5_key_29 : decode cX5_key 29 = .ok (.iadd, 1) := by decide +kernel
theorem dX5_key_30 : decode cX5_key 30 = .ok (.iaload, 1) := by decide +kernel
theorem dX5_key_31 : decode cX5_key 31 = .ok (.goto 4, 3) := by decide +kernel
theorem dX5_key_34 : decode cX5_key 34 = .ok (.iconst (-1), 1) := by decide +kernel
theorem dX5_key_35 : decode cX5_key 35 = .ok (.ireturn, 1) := by decide +kernel
theorem dX5_press_0 : decode cX5_press 0 = .ok (.iload_n 1, 1) := by decide +kernel
theorem dX5_press_1 : decode cX5_press 1 = .ok (.i2l, 1) := by decide +kernel
theorem dX5_press_2 : decode cX5_press 2 = .ok (.lconst 0, 1) := by decide +kernel
theorem dX5_press_3 : decode cX5_press 3 = .ok (.aload_n 0, 1) := by decide +kernel
theorem dX5_press_4 : decode cX5_press 4 = .ok (.getfield 7, 3) := by decide +kernel
theorem dX5_press_7 : decode cX5_press 7 = .ok (.bipush 53, 2) := by decide +kernel
theorem dX5_press_9 : decode cX5_press 9 = .ok (.iaload, 1) := by decide +kernel
theorem dX5_press_10 : decode cX5_press 10 = .ok (.iconst 1, 1) := by decide +kernel
theorem dX5_press_11 : decode cX5_press 11 = .ok (.isub, 1) := by decide +kernel
theorem dX5_press_12 : decode cX5_press 12 = .ok (.i2l, 1) := by decide +kernel
theorem dX5_press_13 : decode cX5_press 13 = .ok (.invokestatic 63, 3) := by decide +kernel
theorem dX5_press_16 : decode cX5_press 16 = .ok (.ifCond .eq 31, 3) := by decide +kernel
theorem dX5_press_19 : decode cX5_press 19 = .ok (.iload_n 2, 1) := by decide +kernel
theorem dX5_press_20 : decode cX5_press 20 = .ok (.i2l, 1) := by decide +kernel
theorem dX5_press_21 : decode cX5_press 21 = .ok (.lconst 0, 1) := by decide +kernel
theorem dX5_press_22 : decode cX5_press 22 = .ok (.ldc2_w 198, 3) := by decide +kernel
theorem dX5_press_25 : decode cX5_press 25 = .ok (.invokestatic 63, 3) := by decide +kernel
theorem dX5_press_28 : decode cX5_press 28 = .ok (.ifCond .eq 19, 3) := by decide +kernel
theorem dX5_press_31 : decode cX5_press 31 = .ok (.aload_n 0, 1) := by decide +kernel
theorem dX5_press_32 : decode cX5_press 32 = .ok (.getfield 7, 3) := by decide +kernel
theorem dX5_press_35 : decode cX5_press 35 = .ok (.bipush 29, 2) := by decide +kernel
theorem dX5_press_37 : decode cX5_press 37 = .ok (.iconst 3, 1) := by decide +kernel
theorem dX5_press_38 : decode cX5_press 38 = .ok (.iload_n 1, 1) := by decide +kernel
theorem dX5_press_39 : decode cX5_press 39 = .ok (.imul, 1) := by decide +kernel
theorem dX5_press_40 : decode cX5_press 40 = .ok (.iadd, 1) := by decide +kernel
theorem dX5_press_41 : decode cX5_press 41 = .ok (.iload_n 2, 1) := by decide +kernel
theorem dX5_press_42 : decode cX5_press 42 = .ok (.iadd, 1) := by decide +kernel
theorem dX5_press_43 : decode cX5_press 43 = .ok (.iaload, 1) := by decide +kernel
theorem dX5_press_44 : decode cX5_press 44 = .ok (.goto 4, 3) := by decide +kernel
theorem dX5_press_47 : decode cX5_press 47 = .ok (.iconst (-1), 1) := by decide +kernel
theorem dX5_press_48 : decode cX5_press 48 = .ok (.ireturn, 1) := by decide +kernel
theorem dX5_contact_0 : decode cX5_contact 0 = .ok (.aload_n 0, 1) := by decide +kernel
theorem dX5_contact_1 : decode cX5_contact 1 = .ok (.iload_n 1, 1) := by decide +kernel
theorem dX5_contact_2 : decode cX5_contact 2 = .ok (.invokevirtual 192, 3) := by decide +kernel
theorem dX5_contact_5 : decode cX5_contact 5 = .ok (.ifCond .eq 15, 3) := by decide +kernel
theorem dX5_contact_8 : decode cX5_contact 8 = .ok (.iload_n 2, 1) := by decide +kernel
theorem dX5_contact_9 : decode cX5_contact 9 = .ok (.i2l, 1) := by decide +kernel
theorem dX5_contact_10 : decode cX5_contact 10 = .ok (.lconst 0, 1) := by decide +kernel
theorem dX5_contact_11 : decode cX5_contact 11 = .ok (.ldc2_w 200, 3) := by decide +kernel
theorem dX5_contact_14 : decode cX5_contact 14 = .ok (.invokestatic 63, 3) := by decide +kernel
theorem dX5_contact_17 : decode cX5_contact 17 = .ok (.ifCond .ne 5, 3) := by decide +kernel
theorem dX5_contact_20 : decode cX5_contact 20 = .ok (.iconst (-1), 1) := by decide +kernel
theorem dX5_contact_21 : decode cX5_contact 21 = .ok (.ireturn, 1) := by decide +kernel
theorem dX5_contact_22 : decode cX5_contact 22 = .ok (.aload_n 0, 1) := by decide +kernel
theorem dX5_contact_23 : decode cX5_contact 23 = .ok (.invokevirtual 183, 3) := by decide +kernel
theorem dX5_contact_26 : decode cX5_contact 26 = .ok (.aload_n 0, 1) := by decide +kernel
theorem dX5_contact_27 : decode cX5_contact 27 = .ok (.iload_n 1, 1) := by decide +kernel
theorem dX5_contact_28 : decode cX5_contact 28 = .ok (.iload_n 2, 1) := by decide +kernel
theorem dX5_contact_29 : decode cX5_contact 29 = .ok (.invokevirtual 171, 3) := by decide +kernel
theorem dX5_contact_32 : decode cX5_contact 32 = .ok (.ireturn, 1) := by decide +kernel
theorem dX5_becomes_0 : decode cX5_becomes 0 = .ok (.aload_n 0, 1) := by decide +kernel
theorem dX5_becomes_1 : decode cX5_becomes 1 = .ok (.getfield 7, 3) := by decide +kernel
theorem dX5_becomes_4 : decode cX5_becomes 4 = .ok (.iload_n 1, 1) := by decide +kernel
theorem dX5_becomes_5 : decode cX5_becomes 5 = .ok (.iaload, 1) := by decide +kernel
theorem dX5_becomes_6 : decode cX5_becomes 6 = .ok (.istore_n 3, 1) := by decide +kernel
theorem dX5_becomes_7 : decode cX5_becomes 7 = .ok (.aload_n 0, 1) := by decide +kernel
theorem dX5_becomes_8 : decode cX5_becomes 8 = .ok (.getfield 7, 3) := by decide +kernel
theorem dX5_becomes_11 : decode cX5_becomes 11 = .ok (.iload_n 1, 1) := by decide +kernel
theorem dX5_becomes_12 : decode cX5_becomes 12 = .ok (.iload_n 2, 1) := by decide +kernel
theorem dX5_becomes_13 : decode cX5_becomes 13 = .ok (.iastore, 1) := by decide +kernel
theorem dX5_becomes_14 : decode cX5_becomes 14 = .ok (.iload_n 3, 1) := by decide +kernel
theorem dX5_becomes_15 : decode cX5_becomes 15 = .ok (.ireturn, 1) := by decide +kernel
theorem dX5_lowOf_0 : decode cX5_lowOf 0 = .ok (.iload_n 0, 1) := by decide +kernel
theorem dX5_lowOf_1 : decode cX5_lowOf 1 = .ok (.iconst 2, 1) := by decide +kernel
theorem dX5_lowOf_2 : decode cX5_lowOf 2 = .ok (.if_icmp .ne 7, 3) := by decide +kernel
theorem dX5_lowOf_5 : decode cX5_lowOf 5 = .ok (.iconst 1, 1) := by decide +kernel
theorem dX5_lowOf_6 : decode cX5_lowOf 6 = .ok (.goto 4, 3) := by decide +kernel
theorem dX5_lowOf_9 : decode cX5_lowOf 9 = .ok (.iconst 0, 1) := by decide +kernel
theorem dX5_lowOf_10 : decode cX5_lowOf 10 = .ok (.ireturn, 1) := by decide +kernel
theorem dX5_mostOf_0 : decode cX5_mostOf 0 = .ok (.iload_n 0, 1) := by decide +kernel
theorem dX5_mostOf_1 : decode cX5_mostOf 1 = .ok (.iconst 1, 1) := by decide +kernel
theorem dX5_mostOf_2 : decode cX5_mostOf 2 = .ok (.if_icmp .ne 7, 3) := by decide +kernel
theorem dX5_mostOf_5 : decode cX5_mostOf 5 = .ok (.iconst 3, 1) := by decide +kernel
theorem dX5_mostOf_6 : decode cX5_mostOf 6 = .ok (.goto 14, 3) := by decide +kernel
theorem dX5_mostOf_9 : decode cX5_mostOf 9 = .ok (.iload_n 0, 1) := by decide +kernel
theorem dX5_mostOf_10 : decode cX5_mostOf 10 = .ok (.ifCond .ne 8, 3) := by decide +kernel
theorem dX5_mostOf_13 : decode cX5_mostOf 13 = .ok (.bipush 9, 2) := by decide +kernel
theorem dX5_mostOf_15 : decode cX5_mostOf 15 = .ok (.goto 5, 3) := by decide +kernel
theorem dX5_mostOf_18 : decode cX5_mostOf 18 = .ok (.bipush 9, 2) := by decide +kernel
