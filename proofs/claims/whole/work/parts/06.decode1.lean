theorem dX0_init_0 : decode cX0_init 0 = .ok (.aload_n 0, 1) := by decide +kernel
theorem dX0_init_1 : decode cX0_init 1 = .ok (.invokespecial 3, 3) := by decide +kernel
theorem dX0_init_4 : decode cX0_init 4 = .ok (.aload_n 0, 1) := by decide +kernel
theorem dX0_init_5 : decode cX0_init 5 = .ok (.iconst 4, 1) := by decide +kernel
theorem dX0_init_6 : decode cX0_init 6 = .ok (.anewarray 9, 3) := by decide +kernel
theorem dX0_init_9 : decode cX0_init 9 = .ok (.putfield 11, 3) := by decide +kernel
theorem dX0_init_12 : decode cX0_init 12 = .ok (.iconst 0, 1) := by decide +kernel
theorem dX0_init_13 : decode cX0_init 13 = .ok (.istore_n 1, 1) := by decide +kernel
theorem dX0_init_14 : decode cX0_init 14 = .ok (.iload_n 1, 1) := by decide +kernel
theorem dX0_init_15 : decode cX0_init 15 = .ok (.iconst 4, 1) := by decide +kernel
theorem dX0_init_16 : decode cX0_init 16 = .ok (.if_icmp .ge 22, 3) := by decide +kernel
theorem dX0_init_19 : decode cX0_init 19 = .ok (.aload_n 0, 1) := by decide +kernel
theorem dX0_init_20 : decode cX0_init 20 = .ok (.getfield 11, 3) := by decide +kernel
theorem dX0_init_23 : decode cX0_init 23 = .ok (.iload_n 1, 1) := by decide +kernel
theorem dX0_init_24 : decode cX0_init 24 = .ok (.new 9, 3) := by decide +kernel
theorem dX0_init_27 : decode cX0_init 27 = .ok (.dup, 1) := by decide +kernel
theorem dX0_init_28 : decode cX0_init 28 = .ok (.invokespecial 17, 3) := by decide +kernel
theorem dX0_init_31 : decode cX0_init 31 = .ok (.aastore, 1) := by decide +kernel
theorem dX0_init_32 : decode cX0_init 32 = .ok (.iinc 1 1, 3) := by decide +kernel
theorem dX0_init_35 : decode cX0_init 35 = .ok (.goto (-21), 3) := by decide +kernel
theorem dX0_init_38 : decode cX0_init 38 = .ok (.aload_n 0, 1) := by decide +kernel
theorem dX0_init_39 : decode cX0_init 39 = .ok (.bipush 8, 2) := by decide +kernel
theorem dX0_init_41 : decode cX0_init 41 = .ok (.newarray .int, 2) := by decide +kernel
theorem dX0_init_43 : decode cX0_init 43 = .ok (.putfield 18, 3) := by decide +kernel
theorem dX0_init_46 : decode cX0_init 46 = .ok (.aload_n 0, 1) := by decide +kernel
theorem dX0_init_47 : decode cX0_init 47 = .ok (.bipush 8, 2) := by decide +kernel
theorem dX0_init_49 : decode cX0_init 49 = .ok (.newarray .int, 2) := by decide +kernel
theorem dX0_init_51 : decode cX0_init 51 = .ok (.putfield 22, 3) := by decide +kernel
theorem dX0_init_54 : decode cX0_init 54 = .ok (.aload_n 0, 1) := by decide +kernel
theorem dX0_init_55 : decode cX0_init 55 = .ok (.bipush 8, 2) := by decide +kernel
theorem dX0_init_57 : decode cX0_init 57 = .ok (.newarray .int, 2) := by decide +kernel
theorem dX0_init_59 : decode cX0_init 59 = .ok (.putfield 25, 3) := by decide +kernel
theorem dX0_init_62 : decode cX0_init 62 = .ok (.aload_n 0, 1) := by decide +kernel
theorem dX0_init_63 : decode cX0_init 63 = .ok (.bipush 6, 2) := by decide +kernel
theorem dX0_init_65 : decode cX0_init 65 = .ok (.newarray .int, 2) := by decide +kernel
theorem dX0_init_67 : decode cX0_init 67 = .ok (.putfield 28, 3) := by decide +kernel
theorem dX0_init_70 : decode cX0_init 70 = .ok (.aload_n 0, 1) := by decide +kernel
theorem dX0_init_71 : decode cX0_init 71 = .ok (.bipush 6, 2) := by decide +kernel
theorem dX0_init_73 : decode cX0_init 73 = .ok (.newarray .int, 2) := by decide +kernel
theorem dX0_init_75 : decode cX0_init 75 = .ok (.putfield 31, 3) := by decide +kernel
theorem dX0_init_78 : decode cX0_init 78 = .ok (.aload_n 0, 1) := by decide +kernel
theorem dX0_init_79 : decode cX0_init 79 = .ok (.bipush 6, 2) := by decide +kernel
theorem dX0_init_81 : decode cX0_init 81 = .ok (.newarray .int, 2) := by decide +kernel
theorem dX0_init_83 : decode cX0_init 83 = .ok (.putfield 34, 3) := by decide +kernel
theorem dX0_init_86 : decode cX0_init 86 = .ok (.aload_n 0, 1) := by decide +kernel
theorem dX0_init_87 : decode cX0_init 87 = .ok (.iconst 1, 1) := by decide +kernel
theorem dX0_init_88 : decode cX0_init 88 = .ok (.putfield 37, 3) := by decide +kernel
theorem dX0_init_91 : decode cX0_init 91 = .ok (.return_, 1) := by decide +kernel
theorem dX0_clear_0 : decode cX0_clear 0 = .ok (.aload_n 0, 1) := by decide +kernel
theorem dX0_clear_1 : decode cX0_clear 1 = .ok (.iconst 0, 1) := by decide +kernel
theorem dX0_clear_2 : decode cX0_clear 2 = .ok (.putfield 41, 3) := by decide +kernel
theorem dX0_clear_5 : decode cX0_clear 5 = .ok (.aload_n 0, 1) := by decide +kernel
theorem dX0_clear_6 : decode cX0_clear 6 = .ok (.iconst 0, 1) := by decide +kernel
theorem dX0_clear_7 : decode cX0_clear 7 = .ok (.putfield 44, 3) := by decide +kernel
theorem dX0_clear_10 : decode cX0_clear 10 = .ok (.aload_n 0, 1) := by decide +kernel
theorem dX0_clear_11 : decode cX0_clear 11 = .ok (.iconst 1, 1) := by decide +kernel
theorem dX0_clear_12 : decode cX0_clear 12 = .ok (.putfield 37, 3) := by decide +kernel
theorem dX0_clear_15 : decode cX0_clear 15 = .ok (.aload_n 0, 1) := by decide +kernel
theorem dX0_clear_16 : decode cX0_clear 16 = .ok (.iconst 0, 1) := by decide +kernel
theorem dX0_clear_17 : decode cX0_clear 17 = .ok (.putfield 47, 3) := by decide +kernel
theorem dX0_clear_20 : decode cX0_clear 20 = .ok (.aload_n 0, 1) := by decide +kernel
theorem dX0_clear_21 : decode cX0_clear 21 = .ok (.iconst 0, 1) := by decide +kernel
theorem dX0_clear_22 : decode cX0_clear 22 = .ok (.putfield 50, 3) := by decide +kernel
theorem dX0_clear_25 : decode cX0_clear 25 = .ok (.return_, 1) := by decide +kernel
theorem dX0_copyFrom_0 : decode cX0_copyFrom 0 = .ok (.aload_n 0, 1) := by decide +kernel
theorem dX0_copyFrom_1 : decode cX0_copyFrom 1 = .ok (.aload_n 1, 1) := by decide +kernel
theorem dX0_copyFrom_2 : decode cX0_copyFrom 2 = .ok (.invokevirtual 53, 3) := by decide +kernel
theorem dX0_copyFrom_5 : decode cX0_copyFrom 5 = .ok (.iconst 0, 1) := by decide +kernel
theorem dX0_copyFrom_6 : decode cX0_copyFrom 6 = .ok (.istore_n 2, 1) := by decide +kernel
theorem dX0_copyFrom_7 : decode cX0_copyFrom 7 = .ok (.iload_n 2, 1) := by decide +kernel
theorem dX0_copyFrom_8 : decode cX0_copyFrom 8 = .ok (.bipush 8, 2) := by decide +kernel
theorem dX0_copyFrom_10 : decode cX0_copyFrom 10 = .ok (.if_icmp .ge 45, 3) := by decide +kernel
theorem dX0_copyFrom_13 : decode cX0_copyFrom 13 = .ok (.aload_n 0, 1) := by decide +kernel
theorem dX0_copyFrom_14 : decode cX0_copyFrom 14 = .ok (.getfield 18, 3) := by decide +kernel
theorem dX0_copyFrom_17 : decode cX0_copyFrom 17 = .ok (.iload_n 2, 1) := by decide +kernel
theorem dX0_copyFrom_18 : decode cX0_copyFrom 18 = .ok (.aload_n 1, 1) := by decide +kernel
theorem dX0_copyFrom_19 : decode cX0_copyFrom 19 = .ok (.getfield 18, 3) := by decide +kernel
theorem dX0_copyFrom_22 : decode cX0_copyFrom 22 = .ok (.iload_n 2, 1) := by decide +kernel
theorem dX0_copyFrom_23 : decode cX0_copyFrom 23 = .ok (.iaload, 1) := by decide +kernel
theorem dX0_copyFrom_24 : decode cX0_copyFrom 24 = .ok (.iastore, 1) := by decide +kernel
theorem dX0_copyFrom_25 : decode cX0_copyFrom 25 = .ok (.aload_n 0, 1) := by decide +kernel
theorem dX0_copyFrom_26 : decode cX0_copyFrom 26 = .ok (.getfield 22, 3) := by decide +kernel
theorem dX0_copyFrom_29 : decode cX0_copyFrom 29 = .ok (.iload_n 2, 1) := by decide +kernel
theorem dX0_copyFrom_30 : decode cX0_copyFrom 30 = .ok (.aload_n 1, 1) := by decide +kernel
theorem dX0_copyFrom_31 : decode cX0_copyFrom 31 = .ok (.getfield 22, 3) := by decide +kernel
theorem dX0_copyFrom_34 : decode cX0_copyFrom 34 = .ok (.iload_n 2, 1) := by decide +kernel
theorem dX0_copyFrom_35 : decode cX0_copyFrom 35 = .ok (.iaload, 1) := by decide +kernel
theorem dX0_copyFrom_36 : decode cX0_copyFrom 36 = .ok (.iastore, 1) := by decide +kernel
theorem dX0_copyFrom_37 : decode cX0_copyFrom 37 = .ok (.aload_n 0, 1) := by decide +kernel
theorem dX0_copyFrom_38 : decode cX0_copyFrom 38 = .ok (.getfield 25, 3) := by decide +kernel
theorem dX0_copyFrom_41 : decode cX0_copyFrom 41 = .ok (.iload_n 2, 1) := by decide +kernel
theorem dX0_copyFrom_42 : decode cX0_copyFrom 42 = .ok (.aload_n 1, 1) := by decide +kernel
theorem dX0_copyFrom_43 : decode cX0_copyFrom 43 = .ok (.getfield 25, 3) := by decide +kernel
theorem dX0_copyFrom_46 : decode cX0_copyFrom 46 = .ok (.iload_n 2, 1) := by decide +kernel
theorem dX0_copyFrom_47 : decode cX0_copyFrom 47 = .ok (.iaload, 1) := by decide +kernel
theorem dX0_copyFrom_48 : decode cX0_copyFrom 48 = .ok (.iastore, 1) := by decide +kernel
theorem dX0_copyFrom_49 : decode cX0_copyFrom 49 = .ok (.iinc 2 1, 3) := by decide +kernel
theorem dX0_copyFrom_52 : decode cX0_copyFrom 52 = .ok (.goto (-45), 3) := by decide +kernel
theorem dX0_copyFrom_55 : decode cX0_copyFrom 55 = .ok (.aload_n 0, 1) := by decide +kernel
theorem dX0_copyFrom_56 : decode cX0_copyFrom 56 = .ok (.aload_n 1, 1) := by decide +kernel
theorem dX0_copyFrom_57 : decode cX0_copyFrom 57 = .ok (.getfield 44, 3) := by decide +kernel
theorem dX0_copyFrom_60 : decode cX0_copyFrom 60 = .ok (.putfield 44, 3) := by decide +kernel
theorem dX0_copyFrom_63 : decode cX0_copyFrom 63 = .ok (.iconst 0, 1) := by decide +kernel
theorem dX0_copyFrom_64 : decode cX0_copyFrom 64 = .ok (.istore_n 2, 1) := by decide +kernel
theorem dX0_copyFrom_65 : decode cX0_copyFrom 65 = .ok (.iload_n 2, 1) := by decide +kernel
theorem dX0_copyFrom_66 : decode cX0_copyFrom 66 = .ok (.bipush 6, 2) := by decide +kernel
theorem dX0_copyFrom_68 : decode cX0_copyFrom 68 = .ok (.if_icmp .ge 45, 3) := by decide +kernel
theorem dX0_copyFrom_71 : decode cX0_copyFrom 71 = .ok (.aload_n 0, 1) := by decide +kernel
theorem dX0_copyFrom_72 : decode cX0_copyFrom 72 = .ok (.getfield 28, 3) := by decide +kernel
theorem dX0_copyFrom_75 : decode cX0_copyFrom 75 = .ok (.iload_n 2, 1) := by decide +kernel
theorem dX0_copyFrom_76 : decode cX0_copyFrom 76 = .ok (.aload_n 1, 1) := by decide +kernel
theorem dX0_copyFrom_77 : decode cX0_copyFrom 77 = .ok (.getfield 28, 3) := by decide +kernel
theorem dX0_copyFrom_80 : decode cX0_copyFrom 80 = .ok (.iload_n 2, 1) := by decide +kernel
theorem dX0_copyFrom_81 : decode cX0_copyFrom 81 = .ok (.iaload, 1) := by decide +kernel
theorem dX0_copyFrom_82 : decode cX0_copyFrom 82 = .ok (.iastore, 1) := by decide +kernel
theorem dX0_copyFrom_83 : decode cX0_copyFrom 83 = .ok (.aload_n 0, 1) := by decide +kernel
theorem dX0_copyFrom_84 : decode cX0_copyFrom 84 = .ok (.getfield 31, 3) := by decide +kernel
theorem dX0_copyFrom_87 : decode cX0_copyFrom 87 = .ok (.iload_n 2, 1) := by decide +kernel
theorem dX0_copyFrom_88 : decode cX0_copyFrom 88 = .ok (.aload_n 1, 1) := by decide +kernel
theorem dX0_copyFrom_89 : decode cX0_copyFrom 89 = .ok (.getfield 31, 3) := by decide +kernel
theorem dX0_copyFrom_92 : decode cX0_copyFrom 92 = .ok (.iload_n 2, 1) := by decide +kernel
theorem dX0_copyFrom_93 : decode cX0_copyFrom 93 = .ok (.iaload, 1) := by decide +kernel
theorem dX0_copyFrom_94 : decode cX0_copyFrom 94 = .ok (.iastore, 1) := by decide +kernel
theorem dX0_copyFrom_95 : decode cX0_copyFrom 95 = .ok (.aload_n 0, 1) := by decide +kernel
theorem dX0_copyFrom_96 : decode cX0_copyFrom 96 = .ok (.getfield 34, 3) := by decide +kernel
theorem dX0_copyFrom_99 : decode cX0_copyFrom 99 = .ok (.iload_n 2, 1) := by decide +kernel
theorem dX0_copyFrom_100 : decode cX0_copyFrom 100 = .ok (.aload_n 1, 1) := by decide +kernel
theorem dX0_copyFrom_101 : decode cX0_copyFrom 101 = .ok (.getfield 34, 3) := by decide +kernel
theorem dX0_copyFrom_104 : decode cX0_copyFrom 104 = .ok (.iload_n 2, 1) := by decide +kernel
theorem dX0_copyFrom_105 : decode cX0_copyFrom 105 = .ok (.iaload, 1) := by decide +kernel
theorem dX0_copyFrom_106 : decode cX0_copyFrom 106 = .ok (.iastore, 1) := by decide +kernel
theorem dX0_copyFrom_107 : decode cX0_copyFrom 107 = .ok (.iinc 2 1, 3) := by decide +kernel
theorem dX0_copyFrom_110 : decode cX0_copyFrom 110 = .ok (.goto (-45), 3) := by decide +kernel
theorem dX0_copyFrom_113 : decode cX0_copyFrom 113 = .ok (.aload_n 0, 1) := by decide +kernel
theorem dX0_copyFrom_114 : decode cX0_copyFrom 114 = .ok (.aload_n 1, 1) := by decide +kernel
theorem dX0_copyFrom_115 : decode cX0_copyFrom 115 = .ok (.getfield 50, 3) := by decide +kernel
theorem dX0_copyFrom_118 : decode cX0_copyFrom 118 = .ok (.putfield 50, 3) := by decide +kernel
theorem dX0_copyFrom_121 : decode cX0_copyFrom 121 = .ok (.return_, 1) := by decide +kernel
theorem dX0_copySievesFrom_0 : decode cX0_copySievesFrom 0 = .ok (.iconst 0, 1) := by decide +kernel
theorem dX0_copySievesFrom_1 : decode cX0_copySievesFrom 1 = .ok (.istore_n 2, 1) := by decide +kernel
theorem dX0_copySievesFrom_2 : decode cX0_copySievesFrom 2 = .ok (.iload_n 2, 1) := by decide +kernel
theorem dX0_copySievesFrom_3 : decode cX0_copySievesFrom 3 = .ok (.iconst 4, 1) := by decide +kernel
theorem dX0_copySievesFrom_4 : decode cX0_copySievesFrom 4 = .ok (.if_icmp .ge 24, 3) := by decide +kernel
theorem dX0_copySievesFrom_7 : decode cX0_copySievesFrom 7 = .ok (.aload_n 0, 1) := by decide +kernel
theorem dX0_copySievesFrom_8 : decode cX0_copySievesFrom 8 = .ok (.getfield 11, 3) := by decide +kernel
theorem dX0_copySievesFrom_11 : decode cX0_copySievesFrom 11 = .ok (.iload_n 2, 1) := by decide +kernel
theorem dX0_copySievesFrom_12 : decode cX0_copySievesFrom 12 = .ok (.aaload, 1) := by decide +kernel
theorem dX0_copySievesFrom_13 : decode cX0_copySievesFrom 13 = .ok (.aload_n 1, 1) := by decide +kernel
theorem dX0_copySievesFrom_14 : decode cX0_copySievesFrom 14 = .ok (.getfield 11, 3) := by decide +kernel
theorem dX0_copySievesFrom_17 : decode cX0_copySievesFrom 17 = .ok (.iload_n 2, 1) := by decide +kernel
theorem dX0_copySievesFrom_18 : decode cX0_copySievesFrom 18 = .ok (.aaload, 1) := by decide +kernel
theorem dX0_copySievesFrom_19 : decode cX0_copySievesFrom 19 = .ok (.invokevirtual 57, 3) := by decide +kernel
theorem dX0_copySievesFrom_22 : decode cX0_copySievesFrom 22 = .ok (.iinc 2 1, 3) := by decide +kernel
theorem dX0_copySievesFrom_25 : decode cX0_copySievesFrom 25 = .ok (.goto (-23), 3) := by decide +kernel
theorem dX0_copySievesFrom_28 : decode cX0_copySievesFrom 28 = .ok (.aload_n 0, 1) := by decide +kernel
theorem dX0_copySievesFrom_29 : decode cX0_copySievesFrom 29 = .ok (.aload_n 1, 1) := by decide +kernel
theorem dX0_copySievesFrom_30 : decode cX0_copySievesFrom 30 = .ok (.getfield 41, 3) := by decide +kernel
theorem dX0_copySievesFrom_33 : decode cX0_copySievesFrom 33 = .ok (.putfield 41, 3) := by decide +kernel
theorem dX0_copySievesFrom_36 : decode cX0_copySievesFrom 36 = .ok (.aload_n 0, 1) := by decide +kernel
theorem dX0_copySievesFrom_37 : decode cX0_copySievesFrom 37 = .ok (.aload_n 1, 1) := by decide +kernel
theorem dX0_copySievesFrom_38 : decode cX0_copySievesFrom 38 = .ok (.getfield 37, 3) := by decide +kernel
theorem dX0_copySievesFrom_41 : decode cX0_copySievesFrom 41 = .ok (.putfield 37, 3) := by decide +kernel
theorem dX0_copySievesFrom_44 : decode cX0_copySievesFrom 44 = .ok (.aload_n 0, 1) := by decide +kernel
theorem dX0_copySievesFrom_45 : decode cX0_copySievesFrom 45 = .ok (.aload_n 1, 1) := by decide +kernel
theorem dX0_copySievesFrom_46 : decode cX0_copySievesFrom 46 = .ok (.getfield 47, 3) := by decide +kernel
theorem dX0_copySievesFrom_49 : decode cX0_copySievesFrom 49 = .ok (.putfield 47, 3) := by decide +kernel
theorem dX0_copySievesFrom_52 : decode cX0_copySievesFrom 52 = .ok (.return_, 1) := by decide +kernel
theorem dX0_hasKey_0 : decode cX0_hasKey 0 = .ok (.iload_n 1, 1) := by decide +kernel
theorem dX0_hasKey_1 : decode cX0_hasKey 1 = .ok (.iconst 0, 1) := by decide +kernel
theorem dX0_hasKey_2 : decode cX0_hasKey 2 = .ok (.aload_n 0, 1) := by decide +kernel
theorem dX0_hasKey_3 : decode cX0_hasKey 3 = .ok (.getfield 41, 3) := by decide +kernel
theorem dX0_hasKey_6 : decode cX0_hasKey 6 = .ok (.iconst 1, 1) := by decide +kernel
theorem dX0_hasKey_7 : decode cX0_hasKey 7 = .ok (.isub, 1) := by decide +kernel
theorem dX0_hasKey_8 : decode cX0_hasKey 8 = .ok (.invokestatic 61, 3) := by decide +kernel
theorem dX0_hasKey_11 : decode cX0_hasKey 11 = .ok (.ireturn, 1) := by decide +kernel
theorem dX0_addKey_0 : decode cX0_addKey 0 = .ok (.aload_n 0, 1) := by decide +kernel
theorem dX0_addKey_1 : decode cX0_addKey 1 = .ok (.getfield 41, 3) := by decide +kernel
theorem dX0_addKey_4 : decode cX0_addKey 4 = .ok (.iconst 4, 1) := by decide +kernel
theorem dX0_addKey_5 : decode cX0_addKey 5 = .ok (.if_icmp .ge 28, 3) := by decide +kernel
theorem dX0_addKey_8 : decode cX0_addKey 8 = .ok (.aload_n 0, 1) := by decide +kernel
theorem dX0_addKey_9 : decode cX0_addKey 9 = .ok (.getfield 11, 3) := by decide +kernel
theorem dX0_addKey_12 : decode cX0_addKey 12 = .ok (.aload_n 0, 1) := by decide +kernel
theorem dX0_addKey_13 : decode cX0_addKey 13 = .ok (.getfield 41, 3) := by decide +kernel
theorem dX0_addKey_16 : decode cX0_addKey 16 = .ok (.aaload, 1) := by decide +kernel
theorem dX0_addKey_17 : decode cX0_addKey 17 = .ok (.iload_n 1, 1) := by decide +kernel
theorem dX0_addKey_18 : decode cX0_addKey 18 = .ok (.iload_n 2, 1) := by decide +kernel
theorem dX0_addKey_19 : decode cX0_addKey 19 = .ok (.iload_n 3, 1) := by decide +kernel
theorem dX0_addKey_20 : decode cX0_addKey 20 = .ok (.invokevirtual 65, 3) := by decide +kernel
theorem dX0_addKey_23 : decode cX0_addKey 23 = .ok (.aload_n 0, 1) := by decide +kernel
theorem dX0_addKey_24 : decode cX0_addKey 24 = .ok (.dup, 1) := by decide +kernel
theorem dX0_addKey_25 : decode cX0_addKey 25 = .ok (.getfield 41, 3) := by decide +kernel
theorem dX0_addKey_28 : decode cX0_addKey 28 = .ok (.iconst 1, 1) := by decide +kernel
theorem dX0_addKey_29 : decode cX0_addKey 29 = .ok (.iadd, 1) := by decide +kernel
theorem dX0_addKey_30 : decode cX0_addKey 30 = .ok (.putfield 41, 3) := by decide +kernel
theorem dX0_addKey_33 : decode cX0_addKey 33 = .ok (.return_, 1) := by decide +kernel
theorem dX0_addPress_0 : decode cX0_addPress 0 = .ok (.aload_n 0, 1) := by decide +kernel
theorem dX0_addPress_1 : decode cX0_addPress 1 = .ok (.getfield 44, 3) := by decide +kernel
theorem dX0_addPress_4 : decode cX0_addPress 4 = .ok (.bipush 8, 2) := by decide +kernel
theorem dX0_addPress_6 : decode cX0_addPress 6 = .ok (.if_icmp .ge 43, 3) := by decide +kernel
theorem dX0_addPress_9 : decode cX0_addPress 9 = .ok (.aload_n 0, 1) := by decide +kernel
theorem dX0_addPress_10 : decode cX0_addPress 10 = .ok (.getfield 18, 3) := by decide +kernel
theorem dX0_addPress_13 : decode cX0_addPress 13 = .ok (.aload_n 0, 1) := by decide +kernel
theorem dX0_addPress_14 : decode cX0_addPress 14 = .ok (.getfield 44, 3) := by decide +kernel
theorem dX0_addPress_17 : decode cX0_addPress 17 = .ok (.iload_n 1, 1) := by decide +kernel
theorem dX0_addPress_18 : decode cX0_addPress 18 = .ok (.iastore, 1) := by decide +kernel
theorem dX0_addPress_19 : decode cX0_addPress 19 = .ok (.aload_n 0, 1) := by decide +kernel
theorem dX0_addPress_20 : decode cX0_addPress 20 = .ok (.getfield 22, 3) := by decide +kernel
theorem dX0_addPress_23 : decode cX0_addPress 23 = .ok (.aload_n 0, 1) := by decide +kernel
theorem dX0_addPress_24 : decode cX0_addPress 24 = .ok (.getfield 44, 3) := by decide +kernel
theorem dX0_addPress_27 : decode cX0_addPress 27 = .ok (.iload_n 2, 1) := by decide +kernel
theorem dX0_addPress_28 : decode cX0_addPress 28 = .ok (.iastore, 1) := by decide +kernel
theorem dX0_addPress_29 : decode cX0_addPress 29 = .ok (.aload_n 0, 1) := by decide +kernel
theorem dX0_addPress_30 : decode cX0_addPress 30 = .ok (.getfield 25, 3) := by decide +kernel
theorem dX0_addPress_33 : decode cX0_addPress 33 = .ok (.aload_n 0, 1) := by decide +kernel
theorem dX0_addPress_34 : decode cX0_addPress 34 = .ok (.getfield 44, 3) := by decide +kernel
theorem dX0_addPress_37 : decode cX0_addPress 37 = .ok (.iload_n 3, 1) := by decide +kernel
theorem dX0_addPress_38 : decode cX0_addPress 38 = .ok (.iastore, 1) := by decide +kernel
theorem dX0_addPress_39 : decode cX0_addPress 39 = .ok (.aload_n 0, 1) := by decide +kernel
theorem dX0_addPress_40 : decode cX0_addPress 40 = .ok (.dup, 1) := by decide +kernel
theorem dX0_addPress_41 : decode cX0_addPress 41 = .ok (.getfield 44, 3) := by decide +kernel
theorem dX0_addPress_44 : decode cX0_addPress 44 = .ok (.iconst 1, 1) := by decide +kernel
theorem dX0_addPress_45 : decode cX0_addPress 45 = .ok (.iadd, 1) := by decide +kernel
theorem dX0_addPress_46 : decode cX0_addPress 46 = .ok (.putfield 44, 3) := by decide +kernel
theorem dX0_addPress_49 : decode cX0_addPress 49 = .ok (.return_, 1) := by decide +kernel
theorem dX0_removePress_0 : decode cX0_removePress 0 = .ok (.iload_n 1, 1) := by decide +kernel
theorem dX0_removePress_1 : decode cX0_removePress 1 = .ok (.istore_n 2, 1) := by decide +kernel
theorem dX0_removePress_2 : decode cX0_removePress 2 = .ok (.iload_n 2, 1) := by decide +kernel
theorem dX0_removePress_3 : decode cX0_removePress 3 = .ok (.iconst 1, 1) := by decide +kernel
theorem dX0_removePress_4 : decode cX0_removePress 4 = .ok (.iadd, 1) := by decide +kernel
theorem dX0_removePress_5 : decode cX0_removePress 5 = .ok (.aload_n 0, 1) := by decide +kernel
theorem dX0_removePress_6 : decode cX0_removePress 6 = .ok (.getfield 44, 3) := by decide +kernel
theorem dX0_removePress_9 : decode cX0_removePress 9 = .ok (.if_icmp .ge 51, 3) := by decide +kernel
theorem dX0_removePress_12 : decode cX0_removePress 12 = .ok (.aload_n 0, 1) := by decide +kernel
theorem dX0_removePress_13 : decode cX0_removePress 13 = .ok (.getfield 18, 3) := by decide +kernel
theorem dX0_removePress_16 : decode cX0_removePress 16 = .ok (.iload_n 2, 1) := by decide +kernel
theorem dX0_removePress_17 : decode cX0_removePress 17 = .ok (.aload_n 0, 1) := by decide +kernel
theorem dX0_removePress_18 : decode cX0_removePress 18 = .ok (.getfield 18, 3) := by decide +kernel
theorem dX0_removePress_21 : decode cX0_removePress 21 = .ok (.iload_n 2, 1) := by decide +kernel
theorem dX0_removePress_22 : decode cX0_removePress 22 = .ok (.iconst 1, 1) := by decide +kernel
theorem dX0_removePress_23 : decode cX0_removePress 23 = .ok (.iadd, 1) := by decide +kernel
theorem dX0_removePress_24 : decode cX0_removePress 24 = .ok (.iaload, 1) := by decide +kernel
theorem dX0_removePress_25 : decode cX0_removePress 25 = .ok (.iastore, 1) := by decide +kernel
theorem dX0_removePress_26 : decode cX0_removePress 26 = .ok (.aload_n 0, 1) := by decide +kernel
theorem dX0_removePress_27 : decode cX0_removePress 27 = .ok (.getfield 22, 3) := by decide +kernel
theorem dX0_removePress_30 : decode cX0_removePress 30 = .ok (.iload_n 2, 1) := by decide +kernel
theorem dX0_removePress_31 : decode cX0_removePress 31 = .ok (.aload_n 0, 1) := by decide +kernel
theorem dX0_removePress_32 : decode cX0_removePress 32 = .ok (.getfield 22, 3) := by decide +kernel
theorem dX0_removePress_35 : decode cX0_removePress 35 = .ok (.iload_n 2, 1) := by decide +kernel
theorem dX0_removePress_36 : decode cX0_removePress 36 = .ok (.iconst 1, 1) := by decide +kernel
theorem dX0_removePress_37 : decode cX0_removePress 37 = .ok (.iadd, 1) := by decide +kernel
theorem dX0_removePress_38 : decode cX0_removePress 38 = .ok (.iaload, 1) := by decide +kernel
theorem dX0_removePress_39 : decode cX0_removePress 39 = .ok (.iastore, 1) := by decide +kernel
theorem dX0_removePress_40 : decode cX0_removePress 40 = .ok (.aload_n 0, 1) := by decide +kernel
theorem dX0_removePress_41 : decode cX0_removePress 41 = .ok (.getfield 25, 3) := by decide +kernel
theorem dX0_removePress_44 : decode cX0_removePress 44 = .ok (.iload_n 2, 1) := by decide +kernel
theorem dX0_removePress_45 : decode cX0_removePress 45 = .ok (.aload_n 0, 1) := by decide +kernel
theorem dX0_removePress_46 : decode cX0_removePress 46 = .ok (.getfield 25, 3) := by decide +kernel
theorem dX0_removePress_49 : decode cX0_removePress 49 = .ok (.iload_n 2, 1) := by decide +kernel
theorem dX0_removePress_50 : decode cX0_removePress 50 = .ok (.iconst 1, 1) := by decide +kernel
theorem dX0_removePress_51 : decode cX0_removePress 51 = .ok (.iadd, 1) := by decide +kernel
theorem dX0_removePress_52 : decode cX0_removePress 52 = .ok (.iaload, 1) := by decide +kernel
theorem dX0_removePress_53 : decode cX0_removePress 53 = .ok (.iastore, 1) := by decide +kernel
theorem dX0_removePress_54 : decode cX0_removePress 54 = .ok (.iinc 2 1, 3) := by decide +kernel
theorem dX0_removePress_57 : decode cX0_removePress 57 = .ok (.goto (-55), 3) := by decide +kernel
theorem dX0_removePress_60 : decode cX0_removePress 60 = .ok (.aload_n 0, 1) := by decide +kernel
theorem dX0_removePress_61 : decode cX0_removePress 61 = .ok (.dup, 1) := by decide +kernel
theorem dX0_removePress_62 : decode cX0_removePress 62 = .ok (.getfield 44, 3) := by decide +kernel
theorem dX0_removePress_65 : decode cX0_removePress 65 = .ok (.iconst 1, 1) := by decide +kernel
theorem dX0_removePress_66 : decode cX0_removePress 66 = .ok (.isub, 1) := by decide +kernel
theorem dX0_removePress_67 : decode cX0_removePress 67 = .ok (.putfield 44, 3) := by decide +kernel
theorem dX0_removePress_70 : decode cX0_removePress 70 = .ok (.return_, 1) := by decide +kernel
theorem dX0_addSeen_0 : decode cX0_addSeen 0 = .ok (.aload_n 0, 1) := by decide +kernel
theorem dX0_addSeen_1 : decode cX0_addSeen 1 = .ok (.getfield 50, 3) := by decide +kernel
theorem dX0_addSeen_4 : decode cX0_addSeen 4 = .ok (.bipush 6, 2) := by decide +kernel
theorem dX0_addSeen_6 : decode cX0_addSeen 6 = .ok (.if_icmp .ge 43, 3) := by decide +kernel
theorem dX0_addSeen_9 : decode cX0_addSeen 9 = .ok (.aload_n 0, 1) := by decide +kernel
theorem dX0_addSeen_10 : decode cX0_addSeen 10 = .ok (.getfield 28, 3) := by decide +kernel
theorem dX0_addSeen_13 : decode cX0_addSeen 13 = .ok (.aload_n 0, 1) := by decide +kernel
theorem dX0_addSeen_14 : decode cX0_addSeen 14 = .ok (.getfield 50, 3) := by decide +kernel
theorem dX0_addSeen_17 : decode cX0_addSeen 17 = .ok (.iload_n 1, 1) := by decide +kernel
theorem dX0_addSeen_18 : decode cX0_addSeen 18 = .ok (.iastore, 1) := by decide +kernel
theorem dX0_addSeen_19 : decode cX0_addSeen 19 = .ok (.aload_n 0, 1) := by decide +kernel
theorem dX0_addSeen_20 : decode cX0_addSeen 20 = .ok (.getfield 31, 3) := by decide +kernel
theorem dX0_addSeen_23 : decode cX0_addSeen 23 = .ok (.aload_n 0, 1) := by decide +kernel
theorem dX0_addSeen_24 : decode cX0_addSeen 24 = .ok (.getfield 50, 3) := by decide +kernel
theorem dX0_addSeen_27 : decode cX0_addSeen 27 = .ok (.iload_n 2, 1) := by decide +kernel
theorem dX0_addSeen_28 : decode cX0_addSeen 28 = .ok (.iastore, 1) := by decide +kernel
theorem dX0_addSeen_29 : decode cX0_addSeen 29 = .ok (.aload_n 0, 1) := by decide +kernel
theorem dX0_addSeen_30 : decode cX0_addSeen 30 = .ok (.getfield 34, 3) := by decide +kernel
theorem dX0_addSeen_33 : decode cX0_addSeen 33 = .ok (.aload_n 0, 1) := by decide +kernel
theorem dX0_addSeen_34 : decode cX0_addSeen 34 = .ok (.getfield 50, 3) := by decide +kernel
theorem dX0_addSeen_37 : decode cX0_addSeen 37 = .ok (.iload_n 3, 1) := by decide +kernel
theorem dX0_addSeen_38 : decode cX0_addSeen 38 = .ok (.iastore, 1) := by decide +kernel
theorem dX0_addSeen_39 : decode cX0_addSeen 39 = .ok (.aload_n 0, 1) := by decide +kernel
theorem dX0_addSeen_40 : decode cX0_addSeen 40 = .ok (.dup, 1) := by decide +kernel
theorem dX0_addSeen_41 : decode cX0_addSeen 41 = .ok (.getfield 50, 3) := by decide +kernel
theorem dX0_addSeen_44 : decode cX0_addSeen 44 = .ok (.iconst 1, 1) := by decide +kernel
theorem dX0_addSeen_45 : decode cX0_addSeen 45 = .ok (.iadd, 1) := by decide +kernel
theorem dX0_addSeen_46 : decode cX0_addSeen 46 = .ok (.putfield 50, 3) := by decide +kernel
theorem dX0_addSeen_49 : decode cX0_addSeen 49 = .ok (.return_, 1) := by decide +kernel
theorem dX0_contactAt_0 : decode cX0_contactAt 0 = .ok (.aload_n 0, 1) := by decide +kernel
theorem dX0_contactAt_1 : decode cX0_contactAt 1 = .ok (.iload_n 1, 1) := by decide +kernel
theorem dX0_contactAt_2 : decode cX0_contactAt 2 = .ok (.iload_n 2, 1) := by decide +kernel
theorem dX0_contactAt_3 : decode cX0_contactAt 3 = .ok (.invokevirtual 69, 3) := by decide +kernel
theorem dX0_contactAt_6 : decode cX0_contactAt 6 = .ok (.istore_n 3, 1) := by decide +kernel
theorem dX0_contactAt_7 : decode cX0_contactAt 7 = .ok (.iload_n 3, 1) := by decide +kernel
theorem dX0_contactAt_8 : decode cX0_contactAt 8 = .ok (.ifCond .ge 5, 3) := by decide +kernel
theorem dX0_contactAt_11 : decode cX0_contactAt 11 = .ok (.iconst 0, 1) := by decide +kernel
theorem dX0_contactAt_12 : decode cX0_contactAt 12 = .ok (.ireturn, 1) := by decide +kernel
theorem dX0_contactAt_13 : decode cX0_contactAt 13 = .ok (.iload_n 2, 1) := by decide +kernel
theorem dX0_contactAt_14 : decode cX0_contactAt 14 = .ok (.aload_n 0, 1) := by decide +kernel
theorem dX0_contactAt_15 : decode cX0_contactAt 15 = .ok (.getfield 18, 3) := by decide +kernel
theorem dX0_contactAt_18 : decode cX0_contactAt 18 = .ok (.iload_n 3, 1) := by decide +kernel
theorem dX0_contactAt_19 : decode cX0_contactAt 19 = .ok (.iaload, 1) := by decide +kernel
theorem dX0_contactAt_20 : decode cX0_contactAt 20 = .ok (.isub, 1) := by decide +kernel
theorem dX0_contactAt_21 : decode cX0_contactAt 21 = .ok (.istore 4, 2) := by decide +kernel
theorem dX0_contactAt_23 : decode cX0_contactAt 23 = .ok (.iload 4, 2) := by decide +kernel
theorem dX0_contactAt_25 : decode cX0_contactAt 25 = .ok (.aload_n 0, 1) := by decide +kernel
theorem dX0_contactAt_26 : decode cX0_contactAt 26 = .ok (.getfield 11, 3) := by decide +kernel
theorem dX0_contactAt_29 : decode cX0_contactAt 29 = .ok (.iload_n 1, 1) := by decide +kernel
theorem dX0_contactAt_30 : decode cX0_contactAt 30 = .ok (.aaload, 1) := by decide +kernel
theorem dX0_contactAt_31 : decode cX0_contactAt 31 = .ok (.getfield 73, 3) := by decide +kernel
theorem dX0_contactAt_34 : decode cX0_contactAt 34 = .ok (.if_icmp .ge 15, 3) := by decide +kernel
theorem dX0_contactAt_37 : decode cX0_contactAt 37 = .ok (.iload 4, 2) := by decide +kernel
theorem dX0_contactAt_39 : decode cX0_contactAt 39 = .ok (.iconst 1, 1) := by decide +kernel
theorem dX0_contactAt_40 : decode cX0_contactAt 40 = .ok (.iand, 1) := by decide +kernel
theorem dX0_contactAt_41 : decode cX0_contactAt 41 = .ok (.iconst 1, 1) := by decide +kernel
theorem dX0_contactAt_42 : decode cX0_contactAt 42 = .ok (.if_icmp .ne 7, 3) := by decide +kernel
theorem dX0_contactAt_45 : decode cX0_contactAt 45 = .ok (.iconst 1, 1) := by decide +kernel
theorem dX0_contactAt_46 : decode cX0_contactAt 46 = .ok (.goto 4, 3) := by decide +kernel
theorem dX0_contactAt_49 : decode cX0_contactAt 49 = .ok (.iconst 0, 1) := by decide +kernel
theorem dX0_contactAt_50 : decode cX0_contactAt 50 = .ok (.istore 5, 2) := by decide +kernel
theorem dX0_contactAt_52 : decode cX0_contactAt 52 = .ok (.iload 5, 2) := by decide +kernel
theorem dX0_contactAt_54 : decode cX0_contactAt 54 = .ok (.ifCond .eq 14, 3) := by decide +kernel
theorem dX0_contactAt_57 : decode cX0_contactAt 57 = .ok (.iconst 1, 1) := by decide +kernel
theorem dX0_contactAt_58 : decode cX0_contactAt 58 = .ok (.aload_n 0, 1) := by decide +kernel
theorem dX0_contactAt_59 : decode cX0_contactAt 59 = .ok (.getfield 25, 3) := by decide +kernel
theorem dX0_contactAt_62 : decode cX0_contactAt 62 = .ok (.iload_n 3, 1) := by decide +kernel
theorem dX0_contactAt_63 : decode cX0_contactAt 63 = .ok (.iaload, 1) := by decide +kernel
theorem dX0_contactAt_64 : decode cX0_contactAt 64 = .ok (.isub, 1) := by decide +kernel
theorem dX0_contactAt_65 : decode cX0_contactAt 65 = .ok (.goto 9, 3) := by decide +kernel
theorem dX0_contactAt_68 : decode cX0_contactAt 68 = .ok (.aload_n 0, 1) := by decide +kernel
theorem dX0_contactAt_69 : decode cX0_contactAt 69 = .ok (.getfield 25, 3) := by decide +kernel
theorem dX0_contactAt_72 : decode cX0_contactAt 72 = .ok (.iload_n 3, 1) := by decide +kernel
theorem dX0_contactAt_73 : decode cX0_contactAt 73 = .ok (.iaload, 1) := by decide +kernel
theorem dX0_contactAt_74 : decode cX0_contactAt 74 = .ok (.ireturn, 1) := by decide +kernel
theorem dX0_latestPress_0 : decode cX0_latestPress 0 = .ok (.bipush (-4), 2) := by decide +kernel
theorem dX0_latestPress_2 : decode cX0_latestPress 2 = .ok (.istore_n 3, 1) := by decide +kernel
theorem dX0_latestPress_3 : decode cX0_latestPress 3 = .ok (.iconst 0, 1) := by decide +kernel
theorem dX0_latestPress_4 : decode cX0_latestPress 4 = .ok (.istore 4, 2) := by decide +kernel
theorem dX0_latestPress_6 : decode cX0_latestPress 6 = .ok (.iload 4, 2) := by decide +kernel
theorem dX0_latestPress_8 : decode cX0_latestPress 8 = .ok (.aload_n 0, 1) := by decide +kernel
theorem dX0_latestPress_9 : decode cX0_latestPress 9 = .ok (.getfield 44, 3) := by decide +kernel
theorem dX0_latestPress_12 : decode cX0_latestPress 12 = .ok (.if_icmp .ge 66, 3) := by decide +kernel
theorem dX0_latestPress_15 : decode cX0_latestPress 15 = .ok (.aload_n 0, 1) := by decide +kernel
theorem dX0_latestPress_16 : decode cX0_latestPress 16 = .ok (.getfield 22, 3) := by decide +kernel
theorem dX0_latestPress_19 : decode cX0_latestPress 19 = .ok (.iload 4, 2) := by decide +kernel
theorem dX0_latestPress_21 : decode cX0_latestPress 21 = .ok (.iaload, 1) := by decide +kernel
theorem dX0_latestPress_22 : decode cX0_latestPress 22 = .ok (.iload_n 1, 1) := by decide +kernel
theorem dX0_latestPress_23 : decode cX0_latestPress 23 = .ok (.if_icmp .ne 18, 3) := by decide +kernel
theorem dX0_latestPress_26 : decode cX0_latestPress 26 = .ok (.aload_n 0, 1) := by decide +kernel
theorem dX0_latestPress_27 : decode cX0_latestPress 27 = .ok (.getfield 18, 3) := by decide +kernel
theorem dX0_latestPress_30 : decode cX0_latestPress 30 = .ok (.iload 4, 2) := by decide +kernel
theorem dX0_latestPress_32 : decode cX0_latestPress 32 = .ok (.iaload, 1) := by decide +kernel
theorem dX0_latestPress_33 : decode cX0_latestPress 33 = .ok (.iload_n 2, 1) := by decide +kernel
theorem dX0_latestPress_34 : decode cX0_latestPress 34 = .ok (.if_icmp .gt 7, 3) := by decide +kernel
theorem dX0_latestPress_37 : decode cX0_latestPress 37 = .ok (.iconst 1, 1) := by decide +kernel
theorem dX0_latestPress_38 : decode cX0_latestPress 38 = .ok (.goto 4, 3) := by decide +kernel
theorem dX0_latestPress_41 : decode cX0_latestPress 41 = .ok (.iconst 0, 1) := by decide +kernel
theorem dX0_latestPress_42 : decode cX0_latestPress 42 = .ok (.istore 5, 2) := by decide +kernel
theorem dX0_latestPress_44 : decode cX0_latestPress 44 = .ok (.iload 5, 2) := by decide +kernel
theorem dX0_latestPress_46 : decode cX0_latestPress 46 = .ok (.ifCond .eq 26, 3) := by decide +kernel
theorem dX0_latestPress_49 : decode cX0_latestPress 49 = .ok (.iload_n 3, 1) := by decide +kernel
theorem dX0_latestPress_50 : decode cX0_latestPress 50 = .ok (.ifCond .lt 19, 3) := by decide +kernel
theorem dX0_latestPress_53 : decode cX0_latestPress 53 = .ok (.aload_n 0, 1) := by decide +kernel
theorem dX0_latestPress_54 : decode cX0_latestPress 54 = .ok (.getfield 18, 3) := by decide +kernel
theorem dX0_latestPress_57 : decode cX0_latestPress 57 = .ok (.iload 4, 2) := by decide +kernel
theorem dX0_latestPress_59 : decode cX0_latestPress 59 = .ok (.iaload, 1) := by decide +kernel
theorem dX0_latestPress_60 : decode cX0_latestPress 60 = .ok (.aload_n 0, 1) := by decide +kernel
theorem dX0_latestPress_61 : decode cX0_latestPress 61 = .ok (.getfield 18, 3) := by decide +kernel
theorem dX0_latestPress_64 : decode cX0_latestPress 64 = .ok (.iload_n 3, 1) := by decide +kernel
theorem dX0_latestPress_65 : decode cX0_latestPress 65 = .ok (.iaload, 1) := by decide +kernel
theorem dX0_latestPress_66 : decode cX0_latestPress 66 = .ok (.if_icmp .lt 6, 3) := by decide +kernel
theorem dX0_latestPress_69 : decode cX0_latestPress 69 = .ok (.iload 4, 2) := by decide +kernel
theorem dX0_latestPress_71 : decode cX0_latestPress 71 = .ok (.istore_n 3, 1) := by decide +kernel
theorem dX0_latestPress_72 : decode cX0_latestPress 72 = .ok (.iinc 4 1, 3) := by decide +kernel
theorem dX0_latestPress_75 : decode cX0_latestPress 75 = .ok (.goto (-69), 3) := by decide +kernel
theorem dX0_latestPress_78 : decode cX0_latestPress 78 = .ok (.iload_n 3, 1) := by decide +kernel
theorem dX0_latestPress_79 : decode cX0_latestPress 79 = .ok (.ireturn, 1) := by decide +kernel
theorem dX0_contactBits_0 : decode cX0_contactBits 0 = .ok (.iconst 0, 1) := by decide +kernel
theorem dX0_contactBits_1 : decode cX0_contactBits 1 = .ok (.istore_n 1, 1) := by decide +kernel
theorem dX0_contactBits_2 : decode cX0_contactBits 2 = .ok (.iconst 0, 1) := by decide +kernel
theorem dX0_contactBits_3 : decode cX0_contactBits 3 = .ok (.istore_n 2, 1) := by decide +kernel
theorem dX0_contactBits_4 : decode cX0_contactBits 4 = .ok (.iload_n 2, 1) := by decide +kernel
theorem dX0_contactBits_5 : decode cX0_contactBits 5 = .ok (.aload_n 0, 1) := by decide +kernel
theorem dX0_contactBits_6 : decode cX0_contactBits 6 = .ok (.getfield 41, 3) := by decide +kernel
theorem dX0_contactBits_9 : decode cX0_contactBits 9 = .ok (.if_icmp .ge 23, 3) := by decide +kernel
theorem dX0_contactBits_12 : decode cX0_contactBits 12 = .ok (.iload_n 1, 1) := by decide +kernel
theorem dX0_contactBits_13 : decode cX0_contactBits 13 = .ok (.aload_n 0, 1) := by decide +kernel
theorem dX0_contactBits_14 : decode cX0_contactBits 14 = .ok (.iload_n 2, 1) := by decide +kernel
theorem dX0_contactBits_15 : decode cX0_contactBits 15 = .ok (.aload_n 0, 1) := by decide +kernel
theorem dX0_contactBits_16 : decode cX0_contactBits 16 = .ok (.getfield 47, 3) := by decide +kernel
theorem dX0_contactBits_19 : decode cX0_contactBits 19 = .ok (.invokevirtual 76, 3) := by decide +kernel
theorem dX0_contactBits_22 : decode cX0_contactBits 22 = .ok (.iload_n 2, 1) := by decide +kernel
theorem dX0_contactBits_23 : decode cX0_contactBits 23 = .ok (.ishl, 1) := by decide +kernel
theorem dX0_contactBits_24 : decode cX0_contactBits 24 = .ok (.ior, 1) := by decide +kernel
theorem dX0_contactBits_25 : decode cX0_contactBits 25 = .ok (.istore_n 1, 1) := by decide +kernel
theorem dX0_contactBits_26 : decode cX0_contactBits 26 = .ok (.iinc 2 1, 3) := by decide +kernel
theorem dX0_contactBits_29 : decode cX0_contactBits 29 = .ok (.goto (-25), 3) := by decide +kernel
theorem dX0_contactBits_32 : decode cX0_contactBits 32 = .ok (.iload_n 1, 1) := by decide +kernel
theorem dX0_contactBits_33 : decode cX0_contactBits 33 = .ok (.ireturn, 1) := by decide +kernel
theorem dX0_saysBits_0 : decode cX0_saysBits 0 = .ok (.iconst 0, 1) := by decide +kernel
theorem dX0_saysBits_1 : decode cX0_saysBits 1 = .ok (.istore_n 1, 1) := by decide +kernel
theorem dX0_saysBits_2 : decode cX0_saysBits 2 = .ok (.iconst 0, 1) := by decide +kernel
theorem dX0_saysBits_3 : decode cX0_saysBits 3 = .ok (.istore_n 2, 1) := by decide +kernel
theorem dX0_saysBits_4 : decode cX0_saysBits 4 = .ok (.iload_n 2, 1) := by decide +kernel
theorem dX0_saysBits_5 : decode cX0_saysBits 5 = .ok (.aload_n 0, 1) := by decide +kernel
theorem dX0_saysBits_6 : decode cX0_saysBits 6 = .ok (.getfield 41, 3) := by decide +kernel
theorem dX0_saysBits_9 : decode cX0_saysBits 9 = .ok (.if_icmp .ge 23, 3) := by decide +kernel
theorem dX0_saysBits_12 : decode cX0_saysBits 12 = .ok (.iload_n 1, 1) := by decide +kernel
theorem dX0_saysBits_13 : decode cX0_saysBits 13 = .ok (.aload_n 0, 1) := by decide +kernel
theorem dX0_saysBits_14 : decode cX0_saysBits 14 = .ok (.getfield 11, 3) := by decide +kernel
theorem dX0_saysBits_17 : decode cX0_saysBits 17 = .ok (.iload_n 2, 1) := by decide +kernel
theorem dX0_saysBits_18 : decode cX0_saysBits 18 = .ok (.aaload, 1) := by decide +kernel
theorem dX0_saysBits_19 : decode cX0_saysBits 19 = .ok (.getfield 79, 3) := by decide +kernel
theorem dX0_saysBits_22 : decode cX0_saysBits 22 = .ok (.iload_n 2, 1) := by decide +kernel
theorem dX0_saysBits_23 : decode cX0_saysBits 23 = .ok (.ishl, 1) := by decide +kernel
theorem dX0_saysBits_24 : decode cX0_saysBits 24 = .ok (.ior, 1) := by decide +kernel
theorem dX0_saysBits_25 : decode cX0_saysBits 25 = .ok (.istore_n 1, 1) := by decide +kernel
theorem dX0_saysBits_26 : decode cX0_saysBits 26 = .ok (.iinc 2 1, 3) := by decide +kernel
theorem dX0_saysBits_29 : decode cX0_saysBits 29 = .ok (.goto (-25), 3) := by decide +kernel
theorem dX0_saysBits_32 : decode cX0_saysBits 32 = .ok (.iload_n 1, 1) := by decide +kernel
theorem dX0_saysBits_33 : decode cX0_saysBits 33 = .ok (.ireturn, 1) := by decide +kernel
theorem dX0_strokesOfAll_0 : decode cX0_strokesOfAll 0 = .ok (.iconst 0, 1) := by decide +kernel
theorem dX0_strokesOfAll_1 : decode cX0_strokesOfAll 1 = .ok (.istore_n 1, 1) := by decide +kernel
theorem dX0_strokesOfAll_2 : decode cX0_strokesOfAll 2 = .ok (.iconst 0, 1) := by decide +kernel
theorem dX0_strokesOfAll_3 : decode cX0_strokesOfAll 3 = .ok (.istore_n 2, 1) := by decide +kernel
theorem dX0_strokesOfAll_4 : decode cX0_strokesOfAll 4 = .ok (.iload_n 2, 1) := by decide +kernel
theorem dX0_strokesOfAll_5 : decode cX0_strokesOfAll 5 = .ok (.aload_n 0, 1) := by decide +kernel
theorem dX0_strokesOfAll_6 : decode cX0_strokesOfAll 6 = .ok (.getfield 41, 3) := by decide +kernel
theorem dX0_strokesOfAll_9 : decode cX0_strokesOfAll 9 = .ok (.if_icmp .ge 21, 3) := by decide +kernel
theorem dX0_strokesOfAll_12 : decode cX0_strokesOfAll 12 = .ok (.iload_n 1, 1) := by decide +kernel
theorem dX0_strokesOfAll_13 : decode cX0_strokesOfAll 13 = .ok (.aload_n 0, 1) := by decide +kernel
theorem dX0_strokesOfAll_14 : decode cX0_strokesOfAll 14 = .ok (.getfield 11, 3) := by decide +kernel
theorem dX0_strokesOfAll_17 : decode cX0_strokesOfAll 17 = .ok (.iload_n 2, 1) := by decide +kernel
theorem dX0_strokesOfAll_18 : decode cX0_strokesOfAll 18 = .ok (.aaload, 1) := by decide +kernel
theorem dX0_strokesOfAll_19 : decode cX0_strokesOfAll 19 = .ok (.getfield 82, 3) := by decide +kernel
theorem dX0_strokesOfAll_22 : decode cX0_strokesOfAll 22 = .ok (.iadd, 1) := by decide +kernel
theorem dX0_strokesOfAll_23 : decode cX0_strokesOfAll 23 = .ok (.istore_n 1, 1) := by decide +kernel
theorem dX0_strokesOfAll_24 : decode cX0_strokesOfAll 24 = .ok (.iinc 2 1, 3) := by decide +kernel
theorem dX0_strokesOfAll_27 : decode cX0_strokesOfAll 27 = .ok (.goto (-23), 3) := by decide +kernel
theorem dX0_strokesOfAll_30 : decode cX0_strokesOfAll 30 = .ok (.iload_n 1, 1) := by decide +kernel
theorem dX0_strokesOfAll_31 : decode cX0_strokesOfAll 31 = .ok (.ireturn, 1) := by decide +kernel
theorem dX0_sumOfPart_0 : decode cX0_sumOfPart 0 = .ok (.iconst 0, 1) := by decide +kernel
theorem dX0_sumOfPart_1 : decode cX0_sumOfPart 1 = .ok (.istore_n 2, 1) := by decide +kernel
theorem dX0_sumOfPart_2 : decode cX0_sumOfPart 2 = .ok (.iconst 0, 1) := by decide +kernel
theorem dX0_sumOfPart_3 : decode cX0_sumOfPart 3 = .ok (.istore_n 3, 1) := by decide +kernel
theorem dX0_sumOfPart_4 : decode cX0_sumOfPart 4 = .ok (.iload_n 3, 1) := by decide +kernel
theorem dX0_sumOfPart_5 : decode cX0_sumOfPart 5 = .ok (.aload_n 0, 1) := by decide +kernel
theorem dX0_sumOfPart_6 : decode cX0_sumOfPart 6 = .ok (.getfield 41, 3) := by decide +kernel
theorem dX0_sumOfPart_9 : decode cX0_sumOfPart 9 = .ok (.if_icmp .ge 22, 3) := by decide +kernel
theorem dX0_sumOfPart_12 : decode cX0_sumOfPart 12 = .ok (.iload_n 2, 1) := by decide +kernel
theorem dX0_sumOfPart_13 : decode cX0_sumOfPart 13 = .ok (.aload_n 0, 1) := by decide +kernel
theorem dX0_sumOfPart_14 : decode cX0_sumOfPart 14 = .ok (.getfield 11, 3) := by decide +kernel
theorem dX0_sumOfPart_17 : decode cX0_sumOfPart 17 = .ok (.iload_n 3, 1) := by decide +kernel
theorem dX0_sumOfPart_18 : decode cX0_sumOfPart 18 = .ok (.aaload, 1) := by decide +kernel
theorem dX0_sumOfPart_19 : decode cX0_sumOfPart 19 = .ok (.iload_n 1, 1) := by decide +kernel
theorem dX0_sumOfPart_20 : decode cX0_sumOfPart 20 = .ok (.invokevirtual 85, 3) := by decide +kernel
theorem dX0_sumOfPart_23 : decode cX0_sumOfPart 23 = .ok (.iadd, 1) := by decide +kernel
theorem dX0_sumOfPart_24 : decode cX0_sumOfPart 24 = .ok (.istore_n 2, 1) := by decide +kernel
theorem dX0_sumOfPart_25 : decode cX0_sumOfPart 25 = .ok (.iinc 3 1, 3) := by decide +kernel
theorem dX0_sumOfPart_28 : decode cX0_sumOfPart 28 = .ok (.goto (-24), 3) := by decide +kernel
theorem dX0_sumOfPart_31 : decode cX0_sumOfPart 31 = .ok (.iload_n 2, 1) := by decide +kernel
theorem dX0_sumOfPart_32 : decode cX0_sumOfPart 32 = .ok (.ireturn, 1) := by decide +kernel
theorem dX0_startRun_0 : decode cX0_startRun 0 = .ok (.iconst 0, 1) := by decide +kernel
theorem dX0_startRun_1 : decode cX0_startRun 1 = .ok (.istore_n 1, 1) := by decide +kernel
theorem dX0_startRun_2 : decode cX0_startRun 2 = .ok (.iload_n 1, 1) := by decide +kernel
theorem dX0_startRun_3 : decode cX0_startRun 3 = .ok (.aload_n 0, 1) := by decide +kernel
theorem dX0_startRun_4 : decode cX0_startRun 4 = .ok (.getfield 41, 3) := by decide +kernel
theorem dX0_startRun_7 : decode cX0_startRun 7 = .ok (.if_icmp .ge 18, 3) := by decide +kernel
theorem dX0_startRun_10 : decode cX0_startRun 10 = .ok (.aload_n 0, 1) := by decide +kernel
theorem dX0_startRun_11 : decode cX0_startRun 11 = .ok (.getfield 11, 3) := by decide +kernel
theorem dX0_startRun_14 : decode cX0_startRun 14 = .ok (.iload_n 1, 1) := by decide +kernel
theorem dX0_startRun_15 : decode cX0_startRun 15 = .ok (.aaload, 1) := by decide +kernel
theorem dX0_startRun_16 : decode cX0_startRun 16 = .ok (.invokevirtual 89, 3) := by decide +kernel
theorem dX0_startRun_19 : decode cX0_startRun 19 = .ok (.iinc 1 1, 3) := by decide +kernel
theorem dX0_startRun_22 : decode cX0_startRun 22 = .ok (.goto (-20), 3) := by decide +kernel
theorem dX0_startRun_25 : decode cX0_startRun 25 = .ok (.return_, 1) := by decide +kernel
theorem dX0_struckInRun_0 : decode cX0_struckInRun 0 = .ok (.iconst 0, 1) := by decide +kernel
theorem dX0_struckInRun_1 : decode cX0_struckInRun 1 = .ok (.istore_n 1, 1) := by decide +kernel
theorem dX0_struckInRun_2 : decode cX0_struckInRun 2 = .ok (.iconst 0, 1) := by decide +kernel
theorem dX0_struckInRun_3 : decode cX0_struckInRun 3 = .ok (.istore_n 2, 1) := by decide +kernel
theorem dX0_struckInRun_4 : decode cX0_struckInRun 4 = .ok (.iload_n 2, 1) := by decide +kernel
theorem dX0_struckInRun_5 : decode cX0_struckInRun 5 = .ok (.aload_n 0, 1) := by decide +kernel
theorem dX0_struckInRun_6 : decode cX0_struckInRun 6 = .ok (.getfield 41, 3) := by decide +kernel
theorem dX0_struckInRun_9 : decode cX0_struckInRun 9 = .ok (.if_icmp .ge 21, 3) := by decide +kernel
theorem dX0_struckInRun_12 : decode cX0_struckInRun 12 = .ok (.iload_n 1, 1) := by decide +kernel
theorem dX0_struckInRun_13 : decode cX0_struckInRun 13 = .ok (.aload_n 0, 1) := by decide +kernel
theorem dX0_struckInRun_14 : decode cX0_struckInRun 14 = .ok (.getfield 11, 3) := by decide +kernel
theorem dX0_struckInRun_17 : decode cX0_struckInRun 17 = .ok (.iload_n 2, 1) := by decide +kernel
theorem dX0_struckInRun_18 : decode cX0_struckInRun 18 = .ok (.aaload, 1) := by decide +kernel
theorem dX0_struckInRun_19 : decode cX0_struckInRun 19 = .ok (.getfield 92, 3) := by decide +kernel
theorem dX0_struckInRun_22 : decode cX0_struckInRun 22 = .ok (.iadd, 1) := by decide +kernel
theorem dX0_struckInRun_23 : decode cX0_struckInRun 23 = .ok (.istore_n 1, 1) := by decide +kernel
theorem dX0_struckInRun_24 : decode cX0_struckInRun 24 = .ok (.iinc 2 1, 3) := by decide +kernel
theorem dX0_struckInRun_27 : decode cX0_struckInRun 27 = .ok (.goto (-23), 3) := by decide +kernel
theorem dX0_struckInRun_30 : decode cX0_struckInRun 30 = .ok (.iload_n 1, 1) := by decide +kernel
theorem dX0_struckInRun_31 : decode cX0_struckInRun 31 = .ok (.ireturn, 1) := by decide +kernel
theorem dX0_changedInRun_0 : decode cX0_changedInRun 0 = .ok (.iconst 0, 1) := by decide +kernel
theorem dX0_changedInRun_1 : decode cX0_changedInRun 1 = .ok (.istore_n 1, 1) := by decide +kernel
theorem dX0_changedInRun_2 : decode cX0_changedInRun 2 = .ok (.iconst 0, 1) := by decide +kernel
theorem dX0_changedInRun_3 : decode cX0_changedInRun 3 = .ok (.istore_n 2, 1) := by decide +kernel
theorem dX0_changedInRun_4 : decode cX0_changedInRun 4 = .ok (.iload_n 2, 1) := by decide +kernel
theorem dX0_changedInRun_5 : decode cX0_changedInRun 5 = .ok (.aload_n 0, 1) := by decide +kernel
theorem dX0_changedInRun_6 : decode cX0_changedInRun 6 = .ok (.getfield 41, 3) := by decide +kernel
theorem dX0_changedInRun_9 : decode cX0_changedInRun 9 = .ok (.if_icmp .ge 21, 3) := by decide +kernel
theorem dX0_changedInRun_12 : decode cX0_changedInRun 12 = .ok (.iload_n 1, 1) := by decide +kernel
theorem dX0_changedInRun_13 : decode cX0_changedInRun 13 = .ok (.aload_n 0, 1) := by decide +kernel
theorem dX0_changedInRun_14 : decode cX0_changedInRun 14 = .ok (.getfield 11, 3) := by decide +kernel
theorem dX0_changedInRun_17 : decode cX0_changedInRun 17 = .ok (.iload_n 2, 1) := by decide +kernel
theorem dX0_changedInRun_18 : decode cX0_changedInRun 18 = .ok (.aaload, 1) := by decide +kernel
theorem dX0_changedInRun_19 : decode cX0_changedInRun 19 = .ok (.getfield 95, 3) := by decide +kernel
theorem dX0_changedInRun_22 : decode cX0_changedInRun 22 = .ok (.iadd, 1) := by decide +kernel
theorem dX0_changedInRun_23 : decode cX0_changedInRun 23 = .ok (.istore_n 1, 1) := by decide +kernel
theorem dX0_changedInRun_24 : decode cX0_changedInRun 24 = .ok (.iinc 2 1, 3) := by decide +kernel
theorem dX0_changedInRun_27 : decode cX0_changedInRun 27 = .ok (.goto (-23), 3) := by decide +kernel
theorem dX0_changedInRun_30 : decode cX0_changedInRun 30 = .ok (.iload_n 1, 1) := by decide +kernel
theorem dX0_changedInRun_31 : decode cX0_changedInRun 31 = .ok (.ireturn, 1) := by decide +kernel
theorem dX0_tickWith_0 : decode cX0_tickWith 0 = .ok (.aload_n 0, 1) := by decide +kernel
theorem dX0_tickWith_1 : decode cX0_tickWith 1 = .ok (.getfield 37, 3) := by decide +kernel
theorem dX0_tickWith_4 : decode cX0_tickWith 4 = .ok (.ifCond .le 45, 3) := by decide +kernel
theorem dX0_tickWith_7 : decode cX0_tickWith 7 = .ok (.aload_n 0, 1) := by decide +kernel
theorem dX0_tickWith_8 : decode cX0_tickWith 8 = .ok (.getfield 47, 3) := by decide +kernel
theorem dX0_tickWith_11 : decode cX0_tickWith 11 = .ok (.aload_n 0, 1) := by decide +kernel
theorem dX0_tickWith_12 : decode cX0_tickWith 12 = .ok (.getfield 37, 3) := by decide +kernel
theorem dX0_tickWith_15 : decode cX0_tickWith 15 = .ok (.irem, 1) := by decide +kernel
theorem dX0_tickWith_16 : decode cX0_tickWith 16 = .ok (.ifCond .ne 33, 3) := by decide +kernel
theorem dX0_tickWith_19 : decode cX0_tickWith 19 = .ok (.iconst 0, 1) := by decide +kernel
theorem dX0_tickWith_20 : decode cX0_tickWith 20 = .ok (.istore_n 2, 1) := by decide +kernel
theorem dX0_tickWith_21 : decode cX0_tickWith 21 = .ok (.iload_n 2, 1) := by decide +kernel
theorem dX0_tickWith_22 : decode cX0_tickWith 22 = .ok (.aload_n 0, 1) := by decide +kernel
theorem dX0_tickWith_23 : decode cX0_tickWith 23 = .ok (.getfield 41, 3) := by decide +kernel
theorem dX0_tickWith_26 : decode cX0_tickWith 26 = .ok (.if_icmp .ge 23, 3) := by decide +kernel
theorem dX0_tickWith_29 : decode cX0_tickWith 29 = .ok (.aload_n 0, 1) := by decide +kernel
theorem dX0_tickWith_30 : decode cX0_tickWith 30 = .ok (.getfield 11, 3) := by decide +kernel
theorem dX0_tickWith_33 : decode cX0_tickWith 33 = .ok (.iload_n 2, 1) := by decide +kernel
theorem dX0_tickWith_34 : decode cX0_tickWith 34 = .ok (.aaload, 1) := by decide +kernel
theorem dX0_tickWith_35 : decode cX0_tickWith 35 = .ok (.iload_n 1, 1) := by decide +kernel
theorem dX0_tickWith_36 : decode cX0_tickWith 36 = .ok (.iload_n 2, 1) := by decide +kernel
theorem dX0_tickWith_37 : decode cX0_tickWith 37 = .ok (.ishr, 1) := by decide +kernel
theorem dX0_tickWith_38 : decode cX0_tickWith 38 = .ok (.iconst 1, 1) := by decide +kernel
theorem dX0_tickWith_39 : decode cX0_tickWith 39 = .ok (.iand, 1) := by decide +kernel
theorem dX0_tickWith_40 : decode cX0_tickWith 40 = .ok (.invokevirtual 98, 3) := by decide +kernel
theorem dX0_tickWith_43 : decode cX0_tickWith 43 = .ok (.iinc 2 1, 3) := by decide +kernel
theorem dX0_tickWith_46 : decode cX0_tickWith 46 = .ok (.goto (-25), 3) := by decide +kernel
theorem dX0_tickWith_49 : decode cX0_tickWith 49 = .ok (.aload_n 0, 1) := by decide +kernel
theorem dX0_tickWith_50 : decode cX0_tickWith 50 = .ok (.dup, 1) := by decide +kernel
theorem dX0_tickWith_51 : decode cX0_tickWith 51 = .ok (.getfield 47, 3) := by decide +kernel
theorem dX0_tickWith_54 : decode cX0_tickWith 54 = .ok (.iconst 1, 1) := by decide +kernel
theorem dX0_tickWith_55 : decode cX0_tickWith 55 = .ok (.iadd, 1) := by decide +kernel
theorem dX0_tickWith_56 : decode cX0_tickWith 56 = .ok (.putfield 47, 3) := by decide +kernel
theorem dX0_tickWith_59 : decode cX0_tickWith 59 = .ok (.return_, 1) := by decide +kernel
theorem dX0_advance_0 : decode cX0_advance 0 = .ok (.iconst 0, 1) := by decide +kernel
theorem dX0_advance_1 : decode cX0_advance 1 = .ok (.istore_n 2, 1) := by decide +kernel
theorem dX0_advance_2 : decode cX0_advance 2 = .ok (.iload_n 2, 1) := by decide +kernel
theorem dX0_advance_3 : decode cX0_advance 3 = .ok (.iload_n 1, 1) := by decide +kernel
theorem dX0_advance_4 : decode cX0_advance 4 = .ok (.if_icmp .ge 17, 3) := by decide +kernel
theorem dX0_advance_7 : decode cX0_advance 7 = .ok (.aload_n 0, 1) := by decide +kernel
theorem dX0_advance_8 : decode cX0_advance 8 = .ok (.aload_n 0, 1) := by decide +kernel
theorem dX0_advance_9 : decode cX0_advance 9 = .ok (.invokevirtual 102, 3) := by decide +kernel
theorem dX0_advance_12 : decode cX0_advance 12 = .ok (.invokevirtual 106, 3) := by decide +kernel
theorem dX0_advance_15 : decode cX0_advance 15 = .ok (.iinc 2 1, 3) := by decide +kernel
theorem dX0_advance_18 : decode cX0_advance 18 = .ok (.goto (-16), 3) := by decide +kernel
theorem dX0_advance_21 : decode cX0_advance 21 = .ok (.return_, 1) := by decide +kernel
theorem dX0_advanceCountingWrong_0 : decode cX0_advanceCountingWrong 0 = .ok (.iconst 0, 1) := by decide +kernel
theorem dX0_advanceCountingWrong_1 : decode cX0_advanceCountingWrong 1 = .ok (.istore_n 2, 1) := by decide +kernel
theorem dX0_advanceCountingWrong_2 : decode cX0_advanceCountingWrong 2 = .ok (.iconst 0, 1) := by decide +kernel
theorem dX0_advanceCountingWrong_3 : decode cX0_advanceCountingWrong 3 = .ok (.istore_n 3, 1) := by decide +kernel
theorem dX0_advanceCountingWrong_4 : decode cX0_advanceCountingWrong 4 = .ok (.iload_n 3, 1) := by decide +kernel
theorem dX0_advanceCountingWrong_5 : decode cX0_advanceCountingWrong 5 = .ok (.iload_n 1, 1) := by decide +kernel
theorem dX0_advanceCountingWrong_6 : decode cX0_advanceCountingWrong 6 = .ok (.if_icmp .ge 33, 3) := by decide +kernel
theorem dX0_advanceCountingWrong_9 : decode cX0_advanceCountingWrong 9 = .ok (.aload_n 0, 1) := by decide +kernel
theorem dX0_advanceCountingWrong_10 : decode cX0_advanceCountingWrong 10 = .ok (.invokevirtual 102, 3) := by decide +kernel
theorem dX0_advanceCountingWrong_13 : decode cX0_advanceCountingWrong 13 = .ok (.istore 4, 2) := by decide +kernel
theorem dX0_advanceCountingWrong_15 : decode cX0_advanceCountingWrong 15 = .ok (.aload_n 0, 1) := by decide +kernel
theorem dX0_advanceCountingWrong_16 : decode cX0_advanceCountingWrong 16 = .ok (.iload 4, 2) := by decide +kernel
theorem dX0_advanceCountingWrong_18 : decode cX0_advanceCountingWrong 18 = .ok (.invokevirtual 106, 3) := by decide +kernel
theorem dX0_advanceCountingWrong_21 : decode cX0_advanceCountingWrong 21 = .ok (.iload 4, 2) := by decide +kernel
theorem dX0_advanceCountingWrong_23 : decode cX0_advanceCountingWrong 23 = .ok (.aload_n 0, 1) := by decide +kernel
theorem dX0_advanceCountingWrong_24 : decode cX0_advanceCountingWrong 24 = .ok (.invokevirtual 109, 3) := by decide +kernel
theorem dX0_advanceCountingWrong_27 : decode cX0_advanceCountingWrong 27 = .ok (.if_icmp .eq 6, 3) := by decide +kernel
theorem dX0_advanceCountingWrong_30 : decode cX0_advanceCountingWrong 30 = .ok (.iinc 2 1, 3) := by decide +kernel
theorem dX0_advanceCountingWrong_33 : decode cX0_advanceCountingWrong 33 = .ok (.iinc 3 1, 3) := by decide +kernel
theorem dX0_advanceCountingWrong_36 : decode cX0_advanceCountingWrong 36 = .ok (.goto (-32), 3) := by decide +kernel
theorem dX0_advanceCountingWrong_39 : decode cX0_advanceCountingWrong 39 = .ok (.iload_n 2, 1) := by decide +kernel
theorem dX0_advanceCountingWrong_40 : decode cX0_advanceCountingWrong 40 = .ok (.ireturn, 1) := by decide +kernel
theorem dX0_dueIn_0 : decode cX0_dueIn 0 = .ok (.iconst 0, 1) := by decide +kernel
theorem dX0_dueIn_1 : decode cX0_dueIn 1 = .ok (.istore_n 2, 1) := by decide +kernel
theorem dX0_dueIn_2 : decode cX0_dueIn 2 = .ok (.iconst 0, 1) := by decide +kernel
theorem dX0_dueIn_3 : decode cX0_dueIn 3 = .ok (.istore_n 3, 1) := by decide +kernel
theorem dX0_dueIn_4 : decode cX0_dueIn 4 = .ok (.iload_n 3, 1) := by decide +kernel
theorem dX0_dueIn_5 : decode cX0_dueIn 5 = .ok (.aload_n 0, 1) := by decide +kernel
theorem dX0_dueIn_6 : decode cX0_dueIn 6 = .ok (.getfield 44, 3) := by decide +kernel
theorem dX0_dueIn_9 : decode cX0_dueIn 9 = .ok (.if_icmp .ge 46, 3) := by decide +kernel
theorem dX0_dueIn_12 : decode cX0_dueIn 12 = .ok (.aload_n 0, 1) := by decide +kernel
theorem dX0_dueIn_13 : decode cX0_dueIn 13 = .ok (.getfield 25, 3) := by decide +kernel
theorem dX0_dueIn_16 : decode cX0_dueIn 16 = .ok (.iload_n 3, 1) := by decide +kernel
theorem dX0_dueIn_17 : decode cX0_dueIn 17 = .ok (.iaload, 1) := by decide +kernel
theorem dX0_dueIn_18 : decode cX0_dueIn 18 = .ok (.iconst 1, 1) := by decide +kernel
theorem dX0_dueIn_19 : decode cX0_dueIn 19 = .ok (.if_icmp .ne 30, 3) := by decide +kernel
theorem dX0_dueIn_22 : decode cX0_dueIn 22 = .ok (.aload_n 0, 1) := by decide +kernel
theorem dX0_dueIn_23 : decode cX0_dueIn 23 = .ok (.getfield 18, 3) := by decide +kernel
theorem dX0_dueIn_26 : decode cX0_dueIn 26 = .ok (.iload_n 3, 1) := by decide +kernel
theorem dX0_dueIn_27 : decode cX0_dueIn 27 = .ok (.iaload, 1) := by decide +kernel
theorem dX0_dueIn_28 : decode cX0_dueIn 28 = .ok (.aload_n 0, 1) := by decide +kernel
theorem dX0_dueIn_29 : decode cX0_dueIn 29 = .ok (.getfield 47, 3) := by decide +kernel
theorem dX0_dueIn_32 : decode cX0_dueIn 32 = .ok (.aload_n 0, 1) := by decide +kernel
theorem dX0_dueIn_33 : decode cX0_dueIn 33 = .ok (.getfield 47, 3) := by decide +kernel
theorem dX0_dueIn_36 : decode cX0_dueIn 36 = .ok (.iload_n 1, 1) := by decide +kernel
theorem dX0_dueIn_37 : decode cX0_dueIn 37 = .ok (.iadd, 1) := by decide +kernel
theorem dX0_dueIn_38 : decode cX0_dueIn 38 = .ok (.iconst 1, 1) := by decide +kernel
theorem dX0_dueIn_39 : decode cX0_dueIn 39 = .ok (.isub, 1) := by decide +kernel
theorem dX0_dueIn_40 : decode cX0_dueIn 40 = .ok (.invokestatic 61, 3) := by decide +kernel
theorem dX0_dueIn_43 : decode cX0_dueIn 43 = .ok (.ifCond .eq 6, 3) := by decide +kernel
theorem dX0_dueIn_46 : decode cX0_dueIn 46 = .ok (.iinc 2 1, 3) := by decide +kernel
theorem dX0_dueIn_49 : decode cX0_dueIn 49 = .ok (.iinc 3 1, 3) := by decide +kernel
theorem dX0_dueIn_52 : decode cX0_dueIn 52 = .ok (.goto (-48), 3) := by decide +kernel
theorem dX0_dueIn_55 : decode cX0_dueIn 55 = .ok (.iload_n 2, 1) := by decide +kernel
theorem dX0_dueIn_56 : decode cX0_dueIn 56 = .ok (.ireturn, 1) := by decide +kernel
theorem dX0_isAsSeen_0 : decode cX0_isAsSeen 0 = .ok (.aload_n 0, 1) := by decide +kernel
theorem dX0_isAsSeen_1 : decode cX0_isAsSeen 1 = .ok (.invokevirtual 112, 3) := by decide +kernel
theorem dX0_isAsSeen_4 : decode cX0_isAsSeen 4 = .ok (.istore_n 1, 1) := by decide +kernel
theorem dX0_isAsSeen_5 : decode cX0_isAsSeen 5 = .ok (.iconst 0, 1) := by decide +kernel
theorem dX0_isAsSeen_6 : decode cX0_isAsSeen 6 = .ok (.istore_n 2, 1) := by decide +kernel
theorem dX0_isAsSeen_7 : decode cX0_isAsSeen 7 = .ok (.iload_n 2, 1) := by decide +kernel
theorem dX0_isAsSeen_8 : decode cX0_isAsSeen 8 = .ok (.iload_n 1, 1) := by decide +kernel
theorem dX0_isAsSeen_9 : decode cX0_isAsSeen 9 = .ok (.if_icmp .gt 24, 3) := by decide +kernel
theorem dX0_isAsSeen_12 : decode cX0_isAsSeen 12 = .ok (.aload_n 0, 1) := by decide +kernel
theorem dX0_isAsSeen_13 : decode cX0_isAsSeen 13 = .ok (.iload_n 2, 1) := by decide +kernel
theorem dX0_isAsSeen_14 : decode cX0_isAsSeen 14 = .ok (.invokevirtual 115, 3) := by decide +kernel
theorem dX0_isAsSeen_17 : decode cX0_isAsSeen 17 = .ok (.ifCond .ne 5, 3) := by decide +kernel
theorem dX0_isAsSeen_20 : decode cX0_isAsSeen 20 = .ok (.iconst 0, 1) := by decide +kernel
theorem dX0_isAsSeen_21 : decode cX0_isAsSeen 21 = .ok (.ireturn, 1) := by decide +kernel
theorem dX0_isAsSeen_22 : decode cX0_isAsSeen 22 = .ok (.aload_n 0, 1) := by decide +kernel
theorem dX0_isAsSeen_23 : decode cX0_isAsSeen 23 = .ok (.iconst 1, 1) := by decide +kernel
theorem dX0_isAsSeen_24 : decode cX0_isAsSeen 24 = .ok (.invokevirtual 119, 3) := by decide +kernel
theorem dX0_isAsSeen_27 : decode cX0_isAsSeen 27 = .ok (.iinc 2 1, 3) := by decide +kernel
theorem dX0_isAsSeen_30 : decode cX0_isAsSeen 30 = .ok (.goto (-23), 3) := by decide +kernel
theorem dX0_isAsSeen_33 : decode cX0_isAsSeen 33 = .ok (.iconst 1, 1) := by decide +kernel
theorem dX0_isAsSeen_34 : decode cX0_isAsSeen 34 = .ok (.ireturn, 1) := by decide +kernel
theorem dX0_lastSeenTicks_0 : decode cX0_lastSeenTicks 0 = .ok (.bipush (-4), 2) := by decide +kernel
theorem dX0_lastSeenTicks_2 : decode cX0_lastSeenTicks 2 = .ok (.istore_n 1, 1) := by decide +kernel
theorem dX0_lastSeenTicks_3 : decode cX0_lastSeenTicks 3 = .ok (.iconst 0, 1) := by decide +kernel
theorem dX0_lastSeenTicks_4 : decode cX0_lastSeenTicks 4 = .ok (.istore_n 2, 1) := by decide +kernel
theorem dX0_lastSeenTicks_5 : decode cX0_lastSeenTicks 5 = .ok (.iload_n 2, 1) := by decide +kernel
theorem dX0_lastSeenTicks_6 : decode cX0_lastSeenTicks 6 = .ok (.aload_n 0, 1) := by decide +kernel
theorem dX0_lastSeenTicks_7 : decode cX0_lastSeenTicks 7 = .ok (.getfield 50, 3) := by decide +kernel
theorem dX0_lastSeenTicks_10 : decode cX0_lastSeenTicks 10 = .ok (.if_icmp .ge 20, 3) := by decide +kernel
theorem dX0_lastSeenTicks_13 : decode cX0_lastSeenTicks 13 = .ok (.iload_n 1, 1) := by decide +kernel
theorem dX0_lastSeenTicks_14 : decode cX0_lastSeenTicks 14 = .ok (.aload_n 0, 1) := by decide +kernel
theorem dX0_lastSeenTicks_15 : decode cX0_lastSeenTicks 15 = .ok (.getfield 28, 3) := by decide +kernel
theorem dX0_lastSeenTicks_18 : decode cX0_lastSeenTicks 18 = .ok (.iload_n 2, 1) := by decide +kernel
theorem dX0_lastSeenTicks_19 : decode cX0_lastSeenTicks 19 = .ok (.iaload, 1) := by decide +kernel
theorem dX0_lastSeenTicks_20 : decode cX0_lastSeenTicks 20 = .ok (.invokestatic 122, 3) := by decide +kernel
theorem dX0_lastSeenTicks_23 : decode cX0_lastSeenTicks 23 = .ok (.istore_n 1, 1) := by decide +kernel
theorem dX0_lastSeenTicks_24 : decode cX0_lastSeenTicks 24 = .ok (.iinc 2 1, 3) := by decide +kernel
theorem dX0_lastSeenTicks_27 : decode cX0_lastSeenTicks 27 = .ok (.goto (-22), 3) := by decide +kernel
theorem dX0_lastSeenTicks_30 : decode cX0_lastSeenTicks 30 = .ok (.iload_n 1, 1) := by decide +kernel
theorem dX0_lastSeenTicks_31 : decode cX0_lastSeenTicks 31 = .ok (.ireturn, 1) := by decide +kernel
theorem dX0_saysAsSeenBehind_0 : decode cX0_saysAsSeenBehind 0 = .ok (.iconst 0, 1) := by decide +kernel
theorem dX0_saysAsSeenBehind_1 : decode cX0_saysAsSeenBehind 1 = .ok (.istore_n 2, 1) := by decide +kernel
theorem dX0_saysAsSeenBehind_2 : decode cX0_saysAsSeenBehind 2 = .ok (.iload_n 2, 1) := by decide +kernel
theorem dX0_saysAsSeenBehind_3 : decode cX0_saysAsSeenBehind 3 = .ok (.aload_n 0, 1) := by decide +kernel
theorem dX0_saysAsSeenBehind_4 : decode cX0_saysAsSeenBehind 4 = .ok (.getfield 50, 3) := by decide +kernel
theorem dX0_saysAsSeenBehind_7 : decode cX0_saysAsSeenBehind 7 = .ok (.if_icmp .ge 54, 3) := by decide +kernel
theorem dX0_saysAsSeenBehind_10 : decode cX0_saysAsSeenBehind 10 = .ok (.aload_n 0, 1) := by decide +kernel
theorem dX0_saysAsSeenBehind_11 : decode cX0_saysAsSeenBehind 11 = .ok (.getfield 31, 3) := by decide +kernel
theorem dX0_saysAsSeenBehind_14 : decode cX0_saysAsSeenBehind 14 = .ok (.iload_n 2, 1) := by decide +kernel
theorem dX0_saysAsSeenBehind_15 : decode cX0_saysAsSeenBehind 15 = .ok (.iaload, 1) := by decide +kernel
theorem dX0_saysAsSeenBehind_16 : decode cX0_saysAsSeenBehind 16 = .ok (.istore_n 3, 1) := by decide +kernel
theorem dX0_saysAsSeenBehind_17 : decode cX0_saysAsSeenBehind 17 = .ok (.aload_n 0, 1) := by decide +kernel
theorem dX0_saysAsSeenBehind_18 : decode cX0_saysAsSeenBehind 18 = .ok (.getfield 28, 3) := by decide +kernel
theorem dX0_saysAsSeenBehind_21 : decode cX0_saysAsSeenBehind 21 = .ok (.iload_n 2, 1) := by decide +kernel
theorem dX0_saysAsSeenBehind_22 : decode cX0_saysAsSeenBehind 22 = .ok (.iaload, 1) := by decide +kernel
theorem dX0_saysAsSeenBehind_23 : decode cX0_saysAsSeenBehind 23 = .ok (.iload_n 1, 1) := by decide +kernel
theorem dX0_saysAsSeenBehind_24 : decode cX0_saysAsSeenBehind 24 = .ok (.if_icmp .ne 31, 3) := by decide +kernel
theorem dX0_saysAsSeenBehind_27 : decode cX0_saysAsSeenBehind 27 = .ok (.aload_n 0, 1) := by decide +kernel
theorem dX0_saysAsSeenBehind_28 : decode cX0_saysAsSeenBehind 28 = .ok (.iload_n 3, 1) := by decide +kernel
theorem dX0_saysAsSeenBehind_29 : decode cX0_saysAsSeenBehind 29 = .ok (.invokevirtual 127, 3) := by decide +kernel
theorem dX0_saysAsSeenBehind_32 : decode cX0_saysAsSeenBehind 32 = .ok (.ifCond .eq 23, 3) := by decide +kernel
theorem dX0_saysAsSeenBehind_35 : decode cX0_saysAsSeenBehind 35 = .ok (.aload_n 0, 1) := by decide +kernel
theorem dX0_saysAsSeenBehind_36 : decode cX0_saysAsSeenBehind 36 = .ok (.getfield 11, 3) := by decide +kernel
theorem dX0_saysAsSeenBehind_39 : decode cX0_saysAsSeenBehind 39 = .ok (.iload_n 3, 1) := by decide +kernel
theorem dX0_saysAsSeenBehind_40 : decode cX0_saysAsSeenBehind 40 = .ok (.aaload, 1) := by decide +kernel
theorem dX0_saysAsSeenBehind_41 : decode cX0_saysAsSeenBehind 41 = .ok (.getfield 79, 3) := by decide +kernel
theorem dX0_saysAsSeenBehind_44 : decode cX0_saysAsSeenBehind 44 = .ok (.aload_n 0, 1) := by decide +kernel
theorem dX0_saysAsSeenBehind_45 : decode cX0_saysAsSeenBehind 45 = .ok (.getfield 34, 3) := by decide +kernel
theorem dX0_saysAsSeenBehind_48 : decode cX0_saysAsSeenBehind 48 = .ok (.iload_n 2, 1) := by decide +kernel
theorem dX0_saysAsSeenBehind_49 : decode cX0_saysAsSeenBehind 49 = .ok (.iaload, 1) := by decide +kernel
theorem dX0_saysAsSeenBehind_50 : decode cX0_saysAsSeenBehind 50 = .ok (.if_icmp .eq 5, 3) := by decide +kernel
theorem dX0_saysAsSeenBehind_53 : decode cX0_saysAsSeenBehind 53 = .ok (.iconst 0, 1) := by decide +kernel
theorem dX0_saysAsSeenBehind_54 : decode cX0_saysAsSeenBehind 54 = .ok (.ireturn, 1) := by decide +kernel
theorem dX0_saysAsSeenBehind_55 : decode cX0_saysAsSeenBehind 55 = .ok (.iinc 2 1, 3) := by decide +kernel
theorem dX0_saysAsSeenBehind_58 : decode cX0_saysAsSeenBehind 58 = .ok (.goto (-56), 3) := by decide +kernel
theorem dX0_saysAsSeenBehind_61 : decode cX0_saysAsSeenBehind 61 = .ok (.iconst 1, 1) := by decide +kernel
theorem dX0_saysAsSeenBehind_62 : decode cX0_saysAsSeenBehind 62 = .ok (.ireturn, 1) := by decide +kernel
theorem dX0_hasPressOfNoKey_0 : decode cX0_hasPressOfNoKey 0 = .ok (.iconst 0, 1) := by decide +kernel
theorem dX0_hasPressOfNoKey_1 : decode cX0_hasPressOfNoKey 1 = .ok (.istore_n 1, 1) := by decide +kernel
theorem dX0_hasPressOfNoKey_2 : decode cX0_hasPressOfNoKey 2 = .ok (.iload_n 1, 1) := by decide +kernel
theorem dX0_hasPressOfNoKey_3 : decode cX0_hasPressOfNoKey 3 = .ok (.aload_n 0, 1) := by decide +kernel
theorem dX0_hasPressOfNoKey_4 : decode cX0_hasPressOfNoKey 4 = .ok (.getfield 44, 3) := by decide +kernel
theorem dX0_hasPressOfNoKey_7 : decode cX0_hasPressOfNoKey 7 = .ok (.if_icmp .ge 24, 3) := by decide +kernel
theorem dX0_hasPressOfNoKey_10 : decode cX0_hasPressOfNoKey 10 = .ok (.aload_n 0, 1) := by decide +kernel
theorem dX0_hasPressOfNoKey_11 : decode cX0_hasPressOfNoKey 11 = .ok (.aload_n 0, 1) := by decide +kernel
theorem dX0_hasPressOfNoKey_12 : decode cX0_hasPressOfNoKey 12 = .ok (.getfield 22, 3) := by decide +kernel
theorem dX0_hasPressOfNoKey_15 : decode cX0_hasPressOfNoKey 15 = .ok (.iload_n 1, 1) := by decide +kernel
theorem dX0_hasPressOfNoKey_16 : decode cX0_hasPressOfNoKey 16 = .ok (.iaload, 1) := by decide +kernel
theorem dX0_hasPressOfNoKey_17 : decode cX0_hasPressOfNoKey 17 = .ok (.invokevirtual 127, 3) := by decide +kernel
theorem dX0_hasPressOfNoKey_20 : decode cX0_hasPressOfNoKey 20 = .ok (.ifCond .ne 5, 3) := by decide +kernel
theorem dX0_hasPressOfNoKey_23 : decode cX0_hasPressOfNoKey 23 = .ok (.iconst 1, 1) := by decide +kernel
theorem dX0_hasPressOfNoKey_24 : decode cX0_hasPressOfNoKey 24 = .ok (.ireturn, 1) := by decide +kernel
theorem dX0_hasPressOfNoKey_25 : decode cX0_hasPressOfNoKey 25 = .ok (.iinc 1 1, 3) := by decide +kernel
theorem dX0_hasPressOfNoKey_28 : decode cX0_hasPressOfNoKey 28 = .ok (.goto (-26), 3) := by decide +kernel
theorem dX0_hasPressOfNoKey_31 : decode cX0_hasPressOfNoKey 31 = .ok (.iconst 0, 1) := by decide +kernel
theorem dX0_hasPressOfNoKey_32 : decode cX0_hasPressOfNoKey 32 = .ok (.ireturn, 1) := by decide +kernel
theorem dX1_init_0 : decode cX1_init 0 = .ok (.aload_n 0, 1) := by decide +kernel
theorem dX1_init_1 : decode cX1_init 1 = .ok (.invokespecial 3, 3) := by decide +kernel
theorem dX1_init_4 : decode cX1_init 4 = .ok (.return_, 1) := by decide +kernel
theorem dX1_begin_0 : decode cX1_begin 0 = .ok (.aload_n 0, 1) := by decide +kernel
theorem dX1_begin_1 : decode cX1_begin 1 = .ok (.iload_n 2, 1) := by decide +kernel
theorem dX1_begin_2 : decode cX1_begin 2 = .ok (.putfield 9, 3) := by decide +kernel
theorem dX1_begin_5 : decode cX1_begin 5 = .ok (.aload_n 0, 1) := by decide +kernel
theorem dX1_begin_6 : decode cX1_begin 6 = .ok (.iload_n 1, 1) := by decide +kernel
theorem dX1_begin_7 : decode cX1_begin 7 = .ok (.putfield 15, 3) := by decide +kernel
theorem dX1_begin_10 : decode cX1_begin 10 = .ok (.aload_n 0, 1) := by decide +kernel
theorem dX1_begin_11 : decode cX1_begin 11 = .ok (.iload_n 3, 1) := by decide +kernel
theorem dX1_begin_12 : decode cX1_begin 12 = .ok (.putfield 18, 3) := by decide +kernel
theorem dX1_begin_15 : decode cX1_begin 15 = .ok (.aload_n 0, 1) := by decide +kernel
theorem dX1_begin_16 : decode cX1_begin 16 = .ok (.iconst 0, 1) := by decide +kernel
theorem dX1_begin_17 : decode cX1_begin 17 = .ok (.putfield 21, 3) := by decide +kernel
theorem dX1_begin_20 : decode cX1_begin 20 = .ok (.aload_n 0, 1) := by decide +kernel
theorem dX1_begin_21 : decode cX1_begin 21 = .ok (.iconst 0, 1) := by decide +kernel
theorem dX1_begin_22 : decode cX1_begin 22 = .ok (.putfield 24, 3) := by decide +kernel
theorem dX1_begin_25 : decode cX1_begin 25 = .ok (.aload_n 0, 1) := by decide +kernel
theorem dX1_begin_26 : decode cX1_begin 26 = .ok (.iconst 0, 1) := by decide +kernel
theorem dX1_begin_27 : decode cX1_begin 27 = .ok (.putfield 27, 3) := by decide +kernel
theorem dX1_begin_30 : decode cX1_begin 30 = .ok (.aload_n 0, 1) := by decide +kernel
theorem dX1_begin_31 : decode cX1_begin 31 = .ok (.iconst 0, 1) := by decide +kernel
theorem dX1_begin_32 : decode cX1_begin 32 = .ok (.putfield 30, 3) := by decide +kernel
theorem dX1_begin_35 : decode cX1_begin 35 = .ok (.aload_n 0, 1) := by decide +kernel
theorem dX1_begin_36 : decode cX1_begin 36 = .ok (.invokevirtual 33, 3) := by decide +kernel
theorem dX1_begin_39 : decode cX1_begin 39 = .ok (.return_, 1) := by decide +kernel
theorem dX1_startRun_0 : decode cX1_startRun 0 = .ok (.aload_n 0, 1) := by decide +kernel
theorem dX1_startRun_1 : decode cX1_startRun 1 = .ok (.iconst 0, 1) := by decide +kernel
theorem dX1_startRun_2 : decode cX1_startRun 2 = .ok (.putfield 36, 3) := by decide +kernel
theorem dX1_startRun_5 : decode cX1_startRun 5 = .ok (.aload_n 0, 1) := by decide +kernel
theorem dX1_startRun_6 : decode cX1_startRun 6 = .ok (.iconst 0, 1) := by decide +kernel
theorem dX1_startRun_7 : decode cX1_startRun 7 = .ok (.putfield 39, 3) := by decide +kernel
theorem dX1_startRun_10 : decode cX1_startRun 10 = .ok (.return_, 1) := by decide +kernel
theorem dX1_copyFrom_0 : decode cX1_copyFrom 0 = .ok (.aload_n 0, 1) := by decide +kernel
theorem dX1_copyFrom_1 : decode cX1_copyFrom 1 = .ok (.aload_n 1, 1) := by decide +kernel
theorem dX1_copyFrom_2 : decode cX1_copyFrom 2 = .ok (.getfield 9, 3) := by decide +kernel
theorem dX1_copyFrom_5 : decode cX1_copyFrom 5 = .ok (.putfield 9, 3) := by decide +kernel
theorem dX1_copyFrom_8 : decode cX1_copyFrom 8 = .ok (.aload_n 0, 1) := by decide +kernel
theorem dX1_copyFrom_9 : decode cX1_copyFrom 9 = .ok (.aload_n 1, 1) := by decide +kernel
theorem dX1_copyFrom_10 : decode cX1_copyFrom 10 = .ok (.getfield 15, 3) := by decide +kernel
theorem dX1_copyFrom_13 : decode cX1_copyFrom 13 = .ok (.putfield 15, 3) := by decide +kernel
theorem dX1_copyFrom_16 : decode cX1_copyFrom 16 = .ok (.aload_n 0, 1) := by decide +kernel
theorem dX1_copyFrom_17 : decode cX1_copyFrom 17 = .ok (.aload_n 1, 1) := by decide +kernel
theorem dX1_copyFrom_18 : decode cX1_copyFrom 18 = .ok (.getfield 18, 3) := by decide +kernel
theorem dX1_copyFrom_21 : decode cX1_copyFrom 21 = .ok (.putfield 18, 3) := by decide +kernel
theorem dX1_copyFrom_24 : decode cX1_copyFrom 24 = .ok (.aload_n 0, 1) := by decide +kernel
theorem dX1_copyFrom_25 : decode cX1_copyFrom 25 = .ok (.aload_n 1, 1) := by decide +kernel
theorem dX1_copyFrom_26 : decode cX1_copyFrom 26 = .ok (.getfield 21, 3) := by decide +kernel
theorem dX1_copyFrom_29 : decode cX1_copyFrom 29 = .ok (.putfield 21, 3) := by decide +kernel
theorem dX1_copyFrom_32 : decode cX1_copyFrom 32 = .ok (.aload_n 0, 1) := by decide +kernel
theorem dX1_copyFrom_33 : decode cX1_copyFrom 33 = .ok (.aload_n 1, 1) := by decide +kernel
theorem dX1_copyFrom_34 : decode cX1_copyFrom 34 = .ok (.getfield 24, 3) := by decide +kernel
theorem dX1_copyFrom_37 : decode cX1_copyFrom 37 = .ok (.putfield 24, 3) := by decide +kernel
theorem dX1_copyFrom_40 : decode cX1_copyFrom 40 = .ok (.aload_n 0, 1) := by decide +kernel
theorem dX1_copyFrom_41 : decode cX1_copyFrom 41 = .ok (.aload_n 1, 1) := by decide +kernel
theorem dX1_copyFrom_42 : decode cX1_copyFrom 42 = .ok (.getfield 27, 3) := by decide +kernel
theorem dX1_copyFrom_45 : decode cX1_copyFrom 45 = .ok (.putfield 27, 3) := by decide +kernel
theorem dX1_copyFrom_48 : decode cX1_copyFrom 48 = .ok (.aload_n 0, 1) := by decide +kernel
theorem dX1_copyFrom_49 : decode cX1_copyFrom 49 = .ok (.aload_n 1, 1) := by decide +kernel
theorem dX1_copyFrom_50 : decode cX1_copyFrom 50 = .ok (.getfield 30, 3) := by decide +kernel
theorem dX1_copyFrom_53 : decode cX1_copyFrom 53 = .ok (.putfield 30, 3) := by decide +kernel
theorem dX1_copyFrom_56 : decode cX1_copyFrom 56 = .ok (.return_, 1) := by decide +kernel
theorem dX1_mayBe_0 : decode cX1_mayBe 0 = .ok (.iload_n 0, 1) := by decide +kernel
theorem dX1_mayBe_1 : decode cX1_mayBe 1 = .ok (.tableswitch 50 0 2 #[27, 35, 42], 27) := by decide +kernel
theorem dX1_mayBe_28 : decode cX1_mayBe 28 = .ok (.iload_n 1, 1) := by decide +kernel
theorem dX1_mayBe_29 : decode cX1_mayBe 29 = .ok (.iconst 0, 1) := by decide +kernel
theorem dX1_mayBe_30 : decode cX1_mayBe 30 = .ok (.bipush 9, 2) := by decide +kernel
theorem dX1_mayBe_32 : decode cX1_mayBe 32 = .ok (.invokestatic 42, 3) := by decide +kernel
theorem dX1_mayBe_35 : decode cX1_mayBe 35 = .ok (.ireturn, 1) := by decide +kernel
theorem dX1_mayBe_36 : decode cX1_mayBe 36 = .ok (.iload_n 1, 1) := by decide +kernel
theorem dX1_mayBe_37 : decode cX1_mayBe 37 = .ok (.iconst 0, 1) := by decide +kernel
theorem dX1_mayBe_38 : decode cX1_mayBe 38 = .ok (.iconst 3, 1) := by decide +kernel
theorem dX1_mayBe_39 : decode cX1_mayBe 39 = .ok (.invokestatic 42, 3) := by decide +kernel
theorem dX1_mayBe_42 : decode cX1_mayBe 42 = .ok (.ireturn, 1) := by decide +kernel
theorem dX1_mayBe_43 : decode cX1_mayBe 43 = .ok (.iload_n 1, 1) := by decide +kernel
theorem dX1_mayBe_44 : decode cX1_mayBe 44 = .ok (.iconst 1, 1) := by decide +kernel
theorem dX1_mayBe_45 : decode cX1_mayBe 45 = .ok (.bipush 9, 2) := by decide +kernel
theorem dX1_mayBe_47 : decode cX1_mayBe 47 = .ok (.invokestatic 42, 3) := by decide +kernel
theorem dX1_mayBe_50 : decode cX1_mayBe 50 = .ok (.ireturn, 1) := by decide +kernel
theorem dX1_mayBe_51 : decode cX1_mayBe 51 = .ok (.iconst 0, 1) := by decide +kernel
theorem dX1_mayBe_52 : decode cX1_mayBe 52 = .ok (.ireturn, 1) := by decide +kernel
theorem dX1_part_0 : decode cX1_part 0 = .ok (.iload_n 1, 1) := by decide +kernel
theorem dX1_part_1 : decode cX1_part 1 = .ok (.lookupswitch 37 #[(0, 27), (1, 32)], 27) := by decide +kernel
theorem dX1_part_28 : decode cX1_part 28 = .ok (.aload_n 0, 1) := by decide +kernel
theorem dX1_part_29 : decode cX1_part 29 = .ok (.getfield 9, 3) := by decide +kernel
theorem dX1_part_32 : decode cX1_part 32 = .ok (.ireturn, 1) := by decide +kernel
theorem dX1_part_33 : decode cX1_part 33 = .ok (.aload_n 0, 1) := by decide +kernel
theorem dX1_part_34 : decode cX1_part 34 = .ok (.getfield 15, 3) := by decide +kernel
theorem dX1_part_37 : decode cX1_part 37 = .ok (.ireturn, 1) := by decide +kernel
theorem dX1_part_38 : decode cX1_part 38 = .ok (.aload_n 0, 1) := by decide +kernel
theorem dX1_part_39 : decode cX1_part 39 = .ok (.getfield 18, 3) := by decide +kernel
theorem dX1_part_42 : decode cX1_part 42 = .ok (.ireturn, 1) := by decide +kernel
theorem dX1_become_0 : decode cX1_become 0 = .ok (.iload_n 1, 1) := by decide +kernel
theorem dX1_become_1 : decode cX1_become 1 = .ok (.lookupswitch 43 #[(0, 27), (1, 35)], 27) := by decide +kernel
theorem dX1_become_28 : decode cX1_become 28 = .ok (.aload_n 0, 1) := by decide +kernel
theorem dX1_become_29 : decode cX1_become 29 = .ok (.iload_n 2, 1) := by decide +kernel
theorem dX1_become_30 : decode cX1_become 30 = .ok (.putfield 9, 3) := by decide +kernel
theorem dX1_become_33 : decode cX1_become 33 = .ok (.goto 16, 3) := by decide +kernel
theorem dX1_become_36 : decode cX1_become 36 = .ok (.aload_n 0, 1) := by decide +kernel
theorem dX1_become_37 : decode cX1_become 37 = .ok (.iload_n 2, 1) := by decide +kernel
theorem dX1_become_38 : decode cX1_become 38 = .ok (.putfield 15, 3) := by decide +kernel
theorem dX1_become_41 : decode cX1_become 41 = .ok (.goto 8, 3) := by decide +kernel
theorem dX1_become_44 : decode cX1_become 44 = .ok (.aload_n 0, 1) := by decide +kernel
theorem dX1_become_45 : decode cX1_become 45 = .ok (.iload_n 2, 1) := by decide +kernel
theorem dX1_become_46 : decode cX1_become 46 = .ok (.putfield 18, 3) := by decide +kernel
theorem dX1_become_49 : decode cX1_become 49 = .ok (.aload_n 0, 1) := by decide +kernel
theorem dX1_become_50 : decode cX1_become 50 = .ok (.aload_n 0, 1) := by decide +kernel
theorem dX1_become_51 : decode cX1_become 51 = .ok (.getfield 24, 3) := by decide +kernel
theorem dX1_become_54 : decode cX1_become 54 = .ok (.aload_n 0, 1) := by decide +kernel
theorem dX1_become_55 : decode cX1_become 55 = .ok (.getfield 18, 3) := by decide +kernel
theorem dX1_become_58 : decode cX1_become 58 = .ok (.invokestatic 46, 3) := by decide +kernel
theorem dX1_become_61 : decode cX1_become 61 = .ok (.putfield 24, 3) := by decide +kernel
theorem dX1_become_64 : decode cX1_become 64 = .ok (.return_, 1) := by decide +kernel
theorem dX1_look_0 : decode cX1_look 0 = .ok (.aload_n 0, 1) := by decide +kernel
theorem dX1_look_1 : decode cX1_look 1 = .ok (.getfield 27, 3) := by decide +kernel
theorem dX1_look_4 : decode cX1_look 4 = .ok (.ifCond .le 16, 3) := by decide +kernel
theorem dX1_look_7 : decode cX1_look 7 = .ok (.aload_n 0, 1) := by decide +kernel
theorem dX1_look_8 : decode cX1_look 8 = .ok (.dup, 1) := by decide +kernel
theorem dX1_look_9 : decode cX1_look 9 = .ok (.getfield 27, 3) := by decide +kernel
theorem dX1_look_12 : decode cX1_look 12 = .ok (.iconst 1, 1) := by decide +kernel
theorem dX1_look_13 : decode cX1_look 13 = .ok (.isub, 1) := by decide +kernel
theorem dX1_look_14 : decode cX1_look 14 = .ok (.putfield 27, 3) := by decide +kernel
theorem dX1_look_17 : decode cX1_look 17 = .ok (.goto 28, 3) := by decide +kernel
theorem dX1_look_20 : decode cX1_look 20 = .ok (.aload_n 0, 1) := by decide +kernel
theorem dX1_look_21 : decode cX1_look 21 = .ok (.aload_n 0, 1) := by decide +kernel
theorem dX1_look_22 : decode cX1_look 22 = .ok (.getfield 15, 3) := by decide +kernel
theorem dX1_look_25 : decode cX1_look 25 = .ok (.iconst 1, 1) := by decide +kernel
theorem dX1_look_26 : decode cX1_look 26 = .ok (.if_icmp .ne 11, 3) := by decide +kernel
theorem dX1_look_29 : decode cX1_look 29 = .ok (.aload_n 0, 1) := by decide +kernel
theorem dX1_look_30 : decode cX1_look 30 = .ok (.iload_n 1, 1) := by decide +kernel
theorem dX1_look_31 : decode cX1_look 31 = .ok (.invokevirtual 52, 3) := by decide +kernel
theorem dX1_look_34 : decode cX1_look 34 = .ok (.goto 8, 3) := by decide +kernel
theorem dX1_look_37 : decode cX1_look 37 = .ok (.aload_n 0, 1) := by decide +kernel
theorem dX1_look_38 : decode cX1_look 38 = .ok (.iload_n 1, 1) := by decide +kernel
theorem dX1_look_39 : decode cX1_look 39 = .ok (.invokevirtual 56, 3) := by decide +kernel
theorem dX1_look_42 : decode cX1_look 42 = .ok (.invokevirtual 59, 3) := by decide +kernel
theorem dX1_look_45 : decode cX1_look 45 = .ok (.return_, 1) := by decide +kernel
theorem dX1_weigh_0 : decode cX1_weigh 0 = .ok (.aload_n 0, 1) := by decide +kernel
theorem dX1_weigh_1 : decode cX1_weigh 1 = .ok (.iload_n 1, 1) := by decide +kernel
theorem dX1_weigh_2 : decode cX1_weigh 2 = .ok (.iconst 1, 1) := by decide +kernel
theorem dX1_weigh_3 : decode cX1_weigh 3 = .ok (.if_icmp .ne 19, 3) := by decide +kernel
theorem dX1_weigh_6 : decode cX1_weigh 6 = .ok (.aload_n 0, 1) := by decide +kernel
theorem dX1_weigh_7 : decode cX1_weigh 7 = .ok (.getfield 24, 3) := by decide +kernel
theorem dX1_weigh_10 : decode cX1_weigh 10 = .ok (.iconst 1, 1) := by decide +kernel
theorem dX1_weigh_11 : decode cX1_weigh 11 = .ok (.iadd, 1) := by decide +kernel
theorem dX1_weigh_12 : decode cX1_weigh 12 = .ok (.aload_n 0, 1) := by decide +kernel
theorem dX1_weigh_13 : decode cX1_weigh 13 = .ok (.getfield 18, 3) := by decide +kernel
theorem dX1_weigh_16 : decode cX1_weigh 16 = .ok (.invokestatic 46, 3) := by decide +kernel
theorem dX1_weigh_19 : decode cX1_weigh 19 = .ok (.goto 13, 3) := by decide +kernel
theorem dX1_weigh_22 : decode cX1_weigh 22 = .ok (.aload_n 0, 1) := by decide +kernel
theorem dX1_weigh_23 : decode cX1_weigh 23 = .ok (.getfield 24, 3) := by decide +kernel
theorem dX1_weigh_26 : decode cX1_weigh 26 = .ok (.iconst 1, 1) := by decide +kernel
theorem dX1_weigh_27 : decode cX1_weigh 27 = .ok (.isub, 1) := by decide +kernel
theorem dX1_weigh_28 : decode cX1_weigh 28 = .ok (.iconst 0, 1) := by decide +kernel
theorem dX1_weigh_29 : decode cX1_weigh 29 = .ok (.invokestatic 63, 3) := by decide +kernel
theorem dX1_weigh_32 : decode cX1_weigh 32 = .ok (.putfield 24, 3) := by decide +kernel
theorem dX1_weigh_35 : decode cX1_weigh 35 = .ok (.aload_n 0, 1) := by decide +kernel
theorem dX1_weigh_36 : decode cX1_weigh 36 = .ok (.getfield 24, 3) := by decide +kernel
theorem dX1_weigh_39 : decode cX1_weigh 39 = .ok (.aload_n 0, 1) := by decide +kernel
theorem dX1_weigh_40 : decode cX1_weigh 40 = .ok (.getfield 18, 3) := by decide +kernel
theorem dX1_weigh_43 : decode cX1_weigh 43 = .ok (.if_icmp .ne 5, 3) := by decide +kernel
theorem dX1_weigh_46 : decode cX1_weigh 46 = .ok (.iconst 1, 1) := by decide +kernel
theorem dX1_weigh_47 : decode cX1_weigh 47 = .ok (.ireturn, 1) := by decide +kernel
theorem dX1_weigh_48 : decode cX1_weigh 48 = .ok (.aload_n 0, 1) := by decide +kernel
theorem dX1_weigh_49 : decode cX1_weigh 49 = .ok (.getfield 24, 3) := by decide +kernel
theorem dX1_weigh_52 : decode cX1_weigh 52 = .ok (.ifCond .ne 7, 3) := by decide +kernel
theorem dX1_weigh_55 : decode cX1_weigh 55 = .ok (.iconst 0, 1) := by decide +kernel
theorem dX1_weigh_56 : decode cX1_weigh 56 = .ok (.goto 7, 3) := by decide +kernel
theorem dX1_weigh_59 : decode cX1_weigh 59 = .ok (.aload_n 0, 1) := by decide +kernel
theorem dX1_weigh_60 : decode cX1_weigh 60 = .ok (.getfield 21, 3) := by decide +kernel
theorem dX1_weigh_63 : decode cX1_weigh 63 = .ok (.ireturn, 1) := by decide +kernel
theorem dX1_compare_0 : decode cX1_compare 0 = .ok (.iload_n 1, 1) := by decide +kernel
theorem dX1_compare_1 : decode cX1_compare 1 = .ok (.aload_n 0, 1) := by decide +kernel
theorem dX1_compare_2 : decode cX1_compare 2 = .ok (.getfield 21, 3) := by decide +kernel
theorem dX1_compare_5 : decode cX1_compare 5 = .ok (.if_icmp .ne 13, 3) := by decide +kernel
theorem dX1_compare_8 : decode cX1_compare 8 = .ok (.aload_n 0, 1) := by decide +kernel
theorem dX1_compare_9 : decode cX1_compare 9 = .ok (.iconst 0, 1) := by decide +kernel
theorem dX1_compare_10 : decode cX1_compare 10 = .ok (.putfield 24, 3) := by decide +kernel
theorem dX1_compare_13 : decode cX1_compare 13 = .ok (.aload_n 0, 1) := by decide +kernel
theorem dX1_compare_14 : decode cX1_compare 14 = .ok (.getfield 21, 3) := by decide +kernel
theorem dX1_compare_17 : decode cX1_compare 17 = .ok (.ireturn, 1) := by decide +kernel
theorem dX1_compare_18 : decode cX1_compare 18 = .ok (.aload_n 0, 1) := by decide +kernel
theorem dX1_compare_19 : decode cX1_compare 19 = .ok (.dup, 1) := by decide +kernel
theorem dX1_compare_20 : decode cX1_compare 20 = .ok (.getfield 24, 3) := by decide +kernel
theorem dX1_compare_23 : decode cX1_compare 23 = .ok (.iconst 1, 1) := by decide +kernel
theorem dX1_compare_24 : decode cX1_compare 24 = .ok (.iadd, 1) := by decide +kernel
theorem dX1_compare_25 : decode cX1_compare 25 = .ok (.putfield 24, 3) := by decide +kernel
theorem dX1_compare_28 : decode cX1_compare 28 = .ok (.aload_n 0, 1) := by decide +kernel
theorem dX1_compare_29 : decode cX1_compare 29 = .ok (.getfield 15, 3) := by decide +kernel
theorem dX1_compare_32 : decode cX1_compare 32 = .ok (.iconst 2, 1) := by decide +kernel
theorem dX1_compare_33 : decode cX1_compare 33 = .ok (.if_icmp .ne 7, 3) := by decide +kernel
theorem dX1_compare_36 : decode cX1_compare 36 = .ok (.iconst 1, 1) := by decide +kernel
theorem dX1_compare_37 : decode cX1_compare 37 = .ok (.goto 7, 3) := by decide +kernel
theorem dX1_compare_40 : decode cX1_compare 40 = .ok (.aload_n 0, 1) := by decide +kernel
theorem dX1_compare_41 : decode cX1_compare 41 = .ok (.getfield 18, 3) := by decide +kernel
theorem dX1_compare_44 : decode cX1_compare 44 = .ok (.istore_n 2, 1) := by decide +kernel
theorem dX1_compare_45 : decode cX1_compare 45 = .ok (.aload_n 0, 1) := by decide +kernel
theorem dX1_compare_46 : decode cX1_compare 46 = .ok (.getfield 24, 3) := by decide +kernel
theorem dX1_compare_49 : decode cX1_compare 49 = .ok (.iload_n 2, 1) := by decide +kernel
theorem dX1_compare_50 : decode cX1_compare 50 = .ok (.if_icmp .ge 8, 3) := by decide +kernel
theorem dX1_compare_53 : decode cX1_compare 53 = .ok (.aload_n 0, 1) := by decide +kernel
theorem dX1_compare_54 : decode cX1_compare 54 = .ok (.getfield 21, 3) := by decide +kernel
theorem dX1_compare_57 : decode cX1_compare 57 = .ok (.ireturn, 1) := by decide +kernel
theorem dX1_compare_58 : decode cX1_compare 58 = .ok (.aload_n 0, 1) := by decide +kernel
theorem dX1_compare_59 : decode cX1_compare 59 = .ok (.iconst 0, 1) := by decide +kernel
theorem dX1_compare_60 : decode cX1_compare 60 = .ok (.putfield 24, 3) := by decide +kernel
theorem dX1_compare_63 : decode cX1_compare 63 = .ok (.aload_n 0, 1) := by decide +kernel
theorem dX1_compare_64 : decode cX1_compare 64 = .ok (.aload_n 0, 1) := by decide +kernel
theorem dX1_compare_65 : decode cX1_compare 65 = .ok (.getfield 15, 3) := by decide +kernel
theorem dX1_compare_68 : decode cX1_compare 68 = .ok (.ifCond .ne 7, 3) := by decide +kernel
theorem dX1_compare_71 : decode cX1_compare 71 = .ok (.iconst 0, 1) := by decide +kernel
theorem dX1_compare_72 : decode cX1_compare 72 = .ok (.goto 7, 3) := by decide +kernel
theorem dX1_compare_75 : decode cX1_compare 75 = .ok (.aload_n 0, 1) := by decide +kernel
theorem dX1_compare_76 : decode cX1_compare 76 = .ok (.getfield 18, 3) := by decide +kernel
theorem dX1_compare_79 : decode cX1_compare 79 = .ok (.putfield 27, 3) := by decide +kernel
theorem dX1_compare_82 : decode cX1_compare 82 = .ok (.iload_n 1, 1) := by decide +kernel
theorem dX1_compare_83 : decode cX1_compare 83 = .ok (.ireturn, 1) := by decide +kernel
theorem dX1_say_0 : decode cX1_say 0 = .ok (.iload_n 1, 1) := by decide +kernel
theorem dX1_say_1 : decode cX1_say 1 = .ok (.aload_n 0, 1) := by decide +kernel
theorem dX1_say_2 : decode cX1_say 2 = .ok (.getfield 21, 3) := by decide +kernel
theorem dX1_say_5 : decode cX1_say 5 = .ok (.if_icmp .ne 4, 3) := by decide +kernel
theorem dX1_say_8 : decode cX1_say 8 = .ok (.return_, 1) := by decide +kernel
theorem dX1_say_9 : decode cX1_say 9 = .ok (.aload_n 0, 1) := by decide +kernel
theorem dX1_say_10 : decode cX1_say 10 = .ok (.iload_n 1, 1) := by decide +kernel
theorem dX1_say_11 : decode cX1_say 11 = .ok (.putfield 21, 3) := by decide +kernel
theorem dX1_say_14 : decode cX1_say 14 = .ok (.aload_n 0, 1) := by decide +kernel
theorem dX1_say_15 : decode cX1_say 15 = .ok (.dup, 1) := by decide +kernel
theorem dX1_say_16 : decode cX1_say 16 = .ok (.getfield 39, 3) := by decide +kernel
theorem dX1_say_19 : decode cX1_say 19 = .ok (.iconst 1, 1) := by decide +kernel
theorem dX1_say_20 : decode cX1_say 20 = .ok (.iadd, 1) := by decide +kernel
theorem dX1_say_21 : decode cX1_say 21 = .ok (.putfield 39, 3) := by decide +kernel
theorem dX1_say_24 : decode cX1_say 24 = .ok (.iload_n 1, 1) := by decide +kernel
theorem dX1_say_25 : decode cX1_say 25 = .ok (.iconst 1, 1) := by decide +kernel
theorem dX1_say_26 : decode cX1_say 26 = .ok (.if_icmp .ne 29, 3) := by decide +kernel
theorem dX1_say_29 : decode cX1_say 29 = .ok (.aload_n 0, 1) := by decide +kernel
theorem dX1_say_30 : decode cX1_say 30 = .ok (.dup, 1) := by decide +kernel
theorem dX1_say_31 : decode cX1_say 31 = .ok (.getfield 36, 3) := by decide +kernel
theorem dX1_say_34 : decode cX1_say 34 = .ok (.iconst 1, 1) := by decide +kernel
theorem dX1_say_35 : decode cX1_say 35 = .ok (.iadd, 1) := by decide +kernel
theorem dX1_say_36 : decode cX1_say 36 = .ok (.putfield 36, 3) := by decide +kernel
theorem dX1_say_39 : decode cX1_say 39 = .ok (.aload_n 0, 1) := by decide +kernel
theorem dX1_say_40 : decode cX1_say 40 = .ok (.aload_n 0, 1) := by decide +kernel
theorem dX1_say_41 : decode cX1_say 41 = .ok (.getfield 30, 3) := by decide +kernel
theorem dX1_say_44 : decode cX1_say 44 = .ok (.iconst 1, 1) := by decide +kernel
theorem dX1_say_45 : decode cX1_say 45 = .ok (.iadd, 1) := by decide +kernel
theorem dX1_say_46 : decode cX1_say 46 = .ok (.sipush 999, 3) := by decide +kernel
theorem dX1_say_49 : decode cX1_say 49 = .ok (.invokestatic 46, 3) := by decide +kernel
theorem dX1_say_52 : decode cX1_say 52 = .ok (.putfield 30, 3) := by decide +kernel
theorem dX1_say_55 : decode cX1_say 55 = .ok (.return_, 1) := by decide +kernel
theorem dX2_init_0 : decode cX2_init 0 = .ok (.aload_n 0, 1) := by decide +kernel
theorem dX2_init_1 : decode cX2_init 1 = .ok (.invokespecial 3, 3) := by decide +kernel
theorem dX2_init_4 : decode cX2_init 4 = .ok (.aload_n 0, 1) := by decide +kernel
theorem dX2_init_5 : decode cX2_init 5 = .ok (.bipush 40, 2) := by decide +kernel
theorem dX2_init_7 : decode cX2_init 7 = .ok (.newarray .int, 2) := by decide +kernel
theorem dX2_init_9 : decode cX2_init 9 = .ok (.putfield 9, 3) := by decide +kernel
theorem dX2_init_12 : decode cX2_init 12 = .ok (.aload_n 0, 1) := by decide +kernel
theorem dX2_init_13 : decode cX2_init 13 = .ok (.iconst (-1), 1) := by decide +kernel
theorem dX2_init_14 : decode cX2_init 14 = .ok (.putfield 15, 3) := by decide +kernel
theorem dX2_init_17 : decode cX2_init 17 = .ok (.return_, 1) := by decide +kernel
theorem dX2_isLane_0 : decode cX2_isLane 0 = .ok (.iload_n 0, 1) := by decide +kernel
theorem dX2_isLane_1 : decode cX2_isLane 1 = .ok (.iconst 0, 1) := by decide +kernel
theorem dX2_isLane_2 : decode cX2_isLane 2 = .ok (.iconst 2, 1) := by decide +kernel
theorem dX2_isLane_3 : decode cX2_isLane 3 = .ok (.invokestatic 19, 3) := by decide +kernel
theorem dX2_isLane_6 : decode cX2_isLane 6 = .ok (.ireturn, 1) := by decide +kernel
theorem dX2_isNothing_0 : decode cX2_isNothing 0 = .ok (.aload_n 0, 1) := by decide +kernel
theorem dX2_isNothing_1 : decode cX2_isNothing 1 = .ok (.getfield 15, 3) := by decide +kernel
theorem dX2_isNothing_4 : decode cX2_isNothing 4 = .ok (.iconst (-1), 1) := by decide +kernel
theorem dX2_isNothing_5 : decode cX2_isNothing 5 = .ok (.if_icmp .ne 7, 3) := by decide +kernel
theorem dX2_isNothing_8 : decode cX2_isNothing 8 = .ok (.iconst 1, 1) := by decide +kernel
theorem dX2_isNothing_9 : decode cX2_isNothing 9 = .ok (.goto 4, 3) := by decide +kernel
theorem dX2_isNothing_12 : decode cX2_isNothing 12 = .ok (.iconst 0, 1) := by decide +kernel
theorem dX2_isNothing_13 : decode cX2_isNothing 13 = .ok (.ireturn, 1) := by decide +kernel
theorem dX2_renew_0 : decode cX2_renew 0 = .ok (.aload_n 0, 1) := by decide +kernel
theorem dX2_renew_1 : decode cX2_renew 1 = .ok (.iload_n 1, 1) := by decide +kernel
theorem dX2_renew_2 : decode cX2_renew 2 = .ok (.putfield 15, 3) := by decide +kernel
theorem dX2_renew_5 : decode cX2_renew 5 = .ok (.aload_n 0, 1) := by decide +kernel
theorem dX2_renew_6 : decode cX2_renew 6 = .ok (.iload_n 2, 1) := by decide +kernel
theorem dX2_renew_7 : decode cX2_renew 7 = .ok (.bipush 40, 2) := by decide +kernel
theorem dX2_renew_9 : decode cX2_renew 9 = .ok (.invokestatic 23, 3) := by decide +kernel
theorem dX2_renew_12 : decode cX2_renew 12 = .ok (.putfield 29, 3) := by decide +kernel
theorem dX2_renew_15 : decode cX2_renew 15 = .ok (.iconst 0, 1) := by decide +kernel
theorem dX2_renew_16 : decode cX2_renew 16 = .ok (.istore_n 3, 1) := by decide +kernel
theorem dX2_renew_17 : decode cX2_renew 17 = .ok (.iload_n 3, 1) := by decide +kernel
theorem dX2_renew_18 : decode cX2_renew 18 = .ok (.bipush 40, 2) := by decide +kernel
theorem dX2_renew_20 : decode cX2_renew 20 = .ok (.if_icmp .ge 16, 3) := by decide +kernel
theorem dX2_renew_23 : decode cX2_renew 23 = .ok (.aload_n 0, 1) := by decide +kernel
theorem dX2_renew_24 : decode cX2_renew 24 = .ok (.getfield 9, 3) := by decide +kernel
theorem dX2_renew_27 : decode cX2_renew 27 = .ok (.iload_n 3, 1) := by decide +kernel
theorem dX2_renew_28 : decode cX2_renew 28 = .ok (.iconst 0, 1) := by decide +kernel
theorem dX2_renew_29 : decode cX2_renew 29 = .ok (.iastore, 1) := by decide +kernel
theorem dX2_renew_30 : decode cX2_renew 30 = .ok (.iinc 3 1, 3) := by decide +kernel
theorem dX2_renew_33 : decode cX2_renew 33 = .ok (.goto (-16), 3) := by decide +kernel
theorem dX2_renew_36 : decode cX2_renew 36 = .ok (.return_, 1) := by decide +kernel
theorem dX2_faultAt_0 : decode cX2_faultAt 0 = .ok (.aload_n 0, 1) := by decide +kernel
theorem dX2_faultAt_1 : decode cX2_faultAt 1 = .ok (.invokevirtual 32, 3) := by decide +kernel
theorem dX2_faultAt_4 : decode cX2_faultAt 4 = .ok (.ifCond .eq 5, 3) := by decide +kernel
theorem dX2_faultAt_7 : decode cX2_faultAt 7 = .ok (.iconst 1, 1) := by decide +kernel
theorem dX2_faultAt_8 : decode cX2_faultAt 8 = .ok (.ireturn, 1) := by decide +kernel
theorem dX2_faultAt_9 : decode cX2_faultAt 9 = .ok (.iload_n 1, 1) := by decide +kernel
theorem dX2_faultAt_10 : decode cX2_faultAt 10 = .ok (.iconst 0, 1) := by decide +kernel
theorem dX2_faultAt_11 : decode cX2_faultAt 11 = .ok (.aload_n 0, 1) := by decide +kernel
theorem dX2_faultAt_12 : decode cX2_faultAt 12 = .ok (.getfield 29, 3) := by decide +kernel
theorem dX2_faultAt_15 : decode cX2_faultAt 15 = .ok (.iconst 1, 1) := by decide +kernel
theorem dX2_faultAt_16 : decode cX2_faultAt 16 = .ok (.isub, 1) := by decide +kernel
theorem dX2_faultAt_17 : decode cX2_faultAt 17 = .ok (.invokestatic 19, 3) := by decide +kernel
theorem dX2_faultAt_20 : decode cX2_faultAt 20 = .ok (.ifCond .eq 7, 3) := by decide +kernel
theorem dX2_faultAt_23 : decode cX2_faultAt 23 = .ok (.iconst 0, 1) := by decide +kernel
theorem dX2_faultAt_24 : decode cX2_faultAt 24 = .ok (.goto 4, 3) := by decide +kernel
theorem dX2_faultAt_27 : decode cX2_faultAt 27 = .ok (.iconst 2, 1) := by decide +kernel
theorem dX2_faultAt_28 : decode cX2_faultAt 28 = .ok (.ireturn, 1) := by decide +kernel
theorem dX2_faultOfThree_0 : decode cX2_faultOfThree 0 = .ok (.aload_n 0, 1) := by decide +kernel
theorem dX2_faultOfThree_1 : decode cX2_faultOfThree 1 = .ok (.iload_n 1, 1) := by decide +kernel
theorem dX2_faultOfThree_2 : decode cX2_faultOfThree 2 = .ok (.invokevirtual 36, 3) := by decide +kernel
theorem dX2_faultOfThree_5 : decode cX2_faultOfThree 5 = .ok (.istore_n 3, 1) := by decide +kernel
theorem dX2_faultOfThree_6 : decode cX2_faultOfThree 6 = .ok (.iconst 0, 1) := by decide +kernel
theorem dX2_faultOfThree_7 : decode cX2_faultOfThree 7 = .ok (.istore 4, 2) := by decide +kernel
theorem dX2_faultOfThree_9 : decode cX2_faultOfThree 9 = .ok (.iload 4, 2) := by decide +kernel
theorem dX2_faultOfThree_11 : decode cX2_faultOfThree 11 = .ok (.iconst 3, 1) := by decide +kernel
theorem dX2_faultOfThree_12 : decode cX2_faultOfThree 12 = .ok (.if_icmp .ge 22, 3) := by decide +kernel
theorem dX2_faultOfThree_15 : decode cX2_faultOfThree 15 = .ok (.iload_n 3, 1) := by decide +kernel
theorem dX2_faultOfThree_16 : decode cX2_faultOfThree 16 = .ok (.ifCond .ne 18, 3) := by decide +kernel
theorem dX2_faultOfThree_19 : decode cX2_faultOfThree 19 = .ok (.aload_n 0, 1) := by decide +kernel
theorem dX2_faultOfThree_20 : decode cX2_faultOfThree 20 = .ok (.iload_n 2, 1) := by decide +kernel
theorem dX2_faultOfThree_21 : decode cX2_faultOfThree 21 = .ok (.iload 4, 2) := by decide +kernel
theorem dX2_faultOfThree_23 : decode cX2_faultOfThree 23 = .ok (.iadd, 1) := by decide +kernel
theorem dX2_faultOfThree_24 : decode cX2_faultOfThree 24 = .ok (.invokevirtual 40, 3) := by decide +kernel
theorem dX2_faultOfThree_27 : decode cX2_faultOfThree 27 = .ok (.istore_n 3, 1) := by decide +kernel
theorem dX2_faultOfThree_28 : decode cX2_faultOfThree 28 = .ok (.iinc 4 1, 3) := by decide +kernel
theorem dX2_faultOfThree_31 : decode cX2_faultOfThree 31 = .ok (.goto (-22), 3) := by decide +kernel
theorem dX2_faultOfThree_34 : decode cX2_faultOfThree 34 = .ok (.iload_n 3, 1) := by decide +kernel
theorem dX2_faultOfThree_35 : decode cX2_faultOfThree 35 = .ok (.ireturn, 1) := by decide +kernel
theorem dX2_faultAs_0 : decode cX2_faultAs 0 = .ok (.aload_n 0, 1) := by decide +kernel
theorem dX2_faultAs_1 : decode cX2_faultAs 1 = .ok (.invokevirtual 32, 3) := by decide +kernel
theorem dX2_faultAs_4 : decode cX2_faultAs 4 = .ok (.ifCond .ne 11, 3) := by decide +kernel
theorem dX2_faultAs_7 : decode cX2_faultAs 7 = .ok (.aload_n 0, 1) := by decide +kernel
theorem dX2_faultAs_8 : decode cX2_faultAs 8 = .ok (.getfield 15, 3) := by decide +kernel
theorem dX2_faultAs_11 : decode cX2_faultAs 11 = .ok (.iload_n 1, 1) := by decide +kernel
theorem dX2_faultAs_12 : decode cX2_faultAs 12 = .ok (.if_icmp .ne 7, 3) := by decide +kernel
theorem dX2_faultAs_15 : decode cX2_faultAs 15 = .ok (.iconst 0, 1) := by decide +kernel
theorem dX2_faultAs_16 : decode cX2_faultAs 16 = .ok (.goto 4, 3) := by decide +kernel
theorem dX2_faultAs_19 : decode cX2_faultAs 19 = .ok (.iconst 3, 1) := by decide +kernel
theorem dX2_faultAs_20 : decode cX2_faultAs 20 = .ok (.ireturn, 1) := by decide +kernel
theorem dX2_get_0 : decode cX2_get 0 = .ok (.aload_n 0, 1) := by decide +kernel
theorem dX2_get_1 : decode cX2_get 1 = .ok (.iload_n 1, 1) := by decide +kernel
theorem dX2_get_2 : decode cX2_get 2 = .ok (.invokevirtual 40, 3) := by decide +kernel
theorem dX2_get_5 : decode cX2_get 5 = .ok (.ifCond .ne 12, 3) := by decide +kernel
theorem dX2_get_8 : decode cX2_get 8 = .ok (.aload_n 0, 1) := by decide +kernel
theorem dX2_get_9 : decode cX2_get 9 = .ok (.getfield 9, 3) := by decide +kernel
theorem dX2_get_12 : decode cX2_get 12 = .ok (.iload_n 1, 1) := by decide +kernel
theorem dX2_get_13 : decode cX2_get 13 = .ok (.iaload, 1) := by decide +kernel
theorem dX2_get_14 : decode cX2_get 14 = .ok (.goto 4, 3) := by decide +kernel
theorem dX2_get_17 : decode cX2_get 17 = .ok (.iconst 0, 1) := by decide +kernel
theorem dX2_get_18 : decode cX2_get 18 = .ok (.ireturn, 1) := by decide +kernel
theorem dX2_put_0 : decode cX2_put 0 = .ok (.aload_n 0, 1) := by decide +kernel
theorem dX2_put_1 : decode cX2_put 1 = .ok (.iload_n 1, 1) := by decide +kernel
theorem dX2_put_2 : decode cX2_put 2 = .ok (.invokevirtual 40, 3) := by decide +kernel
theorem dX2_put_5 : decode cX2_put 5 = .ok (.ifCond .eq 4, 3) := by decide +kernel
theorem dX2_put_8 : decode cX2_put 8 = .ok (.return_, 1) := by decide +kernel
theorem dX2_put_9 : decode cX2_put 9 = .ok (.aload_n 0, 1) := by decide +kernel
theorem dX2_put_10 : decode cX2_put 10 = .ok (.getfield 15, 3) := by decide +kernel
theorem dX2_put_13 : decode cX2_put 13 = .ok (.lookupswitch 49 #[(0, 27), (1, 38)], 27) := by decide +kernel
theorem dX2_put_40 : decode cX2_put 40 = .ok (.aload_n 0, 1) := by decide +kernel
theorem dX2_put_41 : decode cX2_put 41 = .ok (.getfield 9, 3) := by decide +kernel
theorem dX2_put_44 : decode cX2_put 44 = .ok (.iload_n 1, 1) := by decide +kernel
theorem dX2_put_45 : decode cX2_put 45 = .ok (.iload_n 2, 1) := by decide +kernel
theorem dX2_put_46 : decode cX2_put 46 = .ok (.i2b, 1) := by decide +kernel
theorem dX2_put_47 : decode cX2_put 47 = .ok (.iastore, 1) := by decide +kernel
theorem dX2_put_48 : decode cX2_put 48 = .ok (.goto 21, 3) := by decide +kernel
theorem dX2_put_51 : decode cX2_put 51 = .ok (.aload_n 0, 1) := by decide +kernel
theorem dX2_put_52 : decode cX2_put 52 = .ok (.getfield 9, 3) := by decide +kernel
theorem dX2_put_55 : decode cX2_put 55 = .ok (.iload_n 1, 1) := by decide +kernel
theorem dX2_put_56 : decode cX2_put 56 = .ok (.iload_n 2, 1) := by decide +kernel
theorem dX2_put_57 : decode cX2_put 57 = .ok (.i2s, 1) := by decide +kernel
theorem dX2_put_58 : decode cX2_put 58 = .ok (.iastore, 1) := by decide +kernel
theorem dX2_put_59 : decode cX2_put 59 = .ok (.goto 10, 3) := by decide +kernel
theorem dX2_put_62 : decode cX2_put 62 = .ok (.aload_n 0, 1) := by decide +kernel
theorem dX2_put_63 : decode cX2_put 63 = .ok (.getfield 9, 3) := by decide +kernel
theorem dX2_put_66 : decode cX2_put 66 = .ok (.iload_n 1, 1) := by decide +kernel
theorem dX2_put_67 : decode cX2_put 67 = .ok (.iload_n 2, 1) := by decide +kernel
theorem dX2_put_68 : decode cX2_put 68 = .ok (.iastore, 1) := by decide +kernel
theorem dX2_put_69 : decode cX2_put 69 = .ok (.return_, 1) := by decide +kernel
theorem dX3_init_0 : decode cX3_init 0 = .ok (.aload_n 0, 1) := by decide +kernel
theorem dX3_init_1 : decode cX3_init 1 = .ok (.invokespecial 3, 3) := by decide +kernel
theorem dX3_init_4 : decode cX3_init 4 = .ok (.aload_n 0, 1) := by decide +kernel
theorem dX3_init_5 : decode cX3_init 5 = .ok (.aload_n 1, 1) := by decide +kernel
theorem dX3_init_6 : decode cX3_init 6 = .ok (.putfield 9, 3) := by decide +kernel
theorem dX3_init_9 : decode cX3_init 9 = .ok (.aload_n 0, 1) := by decide +kernel
theorem dX3_init_10 : decode cX3_init 10 = .ok (.aload_n 2, 1) := by decide +kernel
theorem dX3_init_11 : decode cX3_init 11 = .ok (.putfield 15, 3) := by decide +kernel
theorem dX3_init_14 : decode cX3_init 14 = .ok (.return_, 1) := by decide +kernel
theorem dX3_readLines_0 : decode cX3_readLines 0 = .ok (.aload_n 0, 1) := by decide +kernel
theorem dX3_readLines_1 : decode cX3_readLines 1 = .ok (.getfield 15, 3) := by decide +kernel
theorem dX3_readLines_4 : decode cX3_readLines 4 = .ok (.invokevirtual 19, 3) := by decide +kernel
theorem dX3_readLines_7 : decode cX3_readLines 7 = .ok (.aload_n 0, 1) := by decide +kernel
theorem dX3_readLines_8 : decode cX3_readLines 8 = .ok (.iload_n 1, 1) := by decide +kernel
theorem dX3_readLines_9 : decode cX3_readLines 9 = .ok (.aload_n 0, 1) := by decide +kernel
theorem dX3_readLines_10 : decode cX3_readLines 10 = .ok (.getfield 9, 3) := by decide +kernel
theorem dX3_readLines_13 : decode cX3_readLines 13 = .ok (.arraylength, 1) := by decide +kernel
theorem dX3_readLines_14 : decode cX3_readLines 14 = .ok (.invokestatic 24, 3) := by decide +kernel
theorem dX3_readLines_17 : decode cX3_readLines 17 = .ok (.putfield 30, 3) := by decide +kernel
theorem dX3_readLines_20 : decode cX3_readLines 20 = .ok (.aload_n 0, 1) := by decide +kernel
theorem dX3_readLines_21 : decode cX3_readLines 21 = .ok (.iconst 0, 1) := by decide +kernel
theorem dX3_readLines_22 : decode cX3_readLines 22 = .ok (.putfield 34, 3) := by decide +kernel
theorem dX3_readLines_25 : decode cX3_readLines 25 = .ok (.aload_n 0, 1) := by decide +kernel
theorem dX3_readLines_26 : decode cX3_readLines 26 = .ok (.iconst 0, 1) := by decide +kernel
theorem dX3_readLines_27 : decode cX3_readLines 27 = .ok (.putfield 37, 3) := by decide +kernel
theorem dX3_readLines_30 : decode cX3_readLines 30 = .ok (.aload_n 0, 1) := by decide +kernel
theorem dX3_readLines_31 : decode cX3_readLines 31 = .ok (.iconst 0, 1) := by decide +kernel
theorem dX3_readLines_32 : decode cX3_readLines 32 = .ok (.putfield 41, 3) := by decide +kernel
theorem dX3_readLines_35 : decode cX3_readLines 35 = .ok (.aload_n 0, 1) := by decide +kernel
theorem dX3_readLines_36 : decode cX3_readLines 36 = .ok (.iconst 0, 1) := by decide +kernel
theorem dX3_readLines_37 : decode cX3_readLines 37 = .ok (.putfield 44, 3) := by decide +kernel
theorem dX3_readLines_40 : decode cX3_readLines 40 = .ok (.iconst 0, 1) := by decide +kernel
theorem dX3_readLines_41 : decode cX3_readLines 41 = .ok (.istore_n 2, 1) := by decide +kernel
theorem dX3_readLines_42 : decode cX3_readLines 42 = .ok (.aload_n 0, 1) := by decide +kernel
theorem dX3_readLines_43 : decode cX3_readLines 43 = .ok (.invokevirtual 47, 3) := by decide +kernel
theorem dX3_readLines_46 : decode cX3_readLines 46 = .ok (.aload_n 0, 1) := by decide +kernel
theorem dX3_readLines_47 : decode cX3_readLines 47 = .ok (.getfield 41, 3) := by decide +kernel
theorem dX3_readLines_50 : decode cX3_readLines 50 = .ok (.ifCond .ne 31, 3) := by decide +kernel
theorem dX3_readLines_53 : decode cX3_readLines 53 = .ok (.aload_n 0, 1) := by decide +kernel
theorem dX3_readLines_54 : decode cX3_readLines 54 = .ok (.getfield 50, 3) := by decide +kernel
theorem dX3_readLines_57 : decode cX3_readLines 57 = .ok (.ifCond .eq 24, 3) := by decide +kernel
theorem dX3_readLines_60 : decode cX3_readLines 60 = .ok (.iload_n 2, 1) := by decide +kernel
theorem dX3_readLines_61 : decode cX3_readLines 61 = .ok (.sipush 160, 3) := by decide +kernel
theorem dX3_readLines_64 : decode cX3_readLines 64 = .ok (.if_icmp .gt 17, 3) := by decide +kernel
theorem dX3_readLines_67 : decode cX3_readLines 67 = .ok (.aload_n 0, 1) := by decide +kernel
theorem dX3_readLines_68 : decode cX3_readLines 68 = .ok (.invokevirtual 53, 3) := by decide +kernel
theorem dX3_readLines_71 : decode cX3_readLines 71 = .ok (.aload_n 0, 1) := by decide +kernel
theorem dX3_readLines_72 : decode cX3_readLines 72 = .ok (.invokevirtual 47, 3) := by decide +kernel
theorem dX3_readLines_75 : decode cX3_readLines 75 = .ok (.iinc 2 1, 3) := by decide +kernel
theorem dX3_readLines_78 : decode cX3_readLines 78 = .ok (.goto (-32), 3) := by decide +kernel
theorem dX3_readLines_81 : decode cX3_readLines 81 = .ok (.aload_n 0, 1) := by decide +kernel
theorem dX3_readLines_82 : decode cX3_readLines 82 = .ok (.getfield 41, 3) := by decide +kernel
theorem dX3_readLines_85 : decode cX3_readLines 85 = .ok (.ifCond .ne 23, 3) := by decide +kernel
theorem dX3_readLines_88 : decode cX3_readLines 88 = .ok (.aload_n 0, 1) := by decide +kernel
theorem dX3_readLines_89 : decode cX3_readLines 89 = .ok (.getfield 15, 3) := by decide +kernel
theorem dX3_readLines_92 : decode cX3_readLines 92 = .ok (.invokevirtual 56, 3) := by decide +kernel
theorem dX3_readLines_95 : decode cX3_readLines 95 = .ok (.ifCond .eq 13, 3) := by decide +kernel
theorem dX3_readLines_98 : decode cX3_readLines 98 = .ok (.aload_n 0, 1) := by decide +kernel
theorem dX3_readLines_99 : decode cX3_readLines 99 = .ok (.bipush 6, 2) := by decide +kernel
theorem dX3_readLines_101 : decode cX3_readLines 101 = .ok (.aload_n 0, 1) := by decide +kernel
theorem dX3_readLines_102 : decode cX3_readLines 102 = .ok (.getfield 30, 3) := by decide +kernel
theorem dX3_readLines_105 : decode cX3_readLines 105 = .ok (.invokevirtual 60, 3) := by decide +kernel
theorem dX3_readLines_108 : decode cX3_readLines 108 = .ok (.iload_n 2, 1) := by decide +kernel
theorem dX3_readLines_109 : decode cX3_readLines 109 = .ok (.ireturn, 1) := by decide +kernel
theorem dX3_fail_0 : decode cX3_fail 0 = .ok (.aload_n 0, 1) := by decide +kernel
theorem dX3_fail_1 : decode cX3_fail 1 = .ok (.getfield 41, 3) := by decide +kernel
theorem dX3_fail_4 : decode cX3_fail 4 = .ok (.ifCond .ne 13, 3) := by decide +kernel
theorem dX3_fail_7 : decode cX3_fail 7 = .ok (.aload_n 0, 1) := by decide +kernel
theorem dX3_fail_8 : decode cX3_fail 8 = .ok (.iload_n 1, 1) := by decide +kernel
theorem dX3_fail_9 : decode cX3_fail 9 = .ok (.putfield 41, 3) := by decide +kernel
theorem dX3_fail_12 : decode cX3_fail 12 = .ok (.aload_n 0, 1) := by decide +kernel
theorem dX3_fail_13 : decode cX3_fail 13 = .ok (.iload_n 2, 1) := by decide +kernel
theorem dX3_fail_14 : decode cX3_fail 14 = .ok (.putfield 44, 3) := by decide +kernel
theorem dX3_fail_17 : decode cX3_fail 17 = .ok (.return_, 1) := by decide +kernel
theorem dX3_readLine_0 : decode cX3_readLine 0 = .ok (.aload_n 0, 1) := by decide +kernel
theorem dX3_readLine_1 : decode cX3_readLine 1 = .ok (.getfield 50, 3) := by decide +kernel
theorem dX3_readLine_4 : decode cX3_readLine 4 = .ok (.iconst 1, 1) := by decide +kernel
theorem dX3_readLine_5 : decode cX3_readLine 5 = .ok (.if_icmp .ne 10, 3) := by decide +kernel
theorem dX3_readLine_8 : decode cX3_readLine 8 = .ok (.aload_n 0, 1) := by decide +kernel
theorem dX3_readLine_9 : decode cX3_readLine 9 = .ok (.invokevirtual 64, 3) := by decide +kernel
theorem dX3_readLine_12 : decode cX3_readLine 12 = .ok (.goto 5, 3) := by decide +kernel
theorem dX3_readLine_15 : decode cX3_readLine 15 = .ok (.bipush (-4), 2) := by decide +kernel
theorem dX3_readLine_17 : decode cX3_readLine 17 = .ok (.istore_n 1, 1) := by decide +kernel
theorem dX3_readLine_18 : decode cX3_readLine 18 = .ok (.iload_n 1, 1) := by decide +kernel
theorem dX3_readLine_19 : decode cX3_readLine 19 = .ok (.bipush (-4), 2) := by decide +kernel
theorem dX3_readLine_21 : decode cX3_readLine 21 = .ok (.if_icmp .ne 15, 3) := by decide +kernel
theorem dX3_readLine_24 : decode cX3_readLine 24 = .ok (.aload_n 0, 1) := by decide +kernel
theorem dX3_readLine_25 : decode cX3_readLine 25 = .ok (.iconst 2, 1) := by decide +kernel
theorem dX3_readLine_26 : decode cX3_readLine 26 = .ok (.aload_n 0, 1) := by decide +kernel
theorem dX3_readLine_27 : decode cX3_readLine 27 = .ok (.getfield 68, 3) := by decide +kernel
theorem dX3_readLine_30 : decode cX3_readLine 30 = .ok (.invokevirtual 60, 3) := by decide +kernel
theorem dX3_readLine_33 : decode cX3_readLine 33 = .ok (.goto 32, 3) := by decide +kernel
theorem dX3_readLine_36 : decode cX3_readLine 36 = .ok (.iload_n 1, 1) := by decide +kernel
theorem dX3_readLine_37 : decode cX3_readLine 37 = .ok (.iconst 5, 1) := by decide +kernel
theorem dX3_readLine_38 : decode cX3_readLine 38 = .ok (.if_icmp .ne 10, 3) := by decide +kernel
theorem dX3_readLine_41 : decode cX3_readLine 41 = .ok (.aload_n 0, 1) := by decide +kernel
theorem dX3_readLine_42 : decode cX3_readLine 42 = .ok (.invokevirtual 71, 3) := by decide +kernel
theorem dX3_readLine_45 : decode cX3_readLine 45 = .ok (.goto 20, 3) := by decide +kernel
theorem dX3_readLine_48 : decode cX3_readLine 48 = .ok (.iload_n 1, 1) := by decide +kernel
theorem dX3_readLine_49 : decode cX3_readLine 49 = .ok (.iconst 4, 1) := by decide +kernel
theorem dX3_readLine_50 : decode cX3_readLine 50 = .ok (.if_icmp .ne 10, 3) := by decide +kernel
theorem dX3_readLine_53 : decode cX3_readLine 53 = .ok (.aload_n 0, 1) := by decide +kernel
theorem dX3_readLine_54 : decode cX3_readLine 54 = .ok (.invokevirtual 74, 3) := by decide +kernel
theorem dX3_readLine_57 : decode cX3_readLine 57 = .ok (.goto 8, 3) := by decide +kernel
theorem dX3_readLine_60 : decode cX3_readLine 60 = .ok (.aload_n 0, 1) := by decide +kernel
theorem dX3_readLine_61 : decode cX3_readLine 61 = .ok (.iload_n 1, 1) := by decide +kernel
theorem dX3_readLine_62 : decode cX3_readLine 62 = .ok (.invokevirtual 77, 3) := by decide +kernel
theorem dX3_readLine_65 : decode cX3_readLine 65 = .ok (.aload_n 0, 1) := by decide +kernel
theorem dX3_readLine_66 : decode cX3_readLine 66 = .ok (.invokevirtual 81, 3) := by decide +kernel
theorem dX3_readLine_69 : decode cX3_readLine 69 = .ok (.return_, 1) := by decide +kernel
theorem dX3_readKey_0 : decode cX3_readKey 0 = .ok (.aload_n 0, 1) := by decide +kernel
theorem dX3_readKey_1 : decode cX3_readKey 1 = .ok (.getfield 15, 3) := by decide +kernel
theorem dX3_readKey_4 : decode cX3_readKey 4 = .ok (.getfield 84, 3) := by decide +kernel
theorem dX3_readKey_7 : decode cX3_readKey 7 = .ok (.iconst 4, 1) := by decide +kernel
theorem dX3_readKey_8 : decode cX3_readKey 8 = .ok (.if_icmp .lt 12, 3) := by decide +kernel
theorem dX3_readKey_11 : decode cX3_readKey 11 = .ok (.aload_n 0, 1) := by decide +kernel
theorem dX3_readKey_12 : decode cX3_readKey 12 = .ok (.iconst 5, 1) := by decide +kernel
theorem dX3_readKey_13 : decode cX3_readKey 13 = .ok (.aload_n 0, 1) := by decide +kernel
theorem dX3_readKey_14 : decode cX3_readKey 14 = .ok (.getfield 68, 3) := by decide +kernel
theorem dX3_readKey_17 : decode cX3_readKey 17 = .ok (.invokevirtual 60, 3) := by decide +kernel
theorem dX3_readKey_20 : decode cX3_readKey 20 = .ok (.aload_n 0, 1) := by decide +kernel
theorem dX3_readKey_21 : decode cX3_readKey 21 = .ok (.iconst 0, 1) := by decide +kernel
theorem dX3_readKey_22 : decode cX3_readKey 22 = .ok (.bipush 9, 2) := by decide +kernel
theorem dX3_readKey_24 : decode cX3_readKey 24 = .ok (.invokevirtual 87, 3) := by decide +kernel
theorem dX3_readKey_27 : decode cX3_readKey 27 = .ok (.istore_n 2, 1) := by decide +kernel
theorem dX3_readKey_28 : decode cX3_readKey 28 = .ok (.aload_n 0, 1) := by decide +kernel
theorem dX3_readKey_29 : decode cX3_readKey 29 = .ok (.iconst 1, 1) := by decide +kernel
theorem dX3_readKey_30 : decode cX3_readKey 30 = .ok (.bipush 9, 2) := by decide +kernel
theorem dX3_readKey_32 : decode cX3_readKey 32 = .ok (.invokevirtual 87, 3) := by decide +kernel
theorem dX3_readKey_35 : decode cX3_readKey 35 = .ok (.istore_n 3, 1) := by decide +kernel
theorem dX3_readKey_36 : decode cX3_readKey 36 = .ok (.aload_n 0, 1) := by decide +kernel
theorem dX3_readKey_37 : decode cX3_readKey 37 = .ok (.getfield 41, 3) := by decide +kernel
theorem dX3_readKey_40 : decode cX3_readKey 40 = .ok (.ifCond .ne 13, 3) := by decide +kernel
theorem dX3_readKey_43 : decode cX3_readKey 43 = .ok (.aload_n 0, 1) := by decide +kernel
theorem dX3_readKey_44 : decode cX3_readKey 44 = .ok (.getfield 15, 3) := by decide +kernel
theorem dX3_readKey_47 : decode cX3_readKey 47 = .ok (.iload_n 1, 1) := by decide +kernel
theorem dX3_readKey_48 : decode cX3_readKey 48 = .ok (.iload_n 2, 1) := by decide +kernel
theorem dX3_readKey_49 : decode cX3_readKey 49 = .ok (.iload_n 3, 1) := by decide +kernel
theorem dX3_readKey_50 : decode cX3_readKey 50 = .ok (.invokevirtual 90, 3) := by decide +kernel
theorem dX3_readKey_53 : decode cX3_readKey 53 = .ok (.return_, 1) := by decide +kernel
theorem dX3_readPress_0 : decode cX3_readPress 0 = .ok (.aload_n 0, 1) := by decide +kernel
theorem dX3_readPress_1 : decode cX3_readPress 1 = .ok (.getfield 15, 3) := by decide +kernel
theorem dX3_readPress_4 : decode cX3_readPress 4 = .ok (.getfield 94, 3) := by decide +kernel
theorem dX3_readPress_7 : decode cX3_readPress 7 = .ok (.bipush 8, 2) := by decide +kernel
theorem dX3_readPress_9 : decode cX3_readPress 9 = .ok (.if_icmp .lt 12, 3) := by decide +kernel
theorem dX3_readPress_12 : decode cX3_readPress 12 = .ok (.aload_n 0, 1) := by decide +kernel
theorem dX3_readPress_13 : decode cX3_readPress 13 = .ok (.iconst 5, 1) := by decide +kernel
theorem dX3_readPress_14 : decode cX3_readPress 14 = .ok (.aload_n 0, 1) := by decide +kernel
theorem dX3_readPress_15 : decode cX3_readPress 15 = .ok (.getfield 68, 3) := by decide +kernel
theorem dX3_readPress_18 : decode cX3_readPress 18 = .ok (.invokevirtual 60, 3) := by decide +kernel
theorem dX3_readPress_21 : decode cX3_readPress 21 = .ok (.aload_n 0, 1) := by decide +kernel
theorem dX3_readPress_22 : decode cX3_readPress 22 = .ok (.iconst 0, 1) := by decide +kernel
theorem dX3_readPress_23 : decode cX3_readPress 23 = .ok (.bipush 99, 2) := by decide +kernel
theorem dX3_readPress_25 : decode cX3_readPress 25 = .ok (.invokevirtual 87, 3) := by decide +kernel
theorem dX3_readPress_28 : decode cX3_readPress 28 = .ok (.istore_n 1, 1) := by decide +kernel
theorem dX3_readPress_29 : decode cX3_readPress 29 = .ok (.aload_n 0, 1) := by decide +kernel
theorem dX3_readPress_30 : decode cX3_readPress 30 = .ok (.iconst 0, 1) := by decide +kernel
theorem dX3_readPress_31 : decode cX3_readPress 31 = .ok (.iconst 3, 1) := by decide +kernel
theorem dX3_readPress_32 : decode cX3_readPress 32 = .ok (.invokevirtual 87, 3) := by decide +kernel
theorem dX3_readPress_35 : decode cX3_readPress 35 = .ok (.istore_n 2, 1) := by decide +kernel
theorem dX3_readPress_36 : decode cX3_readPress 36 = .ok (.aload_n 0, 1) := by decide +kernel
theorem dX3_readPress_37 : decode cX3_readPress 37 = .ok (.iconst 0, 1) := by decide +kernel
theorem dX3_readPress_38 : decode cX3_readPress 38 = .ok (.iconst 1, 1) := by decide +kernel
theorem dX3_readPress_39 : decode cX3_readPress 39 = .ok (.invokevirtual 87, 3) := by decide +kernel
theorem dX3_readPress_42 : decode cX3_readPress 42 = .ok (.istore_n 3, 1) := by decide +kernel
theorem dX3_readPress_43 : decode cX3_readPress 43 = .ok (.aload_n 0, 1) := by decide +kernel
theorem dX3_readPress_44 : decode cX3_readPress 44 = .ok (.getfield 41, 3) := by decide +kernel
theorem dX3_readPress_47 : decode cX3_readPress 47 = .ok (.ifCond .ne 13, 3) := by decide +kernel
theorem dX3_readPress_50 : decode cX3_readPress 50 = .ok (.aload_n 0, 1) := by decide +kernel
theorem dX3_readPress_51 : decode cX3_readPress 51 = .ok (.getfield 15, 3) := by decide +kernel
theorem dX3_readPress_54 : decode cX3_readPress 54 = .ok (.iload_n 1, 1) := by decide +kernel
theorem dX3_readPress_55 : decode cX3_readPress 55 = .ok (.iload_n 2, 1) := by decide +kernel
theorem dX3_readPress_56 : decode cX3_readPress 56 = .ok (.iload_n 3, 1) := by decide +kernel
theorem dX3_readPress_57 : decode cX3_readPress 57 = .ok (.invokevirtual 97, 3) := by decide +kernel
theorem dX3_readPress_60 : decode cX3_readPress 60 = .ok (.return_, 1) := by decide +kernel
theorem dX3_readEvery_0 : decode cX3_readEvery 0 = .ok (.aload_n 0, 1) := by decide +kernel
theorem dX3_readEvery_1 : decode cX3_readEvery 1 = .ok (.getfield 37, 3) := by decide +kernel
theorem dX3_readEvery_4 : decode cX3_readEvery 4 = .ok (.ifCond .eq 12, 3) := by decide +kernel
theorem dX3_readEvery_7 : decode cX3_readEvery 7 = .ok (.aload_n 0, 1) := by decide +kernel
theorem dX3_readEvery_8 : decode cX3_readEvery 8 = .ok (.iconst 4, 1) := by decide +kernel
theorem dX3_readEvery_9 : decode cX3_readEvery 9 = .ok (.aload_n 0, 1) := by decide +kernel
theorem dX3_readEvery_10 : decode cX3_readEvery 10 = .ok (.getfield 68, 3) := by decide +kernel
theorem dX3_readEvery_13 : decode cX3_readEvery 13 = .ok (.invokevirtual 60, 3) := by decide +kernel
theorem dX3_readEvery_16 : decode cX3_readEvery 16 = .ok (.aload_n 0, 1) := by decide +kernel
theorem dX3_readEvery_17 : decode cX3_readEvery 17 = .ok (.iconst 1, 1) := by decide +kernel
theorem dX3_readEvery_18 : decode cX3_readEvery 18 = .ok (.putfield 37, 3) := by decide +kernel
theorem dX3_readEvery_21 : decode cX3_readEvery 21 = .ok (.aload_n 0, 1) := by decide +kernel
theorem dX3_readEvery_22 : decode cX3_readEvery 22 = .ok (.iconst 1, 1) := by decide +kernel
theorem dX3_readEvery_23 : decode cX3_readEvery 23 = .ok (.iconst 4, 1) := by decide +kernel
theorem dX3_readEvery_24 : decode cX3_readEvery 24 = .ok (.invokevirtual 87, 3) := by decide +kernel
theorem dX3_readEvery_27 : decode cX3_readEvery 27 = .ok (.istore_n 1, 1) := by decide +kernel
theorem dX3_readEvery_28 : decode cX3_readEvery 28 = .ok (.aload_n 0, 1) := by decide +kernel
theorem dX3_readEvery_29 : decode cX3_readEvery 29 = .ok (.getfield 41, 3) := by decide +kernel
theorem dX3_readEvery_32 : decode cX3_readEvery 32 = .ok (.ifCond .ne 11, 3) := by decide +kernel
theorem dX3_readEvery_35 : decode cX3_readEvery 35 = .ok (.aload_n 0, 1) := by decide +kernel
theorem dX3_readEvery_36 : decode cX3_readEvery 36 = .ok (.getfield 15, 3) := by decide +kernel
theorem dX3_readEvery_39 : decode cX3_readEvery 39 = .ok (.iload_n 1, 1) := by decide +kernel
theorem dX3_readEvery_40 : decode cX3_readEvery 40 = .ok (.putfield 100, 3) := by decide +kernel
theorem dX3_readEvery_43 : decode cX3_readEvery 43 = .ok (.return_, 1) := by decide +kernel
theorem dX3_readNumber_0 : decode cX3_readNumber 0 = .ok (.aload_n 0, 1) := by decide +kernel
theorem dX3_readNumber_1 : decode cX3_readNumber 1 = .ok (.invokevirtual 47, 3) := by decide +kernel
theorem dX3_readNumber_4 : decode cX3_readNumber 4 = .ok (.aload_n 0, 1) := by decide +kernel
theorem dX3_readNumber_5 : decode cX3_readNumber 5 = .ok (.getfield 50, 3) := by decide +kernel
theorem dX3_readNumber_8 : decode cX3_readNumber 8 = .ok (.iconst 2, 1) := by decide +kernel
theorem dX3_readNumber_9 : decode cX3_readNumber 9 = .ok (.if_icmp .eq 15, 3) := by decide +kernel
theorem dX3_readNumber_12 : decode cX3_readNumber 12 = .ok (.aload_n 0, 1) := by decide +kernel
theorem dX3_readNumber_13 : decode cX3_readNumber 13 = .ok (.iconst 2, 1) := by decide +kernel
theorem dX3_readNumber_14 : decode cX3_readNumber 14 = .ok (.aload_n 0, 1) := by decide +kernel
theorem dX3_readNumber_15 : decode cX3_readNumber 15 = .ok (.getfield 68, 3) := by decide +kernel
theorem dX3_readNumber_18 : decode cX3_readNumber 18 = .ok (.invokevirtual 60, 3) := by decide +kernel
theorem dX3_readNumber_21 : decode cX3_readNumber 21 = .ok (.goto 24, 3) := by decide +kernel
theorem dX3_readNumber_24 : decode cX3_readNumber 24 = .ok (.aload_n 0, 1) := by decide +kernel
theorem dX3_readNumber_25 : decode cX3_readNumber 25 = .ok (.getfield 103, 3) := by decide +kernel
theorem dX3_readNumber_28 : decode cX3_readNumber 28 = .ok (.iload_n 1, 1) := by decide +kernel
theorem dX3_readNumber_29 : decode cX3_readNumber 29 = .ok (.iload_n 2, 1) := by decide +kernel
theorem dX3_readNumber_30 : decode cX3_readNumber 30 = .ok (.invokestatic 106, 3) := by decide +kernel
theorem dX3_readNumber_33 : decode cX3_readNumber 33 = .ok (.ifCond .ne 12, 3) := by decide +kernel
theorem dX3_readNumber_36 : decode cX3_readNumber 36 = .ok (.aload_n 0, 1) := by decide +kernel
theorem dX3_readNumber_37 : decode cX3_readNumber 37 = .ok (.iconst 3, 1) := by decide +kernel
theorem dX3_readNumber_38 : decode cX3_readNumber 38 = .ok (.aload_n 0, 1) := by decide +kernel
theorem dX3_readNumber_39 : decode cX3_readNumber 39 = .ok (.getfield 68, 3) := by decide +kernel
theorem dX3_readNumber_42 : decode cX3_readNumber 42 = .ok (.invokevirtual 60, 3) := by decide +kernel
theorem dX3_readNumber_45 : decode cX3_readNumber 45 = .ok (.aload_n 0, 1) := by decide +kernel
theorem dX3_readNumber_46 : decode cX3_readNumber 46 = .ok (.getfield 103, 3) := by decide +kernel
theorem dX3_readNumber_49 : decode cX3_readNumber 49 = .ok (.ireturn, 1) := by decide +kernel
theorem dX3_readSemicolon_0 : decode cX3_readSemicolon 0 = .ok (.aload_n 0, 1) := by decide +kernel
theorem dX3_readSemicolon_1 : decode cX3_readSemicolon 1 = .ok (.invokevirtual 47, 3) := by decide +kernel
theorem dX3_readSemicolon_4 : decode cX3_readSemicolon 4 = .ok (.aload_n 0, 1) := by decide +kernel
theorem dX3_readSemicolon_5 : decode cX3_readSemicolon 5 = .ok (.getfield 50, 3) := by decide +kernel
theorem dX3_readSemicolon_8 : decode cX3_readSemicolon 8 = .ok (.iconst 3, 1) := by decide +kernel
theorem dX3_readSemicolon_9 : decode cX3_readSemicolon 9 = .ok (.if_icmp .eq 12, 3) := by decide +kernel
theorem dX3_readSemicolon_12 : decode cX3_readSemicolon 12 = .ok (.aload_n 0, 1) := by decide +kernel
theorem dX3_readSemicolon_13 : decode cX3_readSemicolon 13 = .ok (.iconst 2, 1) := by decide +kernel
theorem dX3_readSemicolon_14 : decode cX3_readSemicolon 14 = .ok (.aload_n 0, 1) := by decide +kernel
theorem dX3_readSemicolon_15 : decode cX3_readSemicolon 15 = .ok (.getfield 68, 3) := by decide +kernel
theorem dX3_readSemicolon_18 : decode cX3_readSemicolon 18 = .ok (.invokevirtual 60, 3) := by decide +kernel
theorem dX3_readSemicolon_21 : decode cX3_readSemicolon 21 = .ok (.return_, 1) := by decide +kernel
theorem dX3_nextToken_0 : decode cX3_nextToken 0 = .ok (.aload_n 0, 1) := by decide +kernel
theorem dX3_nextToken_1 : decode cX3_nextToken 1 = .ok (.iconst 4, 1) := by decide +kernel
theorem dX3_nextToken_2 : decode cX3_nextToken 2 = .ok (.putfield 50, 3) := by decide +kernel
theorem dX3_nextToken_5 : decode cX3_nextToken 5 = .ok (.aload_n 0, 1) := by decide +kernel
theorem dX3_nextToken_6 : decode cX3_nextToken 6 = .ok (.getfield 41, 3) := by decide +kernel
theorem dX3_nextToken_9 : decode cX3_nextToken 9 = .ok (.ifCond .eq 4, 3) := by decide +kernel
theorem dX3_nextToken_12 : decode cX3_nextToken 12 = .ok (.return_, 1) := by decide +kernel
theorem dX3_nextToken_13 : decode cX3_nextToken 13 = .ok (.aload_n 0, 1) := by decide +kernel
theorem dX3_nextToken_14 : decode cX3_nextToken 14 = .ok (.getfield 34, 3) := by decide +kernel
theorem dX3_nextToken_17 : decode cX3_nextToken 17 = .ok (.aload_n 0, 1) := by decide +kernel
theorem dX3_nextToken_18 : decode cX3_nextToken 18 = .ok (.getfield 30, 3) := by decide +kernel
theorem dX3_nextToken_21 : decode cX3_nextToken 21 = .ok (.if_icmp .ge 30, 3) := by decide +kernel
theorem dX3_nextToken_24 : decode cX3_nextToken 24 = .ok (.aload_n 0, 1) := by decide +kernel
theorem dX3_nextToken_25 : decode cX3_nextToken 25 = .ok (.getfield 9, 3) := by decide +kernel
theorem dX3_nextToken_28 : decode cX3_nextToken 28 = .ok (.aload_n 0, 1) := by decide +kernel
theorem dX3_nextToken_29 : decode cX3_nextToken 29 = .ok (.getfield 34, 3) := by decide +kernel
theorem dX3_nextToken_32 : decode cX3_nextToken 32 = .ok (.baload, 1) := by decide +kernel
theorem dX3_nextToken_33 : decode cX3_nextToken 33 = .ok (.bipush 32, 2) := by decide +kernel
theorem dX3_nextToken_35 : decode cX3_nextToken 35 = .ok (.if_icmp .ne 16, 3) := by decide +kernel
theorem dX3_nextToken_38 : decode cX3_nextToken 38 = .ok (.aload_n 0, 1) := by decide +kernel
theorem dX3_nextToken_39 : decode cX3_nextToken 39 = .ok (.dup, 1) := by decide +kernel
theorem dX3_nextToken_40 : decode cX3_nextToken 40 = .ok (.getfield 34, 3) := by decide +kernel
theorem dX3_nextToken_43 : decode cX3_nextToken 43 = .ok (.iconst 1, 1) := by decide +kernel
theorem dX3_nextToken_44 : decode cX3_nextToken 44 = .ok (.iadd, 1) := by decide +kernel
theorem dX3_nextToken_45 : decode cX3_nextToken 45 = .ok (.putfield 34, 3) := by decide +kernel
theorem dX3_nextToken_48 : decode cX3_nextToken 48 = .ok (.goto (-35), 3) := by decide +kernel
theorem dX3_nextToken_51 : decode cX3_nextToken 51 = .ok (.aload_n 0, 1) := by decide +kernel
theorem dX3_nextToken_52 : decode cX3_nextToken 52 = .ok (.aload_n 0, 1) := by decide +kernel
theorem dX3_nextToken_53 : decode cX3_nextToken 53 = .ok (.getfield 34, 3) := by decide +kernel
theorem dX3_nextToken_56 : decode cX3_nextToken 56 = .ok (.putfield 68, 3) := by decide +kernel
theorem dX3_nextToken_59 : decode cX3_nextToken 59 = .ok (.aload_n 0, 1) := by decide +kernel
theorem dX3_nextToken_60 : decode cX3_nextToken 60 = .ok (.getfield 34, 3) := by decide +kernel
theorem dX3_nextToken_63 : decode cX3_nextToken 63 = .ok (.aload_n 0, 1) := by decide +kernel
theorem dX3_nextToken_64 : decode cX3_nextToken 64 = .ok (.getfield 30, 3) := by decide +kernel
theorem dX3_nextToken_67 : decode cX3_nextToken 67 = .ok (.if_icmp .lt 11, 3) := by decide +kernel
theorem dX3_nextToken_70 : decode cX3_nextToken 70 = .ok (.aload_n 0, 1) := by decide +kernel
theorem dX3_nextToken_71 : decode cX3_nextToken 71 = .ok (.iconst 0, 1) := by decide +kernel
theorem dX3_nextToken_72 : decode cX3_nextToken 72 = .ok (.putfield 50, 3) := by decide +kernel
theorem dX3_nextToken_75 : decode cX3_nextToken 75 = .ok (.goto 88, 3) := by decide +kernel
theorem dX3_nextToken_78 : decode cX3_nextToken 78 = .ok (.aload_n 0, 1) := by decide +kernel
theorem dX3_nextToken_79 : decode cX3_nextToken 79 = .ok (.getfield 9, 3) := by decide +kernel
theorem dX3_nextToken_82 : decode cX3_nextToken 82 = .ok (.aload_n 0, 1) := by decide +kernel
theorem dX3_nextToken_83 : decode cX3_nextToken 83 = .ok (.getfield 34, 3) := by decide +kernel
theorem dX3_nextToken_86 : decode cX3_nextToken 86 = .ok (.baload, 1) := by decide +kernel
theorem dX3_nextToken_87 : decode cX3_nextToken 87 = .ok (.invokestatic 110, 3) := by decide +kernel
theorem dX3_nextToken_90 : decode cX3_nextToken 90 = .ok (.ifCond .eq 10, 3) := by decide +kernel
theorem dX3_nextToken_93 : decode cX3_nextToken 93 = .ok (.aload_n 0, 1) := by decide +kernel
theorem dX3_nextToken_94 : decode cX3_nextToken 94 = .ok (.invokevirtual 114, 3) := by decide +kernel
theorem dX3_nextToken_97 : decode cX3_nextToken 97 = .ok (.goto 66, 3) := by decide +kernel
theorem dX3_nextToken_100 : decode cX3_nextToken 100 = .ok (.aload_n 0, 1) := by decide +kernel
theorem dX3_nextToken_101 : decode cX3_nextToken 101 = .ok (.getfield 9, 3) := by decide +kernel
theorem dX3_nextToken_104 : decode cX3_nextToken 104 = .ok (.aload_n 0, 1) := by decide +kernel
theorem dX3_nextToken_105 : decode cX3_nextToken 105 = .ok (.getfield 34, 3) := by decide +kernel
theorem dX3_nextToken_108 : decode cX3_nextToken 108 = .ok (.baload, 1) := by decide +kernel
theorem dX3_nextToken_109 : decode cX3_nextToken 109 = .ok (.invokestatic 117, 3) := by decide +kernel
theorem dX3_nextToken_112 : decode cX3_nextToken 112 = .ok (.ifCond .eq 10, 3) := by decide +kernel
theorem dX3_nextToken_115 : decode cX3_nextToken 115 = .ok (.aload_n 0, 1) := by decide +kernel
theorem dX3_nextToken_116 : decode cX3_nextToken 116 = .ok (.invokevirtual 120, 3) := by decide +kernel
theorem dX3_nextToken_119 : decode cX3_nextToken 119 = .ok (.goto 44, 3) := by decide +kernel
theorem dX3_nextToken_122 : decode cX3_nextToken 122 = .ok (.aload_n 0, 1) := by decide +kernel
theorem dX3_nextToken_123 : decode cX3_nextToken 123 = .ok (.getfield 9, 3) := by decide +kernel
theorem dX3_nextToken_126 : decode cX3_nextToken 126 = .ok (.aload_n 0, 1) := by decide +kernel
theorem dX3_nextToken_127 : decode cX3_nextToken 127 = .ok (.getfield 34, 3) := by decide +kernel
theorem dX3_nextToken_130 : decode cX3_nextToken 130 = .ok (.baload, 1) := by decide +kernel
theorem dX3_nextToken_131 : decode cX3_nextToken 131 = .ok (.bipush 59, 2) := by decide +kernel
theorem dX3_nextToken_133 : decode cX3_nextToken 133 = .ok (.if_icmp .ne 21, 3) := by decide +kernel
theorem dX3_nextToken_136 : decode cX3_nextToken 136 = .ok (.aload_n 0, 1) := by decide +kernel
theorem dX3_nextToken_137 : decode cX3_nextToken 137 = .ok (.dup, 1) := by decide +kernel
theorem dX3_nextToken_138 : decode cX3_nextToken 138 = .ok (.getfield 34, 3) := by decide +kernel
theorem dX3_nextToken_141 : decode cX3_nextToken 141 = .ok (.iconst 1, 1) := by decide +kernel
theorem dX3_nextToken_142 : decode cX3_nextToken 142 = .ok (.iadd, 1) := by decide +kernel
theorem dX3_nextToken_143 : decode cX3_nextToken 143 = .ok (.putfield 34, 3) := by decide +kernel
theorem dX3_nextToken_146 : decode cX3_nextToken 146 = .ok (.aload_n 0, 1) := by decide +kernel
theorem dX3_nextToken_147 : decode cX3_nextToken 147 = .ok (.iconst 3, 1) := by decide +kernel
theorem dX3_nextToken_148 : decode cX3_nextToken 148 = .ok (.putfield 50, 3) := by decide +kernel
theorem dX3_nextToken_151 : decode cX3_nextToken 151 = .ok (.goto 12, 3) := by decide +kernel
theorem dX3_nextToken_154 : decode cX3_nextToken 154 = .ok (.aload_n 0, 1) := by decide +kernel
theorem dX3_nextToken_155 : decode cX3_nextToken 155 = .ok (.iconst 1, 1) := by decide +kernel
theorem dX3_nextToken_156 : decode cX3_nextToken 156 = .ok (.aload_n 0, 1) := by decide +kernel
theorem dX3_nextToken_157 : decode cX3_nextToken 157 = .ok (.getfield 68, 3) := by decide +kernel
theorem dX3_nextToken_160 : decode cX3_nextToken 160 = .ok (.invokevirtual 60, 3) := by decide +kernel
theorem dX3_nextToken_163 : decode cX3_nextToken 163 = .ok (.return_, 1) := by decide +kernel
theorem dX3_takeName_0 : decode cX3_takeName 0 = .ok (.aload_n 0, 1) := by decide +kernel
theorem dX3_takeName_1 : decode cX3_takeName 1 = .ok (.getfield 34, 3) := by decide +kernel
theorem dX3_takeName_4 : decode cX3_takeName 4 = .ok (.aload_n 0, 1) := by decide +kernel
theorem dX3_takeName_5 : decode cX3_takeName 5 = .ok (.getfield 30, 3) := by decide +kernel
theorem dX3_takeName_8 : decode cX3_takeName 8 = .ok (.if_icmp .ge 31, 3) := by decide +kernel
theorem dX3_takeName_11 : decode cX3_takeName 11 = .ok (.aload_n 0, 1) := by decide +kernel
theorem dX3_takeName_12 : decode cX3_takeName 12 = .ok (.getfield 9, 3) := by decide +kernel
theorem dX3_takeName_15 : decode cX3_takeName 15 = .ok (.aload_n 0, 1) := by decide +kernel
theorem dX3_takeName_16 : decode cX3_takeName 16 = .ok (.getfield 34, 3) := by decide +kernel
theorem dX3_takeName_19 : decode cX3_takeName 19 = .ok (.baload, 1) := by decide +kernel
theorem dX3_takeName_20 : decode cX3_takeName 20 = .ok (.invokestatic 110, 3) := by decide +kernel
theorem dX3_takeName_23 : decode cX3_takeName 23 = .ok (.ifCond .eq 16, 3) := by decide +kernel
theorem dX3_takeName_26 : decode cX3_takeName 26 = .ok (.aload_n 0, 1) := by decide +kernel
theorem dX3_takeName_27 : decode cX3_takeName 27 = .ok (.dup, 1) := by decide +kernel
theorem dX3_takeName_28 : decode cX3_takeName 28 = .ok (.getfield 34, 3) := by decide +kernel
theorem dX3_takeName_31 : decode cX3_takeName 31 = .ok (.iconst 1, 1) := by decide +kernel
theorem dX3_takeName_32 : decode cX3_takeName 32 = .ok (.iadd, 1) := by decide +kernel
theorem dX3_takeName_33 : decode cX3_takeName 33 = .ok (.putfield 34, 3) := by decide +kernel
theorem dX3_takeName_36 : decode cX3_takeName 36 = .ok (.goto (-36), 3) := by decide +kernel
theorem dX3_takeName_39 : decode cX3_takeName 39 = .ok (.aload_n 0, 1) := by decide +kernel
theorem dX3_takeName_40 : decode cX3_takeName 40 = .ok (.iconst 1, 1) := by decide +kernel
theorem dX3_takeName_41 : decode cX3_takeName 41 = .ok (.putfield 50, 3) := by decide +kernel
theorem dX3_takeName_44 : decode cX3_takeName 44 = .ok (.return_, 1) := by decide +kernel
theorem dX3_takeNumber_0 : decode cX3_takeNumber 0 = .ok (.aload_n 0, 1) := by decide +kernel
theorem dX3_takeNumber_1 : decode cX3_takeNumber 1 = .ok (.iconst 0, 1) := by decide +kernel
theorem dX3_takeNumber_2 : decode cX3_takeNumber 2 = .ok (.putfield 103, 3) := by decide +kernel
theorem dX3_takeNumber_5 : decode cX3_takeNumber 5 = .ok (.aload_n 0, 1) := by decide +kernel
theorem dX3_takeNumber_6 : decode cX3_takeNumber 6 = .ok (.getfield 34, 3) := by decide +kernel
theorem dX3_takeNumber_9 : decode cX3_takeNumber 9 = .ok (.aload_n 0, 1) := by decide +kernel
theorem dX3_takeNumber_10 : decode cX3_takeNumber 10 = .ok (.getfield 30, 3) := by decide +kernel
theorem dX3_takeNumber_13 : decode cX3_takeNumber 13 = .ok (.if_icmp .ge 55, 3) := by decide +kernel
theorem dX3_takeNumber_16 : decode cX3_takeNumber 16 = .ok (.aload_n 0, 1) := by decide +kernel
theorem dX3_takeNumber_17 : decode cX3_takeNumber 17 = .ok (.getfield 9, 3) := by decide +kernel
theorem dX3_takeNumber_20 : decode cX3_takeNumber 20 = .ok (.aload_n 0, 1) := by decide +kernel
theorem dX3_takeNumber_21 : decode cX3_takeNumber 21 = .ok (.getfield 34, 3) := by decide +kernel
theorem dX3_takeNumber_24 : decode cX3_takeNumber 24 = .ok (.baload, 1) := by decide +kernel
theorem dX3_takeNumber_25 : decode cX3_takeNumber 25 = .ok (.invokestatic 117, 3) := by decide +kernel
theorem dX3_takeNumber_28 : decode cX3_takeNumber 28 = .ok (.ifCond .eq 40, 3) := by decide +kernel
theorem dX3_takeNumber_31 : decode cX3_takeNumber 31 = .ok (.aload_n 0, 1) := by decide +kernel
theorem dX3_takeNumber_32 : decode cX3_takeNumber 32 = .ok (.aload_n 0, 1) := by decide +kernel
theorem dX3_takeNumber_33 : decode cX3_takeNumber 33 = .ok (.getfield 103, 3) := by decide +kernel
theorem dX3_takeNumber_36 : decode cX3_takeNumber 36 = .ok (.bipush 10, 2) := by decide +kernel
theorem dX3_takeNumber_38 : decode cX3_takeNumber 38 = .ok (.imul, 1) := by decide +kernel
theorem dX3_takeNumber_39 : decode cX3_takeNumber 39 = .ok (.aload_n 0, 1) := by decide +kernel
theorem dX3_takeNumber_40 : decode cX3_takeNumber 40 = .ok (.getfield 9, 3) := by decide +kernel
theorem dX3_takeNumber_43 : decode cX3_takeNumber 43 = .ok (.aload_n 0, 1) := by decide +kernel
theorem dX3_takeNumber_44 : decode cX3_takeNumber 44 = .ok (.getfield 34, 3) := by decide +kernel
theorem dX3_takeNumber_47 : decode cX3_takeNumber 47 = .ok (.baload, 1) := by decide +kernel
theorem dX3_takeNumber_48 : decode cX3_takeNumber 48 = .ok (.iadd, 1) := by decide +kernel
theorem dX3_takeNumber_49 : decode cX3_takeNumber 49 = .ok (.bipush 48, 2) := by decide +kernel
theorem dX3_takeNumber_51 : decode cX3_takeNumber 51 = .ok (.isub, 1) := by decide +kernel
theorem dX3_takeNumber_52 : decode cX3_takeNumber 52 = .ok (.putfield 103, 3) := by decide +kernel
theorem dX3_takeNumber_55 : decode cX3_takeNumber 55 = .ok (.aload_n 0, 1) := by decide +kernel
theorem dX3_takeNumber_56 : decode cX3_takeNumber 56 = .ok (.dup, 1) := by decide +kernel
theorem dX3_takeNumber_57 : decode cX3_takeNumber 57 = .ok (.getfield 34, 3) := by decide +kernel
theorem dX3_takeNumber_60 : decode cX3_takeNumber 60 = .ok (.iconst 1, 1) := by decide +kernel
theorem dX3_takeNumber_61 : decode cX3_takeNumber 61 = .ok (.iadd, 1) := by decide +kernel
theorem dX3_takeNumber_62 : decode cX3_takeNumber 62 = .ok (.putfield 34, 3) := by decide +kernel
theorem dX3_takeNumber_65 : decode cX3_takeNumber 65 = .ok (.goto (-60), 3) := by decide +kernel
theorem dX3_takeNumber_68 : decode cX3_takeNumber 68 = .ok (.aload_n 0, 1) := by decide +kernel
theorem dX3_takeNumber_69 : decode cX3_takeNumber 69 = .ok (.getfield 34, 3) := by decide +kernel
theorem dX3_takeNumber_72 : decode cX3_takeNumber 72 = .ok (.aload_n 0, 1) := by decide +kernel
theorem dX3_takeNumber_73 : decode cX3_takeNumber 73 = .ok (.getfield 68, 3) := by decide +kernel
theorem dX3_takeNumber_76 : decode cX3_takeNumber 76 = .ok (.isub, 1) := by decide +kernel
theorem dX3_takeNumber_77 : decode cX3_takeNumber 77 = .ok (.iconst 2, 1) := by decide +kernel
theorem dX3_takeNumber_78 : decode cX3_takeNumber 78 = .ok (.if_icmp .le 15, 3) := by decide +kernel
theorem dX3_takeNumber_81 : decode cX3_takeNumber 81 = .ok (.aload_n 0, 1) := by decide +kernel
theorem dX3_takeNumber_82 : decode cX3_takeNumber 82 = .ok (.iconst 1, 1) := by decide +kernel
theorem dX3_takeNumber_83 : decode cX3_takeNumber 83 = .ok (.aload_n 0, 1) := by decide +kernel
theorem dX3_takeNumber_84 : decode cX3_takeNumber 84 = .ok (.getfield 68, 3) := by decide +kernel
theorem dX3_takeNumber_87 : decode cX3_takeNumber 87 = .ok (.invokevirtual 60, 3) := by decide +kernel
theorem dX3_takeNumber_90 : decode cX3_takeNumber 90 = .ok (.goto 8, 3) := by decide +kernel
theorem dX3_takeNumber_93 : decode cX3_takeNumber 93 = .ok (.aload_n 0, 1) := by decide +kernel
theorem dX3_takeNumber_94 : decode cX3_takeNumber 94 = .ok (.iconst 2, 1) := by decide +kernel
theorem dX3_takeNumber_95 : decode cX3_takeNumber 95 = .ok (.putfield 50, 3) := by decide +kernel
theorem dX3_takeNumber_98 : decode cX3_takeNumber 98 = .ok (.return_, 1) := by decide +kernel
theorem dX3_isLetter_0 : decode cX3_isLetter 0 = .ok (.iload_n 0, 1) := by decide +kernel
theorem dX3_isLetter_1 : decode cX3_isLetter 1 = .ok (.bipush 97, 2) := by decide +kernel
theorem dX3_isLetter_3 : decode cX3_isLetter 3 = .ok (.if_icmp .lt 13, 3) := by decide +kernel
theorem dX3_isLetter_6 : decode cX3_isLetter 6 = .ok (.iload_n 0, 1) := by decide +kernel
theorem dX3_isLetter_7 : decode cX3_isLetter 7 = .ok (.bipush 122, 2) := by decide +kernel
theorem dX3_isLetter_9 : decode cX3_isLetter 9 = .ok (.if_icmp .gt 7, 3) := by decide +kernel
theorem dX3_isLetter_12 : decode cX3_isLetter 12 = .ok (.iconst 1, 1) := by decide +kernel
theorem dX3_isLetter_13 : decode cX3_isLetter 13 = .ok (.goto 4, 3) := by decide +kernel
theorem dX3_isLetter_16 : decode cX3_isLetter 16 = .ok (.iconst 0, 1) := by decide +kernel
theorem dX3_isLetter_17 : decode cX3_isLetter 17 = .ok (.ireturn, 1) := by decide +kernel
theorem dX3_isFigure_0 : decode cX3_isFigure 0 = .ok (.iload_n 0, 1) := by decide +kernel
theorem dX3_isFigure_1 : decode cX3_isFigure 1 = .ok (.bipush 48, 2) := by decide +kernel
theorem dX3_isFigure_3 : decode cX3_isFigure 3 = .ok (.if_icmp .lt 13, 3) := by decide +kernel
theorem dX3_isFigure_6 : decode cX3_isFigure 6 = .ok (.iload_n 0, 1) := by decide +kernel
theorem dX3_isFigure_7 : decode cX3_isFigure 7 = .ok (.bipush 57, 2) := by decide +kernel
theorem dX3_isFigure_9 : decode cX3_isFigure 9 = .ok (.if_icmp .gt 7, 3) := by decide +kernel
theorem dX3_isFigure_12 : decode cX3_isFigure 12 = .ok (.iconst 1, 1) := by decide +kernel
theorem dX3_isFigure_13 : decode cX3_isFigure 13 = .ok (.goto 4, 3) := by decide +kernel
theorem dX3_isFigure_16 : decode cX3_isFigure 16 = .ok (.iconst 0, 1) := by decide +kernel
theorem dX3_isFigure_17 : decode cX3_isFigure 17 = .ok (.ireturn, 1) := by decide +kernel
theorem dX3_lineNamed_0 : decode cX3_lineNamed 0 = .ok (.iconst 0, 1) := by decide +kernel
theorem dX3_lineNamed_1 : decode cX3_lineNamed 1 = .ok (.istore_n 1, 1) := by decide +kernel
theorem dX3_lineNamed_2 : decode cX3_lineNamed 2 = .ok (.iload_n 1, 1) := by decide +kernel
theorem dX3_lineNamed_3 : decode cX3_lineNamed 3 = .ok (.bipush 6, 2) := by decide +kernel
theorem dX3_lineNamed_5 : decode cX3_lineNamed 5 = .ok (.if_icmp .ge 22, 3) := by decide +kernel
theorem dX3_lineNamed_8 : decode cX3_lineNamed 8 = .ok (.aload_n 0, 1) := by decide +kernel
theorem dX3_lineNamed_9 : decode cX3_lineNamed 9 = .ok (.iload_n 1, 1) := by decide +kernel
theorem dX3_lineNamed_10 : decode cX3_lineNamed 10 = .ok (.invokestatic 123, 3) := by decide +kernel
theorem dX3_lineNamed_13 : decode cX3_lineNamed 13 = .ok (.invokevirtual 127, 3) := by decide +kernel
theorem dX3_lineNamed_16 : decode cX3_lineNamed 16 = .ok (.ifCond .eq 5, 3) := by decide +kernel
theorem dX3_lineNamed_19 : decode cX3_lineNamed 19 = .ok (.iload_n 1, 1) := by decide +kernel
theorem dX3_lineNamed_20 : decode cX3_lineNamed 20 = .ok (.ireturn, 1) := by decide +kernel
theorem dX3_lineNamed_21 : decode cX3_lineNamed 21 = .ok (.iinc 1 1, 3) := by decide +kernel
theorem dX3_lineNamed_24 : decode cX3_lineNamed 24 = .ok (.goto (-22), 3) := by decide +kernel
theorem dX3_lineNamed_27 : decode cX3_lineNamed 27 = .ok (.bipush (-4), 2) := by decide +kernel
theorem dX3_lineNamed_29 : decode cX3_lineNamed 29 = .ok (.ireturn, 1) := by decide +kernel
theorem dX3_nameIs_0 : decode cX3_nameIs 0 = .ok (.aload_n 0, 1) := by decide +kernel
theorem dX3_nameIs_1 : decode cX3_nameIs 1 = .ok (.getfield 34, 3) := by decide +kernel
theorem dX3_nameIs_4 : decode cX3_nameIs 4 = .ok (.aload_n 0, 1) := by decide +kernel
theorem dX3_nameIs_5 : decode cX3_nameIs 5 = .ok (.getfield 68, 3) := by decide +kernel
theorem dX3_nameIs_8 : decode cX3_nameIs 8 = .ok (.isub, 1) := by decide +kernel
theorem dX3_nameIs_9 : decode cX3_nameIs 9 = .ok (.aload_n 1, 1) := by decide +kernel
theorem dX3_nameIs_10 : decode cX3_nameIs 10 = .ok (.invokevirtual 131, 3) := by decide +kernel
theorem dX3_nameIs_13 : decode cX3_nameIs 13 = .ok (.if_icmp .eq 5, 3) := by decide +kernel
theorem dX3_nameIs_16 : decode cX3_nameIs 16 = .ok (.iconst 0, 1) := by decide +kernel
theorem dX3_nameIs_17 : decode cX3_nameIs 17 = .ok (.ireturn, 1) := by decide +kernel
theorem dX3_nameIs_18 : decode cX3_nameIs 18 = .ok (.iconst 0, 1) := by decide +kernel
theorem dX3_nameIs_19 : decode cX3_nameIs 19 = .ok (.istore_n 2, 1) := by decide +kernel
theorem dX3_nameIs_20 : decode cX3_nameIs 20 = .ok (.iload_n 2, 1) := by decide +kernel
theorem dX3_nameIs_21 : decode cX3_nameIs 21 = .ok (.aload_n 1, 1) := by decide +kernel
theorem dX3_nameIs_22 : decode cX3_nameIs 22 = .ok (.invokevirtual 131, 3) := by decide +kernel
theorem dX3_nameIs_25 : decode cX3_nameIs 25 = .ok (.if_icmp .ge 30, 3) := by decide +kernel
theorem dX3_nameIs_28 : decode cX3_nameIs 28 = .ok (.aload_n 0, 1) := by decide +kernel
theorem dX3_nameIs_29 : decode cX3_nameIs 29 = .ok (.getfield 9, 3) := by decide +kernel
theorem dX3_nameIs_32 : decode cX3_nameIs 32 = .ok (.aload_n 0, 1) := by decide +kernel
theorem dX3_nameIs_33 : decode cX3_nameIs 33 = .ok (.getfield 68, 3) := by decide +kernel
theorem dX3_nameIs_36 : decode cX3_nameIs 36 = .ok (.iload_n 2, 1) := by decide +kernel
theorem dX3_nameIs_37 : decode cX3_nameIs 37 = .ok (.iadd, 1) := by decide +kernel
theorem dX3_nameIs_38 : decode cX3_nameIs 38 = .ok (.baload, 1) := by decide +kernel
theorem dX3_nameIs_39 : decode cX3_nameIs 39 = .ok (.aload_n 1, 1) := by decide +kernel
theorem dX3_nameIs_40 : decode cX3_nameIs 40 = .ok (.iload_n 2, 1) := by decide +kernel
theorem dX3_nameIs_41 : decode cX3_nameIs 41 = .ok (.invokevirtual 135, 3) := by decide +kernel
theorem dX3_nameIs_44 : decode cX3_nameIs 44 = .ok (.if_icmp .eq 5, 3) := by decide +kernel
theorem dX3_nameIs_47 : decode cX3_nameIs 47 = .ok (.iconst 0, 1) := by decide +kernel
theorem dX3_nameIs_48 : decode cX3_nameIs 48 = .ok (.ireturn, 1) := by decide +kernel
