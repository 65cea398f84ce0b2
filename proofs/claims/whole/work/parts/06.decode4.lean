theorem dX5_mostOf_20 : decode cX5_mostOf 20 = .ok (.ireturn, 1) := by decide +kernel
theorem dX5_alter_0 : decode cX5_alter 0 = .ok (.aload_n 0, 1) := by decide +kernel
theorem dX5_alter_1 : decode cX5_alter 1 = .ok (.iload_n 1, 1) := by decide +kernel
theorem dX5_alter_2 : decode cX5_alter 2 = .ok (.invokevirtual 192, 3) := by decide +kernel
theorem dX5_alter_5 : decode cX5_alter 5 = .ok (.ifCond .eq 33, 3) := by decide +kernel
theorem dX5_alter_8 : decode cX5_alter 8 = .ok (.iload_n 2, 1) := by decide +kernel
theorem dX5_alter_9 : decode cX5_alter 9 = .ok (.i2l, 1) := by decide +kernel
theorem dX5_alter_10 : decode cX5_alter 10 = .ok (.lconst 0, 1) := by decide +kernel
theorem dX5_alter_11 : decode cX5_alter 11 = .ok (.ldc2_w 198, 3) := by decide +kernel
theorem dX5_alter_14 : decode cX5_alter 14 = .ok (.invokestatic 63, 3) := by decide +kernel
theorem dX5_alter_17 : decode cX5_alter 17 = .ok (.ifCond .eq 21, 3) := by decide +kernel
theorem dX5_alter_20 : decode cX5_alter 20 = .ok (.iload_n 3, 1) := by decide +kernel
theorem dX5_alter_21 : decode cX5_alter 21 = .ok (.i2l, 1) := by decide +kernel
theorem dX5_alter_22 : decode cX5_alter 22 = .ok (.iload_n 2, 1) := by decide +kernel
theorem dX5_alter_23 : decode cX5_alter 23 = .ok (.invokestatic 202, 3) := by decide +kernel
theorem dX5_alter_26 : decode cX5_alter 26 = .ok (.i2l, 1) := by decide +kernel
theorem dX5_alter_27 : decode cX5_alter 27 = .ok (.iload_n 2, 1) := by decide +kernel
theorem dX5_alter_28 : decode cX5_alter 28 = .ok (.invokestatic 205, 3) := by decide +kernel
theorem dX5_alter_31 : decode cX5_alter 31 = .ok (.i2l, 1) := by decide +kernel
theorem dX5_alter_32 : decode cX5_alter 32 = .ok (.invokestatic 63, 3) := by decide +kernel
theorem dX5_alter_35 : decode cX5_alter 35 = .ok (.ifCond .ne 5, 3) := by decide +kernel
theorem dX5_alter_38 : decode cX5_alter 38 = .ok (.iconst (-1), 1) := by decide +kernel
theorem dX5_alter_39 : decode cX5_alter 39 = .ok (.ireturn, 1) := by decide +kernel
theorem dX5_alter_40 : decode cX5_alter 40 = .ok (.aload_n 0, 1) := by decide +kernel
theorem dX5_alter_41 : decode cX5_alter 41 = .ok (.bipush 7, 2) := by decide +kernel
theorem dX5_alter_43 : decode cX5_alter 43 = .ok (.iload_n 1, 1) := by decide +kernel
theorem dX5_alter_44 : decode cX5_alter 44 = .ok (.imul, 1) := by decide +kernel
theorem dX5_alter_45 : decode cX5_alter 45 = .ok (.iload_n 2, 1) := by decide +kernel
theorem dX5_alter_46 : decode cX5_alter 46 = .ok (.iadd, 1) := by decide +kernel
theorem dX5_alter_47 : decode cX5_alter 47 = .ok (.iload_n 3, 1) := by decide +kernel
theorem dX5_alter_48 : decode cX5_alter 48 = .ok (.invokevirtual 208, 3) := by decide +kernel
theorem dX5_alter_51 : decode cX5_alter 51 = .ok (.istore 4, 2) := by decide +kernel
theorem dX5_alter_53 : decode cX5_alter 53 = .ok (.aload_n 0, 1) := by decide +kernel
theorem dX5_alter_54 : decode cX5_alter 54 = .ok (.invokevirtual 183, 3) := by decide +kernel
theorem dX5_alter_57 : decode cX5_alter 57 = .ok (.aload_n 0, 1) := by decide +kernel
theorem dX5_alter_58 : decode cX5_alter 58 = .ok (.iload_n 1, 1) := by decide +kernel
theorem dX5_alter_59 : decode cX5_alter 59 = .ok (.invokevirtual 211, 3) := by decide +kernel
theorem dX5_alter_62 : decode cX5_alter 62 = .ok (.aload_n 0, 1) := by decide +kernel
theorem dX5_alter_63 : decode cX5_alter 63 = .ok (.invokevirtual 214, 3) := by decide +kernel
theorem dX5_alter_66 : decode cX5_alter 66 = .ok (.iload 4, 2) := by decide +kernel
theorem dX5_alter_68 : decode cX5_alter 68 = .ok (.ireturn, 1) := by decide +kernel
theorem dX5_every_0 : decode cX5_every 0 = .ok (.iload_n 1, 1) := by decide +kernel
theorem dX5_every_1 : decode cX5_every 1 = .ok (.i2l, 1) := by decide +kernel
theorem dX5_every_2 : decode cX5_every 2 = .ok (.lconst 1, 1) := by decide +kernel
theorem dX5_every_3 : decode cX5_every 3 = .ok (.ldc2_w 217, 3) := by decide +kernel
theorem dX5_every_6 : decode cX5_every 6 = .ok (.invokestatic 63, 3) := by decide +kernel
theorem dX5_every_9 : decode cX5_every 9 = .ok (.ifCond .eq 13, 3) := by decide +kernel
theorem dX5_every_12 : decode cX5_every 12 = .ok (.aload_n 0, 1) := by decide +kernel
theorem dX5_every_13 : decode cX5_every 13 = .ok (.bipush 54, 2) := by decide +kernel
theorem dX5_every_15 : decode cX5_every 15 = .ok (.iload_n 1, 1) := by decide +kernel
theorem dX5_every_16 : decode cX5_every 16 = .ok (.invokevirtual 208, 3) := by decide +kernel
theorem dX5_every_19 : decode cX5_every 19 = .ok (.goto 4, 3) := by decide +kernel
theorem dX5_every_22 : decode cX5_every 22 = .ok (.iconst (-1), 1) := by decide +kernel
theorem dX5_every_23 : decode cX5_every 23 = .ok (.ireturn, 1) := by decide +kernel
theorem dX5_strike_0 : decode cX5_strike 0 = .ok (.iload_n 1, 1) := by decide +kernel
theorem dX5_strike_1 : decode cX5_strike 1 = .ok (.i2l, 1) := by decide +kernel
theorem dX5_strike_2 : decode cX5_strike 2 = .ok (.lconst 0, 1) := by decide +kernel
theorem dX5_strike_3 : decode cX5_strike 3 = .ok (.ldc2_w 219, 3) := by decide +kernel
theorem dX5_strike_6 : decode cX5_strike 6 = .ok (.invokestatic 63, 3) := by decide +kernel
theorem dX5_strike_9 : decode cX5_strike 9 = .ok (.ifCond .eq 21, 3) := by decide +kernel
theorem dX5_strike_12 : decode cX5_strike 12 = .ok (.aload_n 0, 1) := by decide +kernel
theorem dX5_strike_13 : decode cX5_strike 13 = .ok (.iload_n 2, 1) := by decide +kernel
theorem dX5_strike_14 : decode cX5_strike 14 = .ok (.invokevirtual 192, 3) := by decide +kernel
theorem dX5_strike_17 : decode cX5_strike 17 = .ok (.ifCond .eq 13, 3) := by decide +kernel
theorem dX5_strike_20 : decode cX5_strike 20 = .ok (.iload_n 3, 1) := by decide +kernel
theorem dX5_strike_21 : decode cX5_strike 21 = .ok (.i2l, 1) := by decide +kernel
theorem dX5_strike_22 : decode cX5_strike 22 = .ok (.lconst 0, 1) := by decide +kernel
theorem dX5_strike_23 : decode cX5_strike 23 = .ok (.lconst 1, 1) := by decide +kernel
theorem dX5_strike_24 : decode cX5_strike 24 = .ok (.invokestatic 63, 3) := by decide +kernel
theorem dX5_strike_27 : decode cX5_strike 27 = .ok (.ifCond .ne 5, 3) := by decide +kernel
theorem dX5_strike_30 : decode cX5_strike 30 = .ok (.iconst (-1), 1) := by decide +kernel
theorem dX5_strike_31 : decode cX5_strike 31 = .ok (.ireturn, 1) := by decide +kernel
theorem dX5_strike_32 : decode cX5_strike 32 = .ok (.aload_n 0, 1) := by decide +kernel
theorem dX5_strike_33 : decode cX5_strike 33 = .ok (.getfield 7, 3) := by decide +kernel
theorem dX5_strike_36 : decode cX5_strike 36 = .ok (.bipush 53, 2) := by decide +kernel
theorem dX5_strike_38 : decode cX5_strike 38 = .ok (.iaload, 1) := by decide +kernel
theorem dX5_strike_39 : decode cX5_strike 39 = .ok (.bipush 8, 2) := by decide +kernel
theorem dX5_strike_41 : decode cX5_strike 41 = .ok (.if_icmp .ne 6, 3) := by decide +kernel
theorem dX5_strike_44 : decode cX5_strike 44 = .ok (.bipush (-3), 2) := by decide +kernel
theorem dX5_strike_46 : decode cX5_strike 46 = .ok (.ireturn, 1) := by decide +kernel
theorem dX5_strike_47 : decode cX5_strike 47 = .ok (.bipush 29, 2) := by decide +kernel
theorem dX5_strike_49 : decode cX5_strike 49 = .ok (.iconst 3, 1) := by decide +kernel
theorem dX5_strike_50 : decode cX5_strike 50 = .ok (.aload_n 0, 1) := by decide +kernel
theorem dX5_strike_51 : decode cX5_strike 51 = .ok (.getfield 7, 3) := by decide +kernel
theorem dX5_strike_54 : decode cX5_strike 54 = .ok (.bipush 53, 2) := by decide +kernel
theorem dX5_strike_56 : decode cX5_strike 56 = .ok (.iaload, 1) := by decide +kernel
theorem dX5_strike_57 : decode cX5_strike 57 = .ok (.imul, 1) := by decide +kernel
theorem dX5_strike_58 : decode cX5_strike 58 = .ok (.iadd, 1) := by decide +kernel
theorem dX5_strike_59 : decode cX5_strike 59 = .ok (.istore 4, 2) := by decide +kernel
theorem dX5_strike_61 : decode cX5_strike 61 = .ok (.aload_n 0, 1) := by decide +kernel
theorem dX5_strike_62 : decode cX5_strike 62 = .ok (.getfield 7, 3) := by decide +kernel
theorem dX5_strike_65 : decode cX5_strike 65 = .ok (.iload 4, 2) := by decide +kernel
theorem dX5_strike_67 : decode cX5_strike 67 = .ok (.iconst 0, 1) := by decide +kernel
theorem dX5_strike_68 : decode cX5_strike 68 = .ok (.iadd, 1) := by decide +kernel
theorem dX5_strike_69 : decode cX5_strike 69 = .ok (.iload_n 1, 1) := by decide +kernel
theorem dX5_strike_70 : decode cX5_strike 70 = .ok (.iastore, 1) := by decide +kernel
theorem dX5_strike_71 : decode cX5_strike 71 = .ok (.aload_n 0, 1) := by decide +kernel
theorem dX5_strike_72 : decode cX5_strike 72 = .ok (.getfield 7, 3) := by decide +kernel
theorem dX5_strike_75 : decode cX5_strike 75 = .ok (.iload 4, 2) := by decide +kernel
theorem dX5_strike_77 : decode cX5_strike 77 = .ok (.iconst 1, 1) := by decide +kernel
theorem dX5_strike_78 : decode cX5_strike 78 = .ok (.iadd, 1) := by decide +kernel
theorem dX5_strike_79 : decode cX5_strike 79 = .ok (.iload_n 2, 1) := by decide +kernel
theorem dX5_strike_80 : decode cX5_strike 80 = .ok (.iastore, 1) := by decide +kernel
theorem dX5_strike_81 : decode cX5_strike 81 = .ok (.aload_n 0, 1) := by decide +kernel
theorem dX5_strike_82 : decode cX5_strike 82 = .ok (.getfield 7, 3) := by decide +kernel
theorem dX5_strike_85 : decode cX5_strike 85 = .ok (.iload 4, 2) := by decide +kernel
theorem dX5_strike_87 : decode cX5_strike 87 = .ok (.iconst 2, 1) := by decide +kernel
theorem dX5_strike_88 : decode cX5_strike 88 = .ok (.iadd, 1) := by decide +kernel
theorem dX5_strike_89 : decode cX5_strike 89 = .ok (.iload_n 3, 1) := by decide +kernel
theorem dX5_strike_90 : decode cX5_strike 90 = .ok (.iastore, 1) := by decide +kernel
theorem dX5_strike_91 : decode cX5_strike 91 = .ok (.aload_n 0, 1) := by decide +kernel
theorem dX5_strike_92 : decode cX5_strike 92 = .ok (.getfield 7, 3) := by decide +kernel
theorem dX5_strike_95 : decode cX5_strike 95 = .ok (.bipush 53, 2) := by decide +kernel
theorem dX5_strike_97 : decode cX5_strike 97 = .ok (.dup2, 1) := by decide +kernel
theorem dX5_strike_98 : decode cX5_strike 98 = .ok (.iaload, 1) := by decide +kernel
theorem dX5_strike_99 : decode cX5_strike 99 = .ok (.iconst 1, 1) := by decide +kernel
theorem dX5_strike_100 : decode cX5_strike 100 = .ok (.iadd, 1) := by decide +kernel
theorem dX5_strike_101 : decode cX5_strike 101 = .ok (.iastore, 1) := by decide +kernel
theorem dX5_strike_102 : decode cX5_strike 102 = .ok (.aload_n 0, 1) := by decide +kernel
theorem dX5_strike_103 : decode cX5_strike 103 = .ok (.getfield 7, 3) := by decide +kernel
theorem dX5_strike_106 : decode cX5_strike 106 = .ok (.bipush 53, 2) := by decide +kernel
theorem dX5_strike_108 : decode cX5_strike 108 = .ok (.iaload, 1) := by decide +kernel
theorem dX5_strike_109 : decode cX5_strike 109 = .ok (.ireturn, 1) := by decide +kernel
theorem dX5_drop_0 : decode cX5_drop 0 = .ok (.iload_n 1, 1) := by decide +kernel
theorem dX5_drop_1 : decode cX5_drop 1 = .ok (.i2l, 1) := by decide +kernel
theorem dX5_drop_2 : decode cX5_drop 2 = .ok (.lconst 0, 1) := by decide +kernel
theorem dX5_drop_3 : decode cX5_drop 3 = .ok (.aload_n 0, 1) := by decide +kernel
theorem dX5_drop_4 : decode cX5_drop 4 = .ok (.getfield 7, 3) := by decide +kernel
theorem dX5_drop_7 : decode cX5_drop 7 = .ok (.bipush 53, 2) := by decide +kernel
theorem dX5_drop_9 : decode cX5_drop 9 = .ok (.iaload, 1) := by decide +kernel
theorem dX5_drop_10 : decode cX5_drop 10 = .ok (.i2l, 1) := by decide +kernel
theorem dX5_drop_11 : decode cX5_drop 11 = .ok (.invokestatic 63, 3) := by decide +kernel
theorem dX5_drop_14 : decode cX5_drop 14 = .ok (.ifCond .eq 13, 3) := by decide +kernel
theorem dX5_drop_17 : decode cX5_drop 17 = .ok (.aload_n 0, 1) := by decide +kernel
theorem dX5_drop_18 : decode cX5_drop 18 = .ok (.bipush 53, 2) := by decide +kernel
theorem dX5_drop_20 : decode cX5_drop 20 = .ok (.iload_n 1, 1) := by decide +kernel
theorem dX5_drop_21 : decode cX5_drop 21 = .ok (.invokevirtual 208, 3) := by decide +kernel
theorem dX5_drop_24 : decode cX5_drop 24 = .ok (.goto 4, 3) := by decide +kernel
theorem dX5_drop_27 : decode cX5_drop 27 = .ok (.iconst (-1), 1) := by decide +kernel
theorem dX5_drop_28 : decode cX5_drop 28 = .ok (.ireturn, 1) := by decide +kernel
theorem dX5_ticks_0 : decode cX5_ticks 0 = .ok (.iload_n 1, 1) := by decide +kernel
theorem dX5_ticks_1 : decode cX5_ticks 1 = .ok (.i2l, 1) := by decide +kernel
theorem dX5_ticks_2 : decode cX5_ticks 2 = .ok (.lconst 0, 1) := by decide +kernel
theorem dX5_ticks_3 : decode cX5_ticks 3 = .ok (.ldc2_w 221, 3) := by decide +kernel
theorem dX5_ticks_6 : decode cX5_ticks 6 = .ok (.invokestatic 63, 3) := by decide +kernel
theorem dX5_ticks_9 : decode cX5_ticks 9 = .ok (.ifCond .ne 5, 3) := by decide +kernel
theorem dX5_ticks_12 : decode cX5_ticks 12 = .ok (.iconst (-1), 1) := by decide +kernel
theorem dX5_ticks_13 : decode cX5_ticks 13 = .ok (.ireturn, 1) := by decide +kernel
theorem dX5_ticks_14 : decode cX5_ticks 14 = .ok (.aload_n 0, 1) := by decide +kernel
theorem dX5_ticks_15 : decode cX5_ticks 15 = .ok (.getfield 7, 3) := by decide +kernel
theorem dX5_ticks_18 : decode cX5_ticks 18 = .ok (.bipush 55, 2) := by decide +kernel
theorem dX5_ticks_20 : decode cX5_ticks 20 = .ok (.iaload, 1) := by decide +kernel
theorem dX5_ticks_21 : decode cX5_ticks 21 = .ok (.iload_n 1, 1) := by decide +kernel
theorem dX5_ticks_22 : decode cX5_ticks 22 = .ok (.iadd, 1) := by decide +kernel
theorem dX5_ticks_23 : decode cX5_ticks 23 = .ok (.sipush 999, 3) := by decide +kernel
theorem dX5_ticks_26 : decode cX5_ticks 26 = .ok (.if_icmp .le 6, 3) := by decide +kernel
theorem dX5_ticks_29 : decode cX5_ticks 29 = .ok (.bipush (-3), 2) := by decide +kernel
theorem dX5_ticks_31 : decode cX5_ticks 31 = .ok (.ireturn, 1) := by decide +kernel
theorem dX5_ticks_32 : decode cX5_ticks 32 = .ok (.aload_n 0, 1) := by decide +kernel
theorem dX5_ticks_33 : decode cX5_ticks 33 = .ok (.invokevirtual 183, 3) := by decide +kernel
theorem dX5_ticks_36 : decode cX5_ticks 36 = .ok (.aload_n 0, 1) := by decide +kernel
theorem dX5_ticks_37 : decode cX5_ticks 37 = .ok (.iload_n 1, 1) := by decide +kernel
theorem dX5_ticks_38 : decode cX5_ticks 38 = .ok (.invokevirtual 223, 3) := by decide +kernel
theorem dX5_ticks_41 : decode cX5_ticks 41 = .ok (.aload_n 0, 1) := by decide +kernel
theorem dX5_ticks_42 : decode cX5_ticks 42 = .ok (.invokevirtual 214, 3) := by decide +kernel
theorem dX5_ticks_45 : decode cX5_ticks 45 = .ok (.aload_n 0, 1) := by decide +kernel
theorem dX5_ticks_46 : decode cX5_ticks 46 = .ok (.invokevirtual 226, 3) := by decide +kernel
theorem dX5_ticks_49 : decode cX5_ticks 49 = .ok (.ireturn, 1) := by decide +kernel
theorem dX5_isFar_0 : decode cX5_isFar 0 = .ok (.iload_n 0, 1) := by decide +kernel
theorem dX5_isFar_1 : decode cX5_isFar 1 = .ok (.i2l, 1) := by decide +kernel
theorem dX5_isFar_2 : decode cX5_isFar 2 = .ok (.lconst 0, 1) := by decide +kernel
theorem dX5_isFar_3 : decode cX5_isFar 3 = .ok (.ldc2_w 229, 3) := by decide +kernel
theorem dX5_isFar_6 : decode cX5_isFar 6 = .ok (.invokestatic 63, 3) := by decide +kernel
theorem dX5_isFar_9 : decode cX5_isFar 9 = .ok (.ireturn, 1) := by decide +kernel
theorem dX5_runs_0 : decode cX5_runs 0 = .ok (.iload_n 1, 1) := by decide +kernel
theorem dX5_runs_1 : decode cX5_runs 1 = .ok (.invokestatic 231, 3) := by decide +kernel
theorem dX5_runs_4 : decode cX5_runs 4 = .ok (.ifCond .eq 15, 3) := by decide +kernel
theorem dX5_runs_7 : decode cX5_runs 7 = .ok (.iload_n 2, 1) := by decide +kernel
theorem dX5_runs_8 : decode cX5_runs 8 = .ok (.i2l, 1) := by decide +kernel
theorem dX5_runs_9 : decode cX5_runs 9 = .ok (.lconst 0, 1) := by decide +kernel
theorem dX5_runs_10 : decode cX5_runs 10 = .ok (.ldc2_w 234, 3) := by decide +kernel
theorem dX5_runs_13 : decode cX5_runs 13 = .ok (.invokestatic 63, 3) := by decide +kernel
theorem dX5_runs_16 : decode cX5_runs 16 = .ok (.ifCond .ne 5, 3) := by decide +kernel
theorem dX5_runs_19 : decode cX5_runs 19 = .ok (.iconst (-1), 1) := by decide +kernel
theorem dX5_runs_20 : decode cX5_runs 20 = .ok (.ireturn, 1) := by decide +kernel
theorem dX5_runs_21 : decode cX5_runs 21 = .ok (.iconst 0, 1) := by decide +kernel
theorem dX5_runs_22 : decode cX5_runs 22 = .ok (.istore_n 3, 1) := by decide +kernel
theorem dX5_runs_23 : decode cX5_runs 23 = .ok (.aload_n 0, 1) := by decide +kernel
theorem dX5_runs_24 : decode cX5_runs 24 = .ok (.invokevirtual 183, 3) := by decide +kernel
theorem dX5_runs_27 : decode cX5_runs 27 = .ok (.iconst 0, 1) := by decide +kernel
theorem dX5_runs_28 : decode cX5_runs 28 = .ok (.istore 4, 2) := by decide +kernel
theorem dX5_runs_30 : decode cX5_runs 30 = .ok (.iload 4, 2) := by decide +kernel
theorem dX5_runs_32 : decode cX5_runs 32 = .ok (.iload_n 1, 1) := by decide +kernel
theorem dX5_runs_33 : decode cX5_runs 33 = .ok (.if_icmp .ge 41, 3) := by decide +kernel
theorem dX5_runs_36 : decode cX5_runs 36 = .ok (.aload_n 0, 1) := by decide +kernel
theorem dX5_runs_37 : decode cX5_runs 37 = .ok (.invokevirtual 177, 3) := by decide +kernel
theorem dX5_runs_40 : decode cX5_runs 40 = .ok (.istore 5, 2) := by decide +kernel
theorem dX5_runs_42 : decode cX5_runs 42 = .ok (.aload_n 0, 1) := by decide +kernel
theorem dX5_runs_43 : decode cX5_runs 43 = .ok (.iload 5, 2) := by decide +kernel
theorem dX5_runs_45 : decode cX5_runs 45 = .ok (.invokevirtual 180, 3) := by decide +kernel
theorem dX5_runs_48 : decode cX5_runs 48 = .ok (.iload_n 3, 1) := by decide +kernel
theorem dX5_runs_49 : decode cX5_runs 49 = .ok (.iload 5, 2) := by decide +kernel
theorem dX5_runs_51 : decode cX5_runs 51 = .ok (.aload_n 0, 1) := by decide +kernel
theorem dX5_runs_52 : decode cX5_runs 52 = .ok (.invokevirtual 186, 3) := by decide +kernel
theorem dX5_runs_55 : decode cX5_runs 55 = .ok (.if_icmp .eq 7, 3) := by decide +kernel
theorem dX5_runs_58 : decode cX5_runs 58 = .ok (.iconst 1, 1) := by decide +kernel
theorem dX5_runs_59 : decode cX5_runs 59 = .ok (.goto 4, 3) := by decide +kernel
theorem dX5_runs_62 : decode cX5_runs 62 = .ok (.iconst 0, 1) := by decide +kernel
theorem dX5_runs_63 : decode cX5_runs 63 = .ok (.invokestatic 236, 3) := by decide +kernel
theorem dX5_runs_66 : decode cX5_runs 66 = .ok (.iadd, 1) := by decide +kernel
theorem dX5_runs_67 : decode cX5_runs 67 = .ok (.istore_n 3, 1) := by decide +kernel
theorem dX5_runs_68 : decode cX5_runs 68 = .ok (.iinc 4 1, 3) := by decide +kernel
theorem dX5_runs_71 : decode cX5_runs 71 = .ok (.goto (-41), 3) := by decide +kernel
theorem dX5_runs_74 : decode cX5_runs 74 = .ok (.iload_n 2, 1) := by decide +kernel
theorem dX5_runs_75 : decode cX5_runs 75 = .ok (.tableswitch 40 0 2 #[25, 30, 35], 25) := by decide +kernel
theorem dX5_runs_100 : decode cX5_runs 100 = .ok (.aload_n 0, 1) := by decide +kernel
theorem dX5_runs_101 : decode cX5_runs 101 = .ok (.invokevirtual 226, 3) := by decide +kernel
theorem dX5_runs_104 : decode cX5_runs 104 = .ok (.ireturn, 1) := by decide +kernel
theorem dX5_runs_105 : decode cX5_runs 105 = .ok (.aload_n 0, 1) := by decide +kernel
theorem dX5_runs_106 : decode cX5_runs 106 = .ok (.invokevirtual 186, 3) := by decide +kernel
theorem dX5_runs_109 : decode cX5_runs 109 = .ok (.ireturn, 1) := by decide +kernel
theorem dX5_runs_110 : decode cX5_runs 110 = .ok (.aload_n 0, 1) := by decide +kernel
theorem dX5_runs_111 : decode cX5_runs 111 = .ok (.getfield 133, 3) := by decide +kernel
theorem dX5_runs_114 : decode cX5_runs 114 = .ok (.ireturn, 1) := by decide +kernel
theorem dX5_runs_115 : decode cX5_runs 115 = .ok (.iload_n 3, 1) := by decide +kernel
theorem dX5_runs_116 : decode cX5_runs 116 = .ok (.ireturn, 1) := by decide +kernel
theorem dX5_ahead_0 : decode cX5_ahead 0 = .ok (.aload_n 0, 1) := by decide +kernel
theorem dX5_ahead_1 : decode cX5_ahead 1 = .ok (.iload_n 1, 1) := by decide +kernel
theorem dX5_ahead_2 : decode cX5_ahead 2 = .ok (.invokevirtual 192, 3) := by decide +kernel
theorem dX5_ahead_5 : decode cX5_ahead 5 = .ok (.ifCond .eq 17, 3) := by decide +kernel
theorem dX5_ahead_8 : decode cX5_ahead 8 = .ok (.iload_n 2, 1) := by decide +kernel
theorem dX5_ahead_9 : decode cX5_ahead 9 = .ok (.invokestatic 231, 3) := by decide +kernel
theorem dX5_ahead_12 : decode cX5_ahead 12 = .ok (.ifCond .eq 10, 3) := by decide +kernel
theorem dX5_ahead_15 : decode cX5_ahead 15 = .ok (.iload_n 3, 1) := by decide +kernel
theorem dX5_ahead_16 : decode cX5_ahead 16 = .ok (.invokestatic 240, 3) := by decide +kernel
theorem dX5_ahead_19 : decode cX5_ahead 19 = .ok (.ifCond .ne 5, 3) := by decide +kernel
theorem dX5_ahead_22 : decode cX5_ahead 22 = .ok (.iconst (-1), 1) := by decide +kernel
theorem dX5_ahead_23 : decode cX5_ahead 23 = .ok (.ireturn, 1) := by decide +kernel
theorem dX5_ahead_24 : decode cX5_ahead 24 = .ok (.aload_n 0, 1) := by decide +kernel
theorem dX5_ahead_25 : decode cX5_ahead 25 = .ok (.invokevirtual 183, 3) := by decide +kernel
theorem dX5_ahead_28 : decode cX5_ahead 28 = .ok (.aload_n 0, 1) := by decide +kernel
theorem dX5_ahead_29 : decode cX5_ahead 29 = .ok (.iload_n 2, 1) := by decide +kernel
theorem dX5_ahead_30 : decode cX5_ahead 30 = .ok (.invokevirtual 223, 3) := by decide +kernel
theorem dX5_ahead_33 : decode cX5_ahead 33 = .ok (.iload_n 3, 1) := by decide +kernel
theorem dX5_ahead_34 : decode cX5_ahead 34 = .ok (.ifCond .ne 12, 3) := by decide +kernel
theorem dX5_ahead_37 : decode cX5_ahead 37 = .ok (.aload_n 0, 1) := by decide +kernel
theorem dX5_ahead_38 : decode cX5_ahead 38 = .ok (.iload_n 1, 1) := by decide +kernel
theorem dX5_ahead_39 : decode cX5_ahead 39 = .ok (.iconst 3, 1) := by decide +kernel
theorem dX5_ahead_40 : decode cX5_ahead 40 = .ok (.invokevirtual 145, 3) := by decide +kernel
theorem dX5_ahead_43 : decode cX5_ahead 43 = .ok (.goto 9, 3) := by decide +kernel
theorem dX5_ahead_46 : decode cX5_ahead 46 = .ok (.aload_n 0, 1) := by decide +kernel
theorem dX5_ahead_47 : decode cX5_ahead 47 = .ok (.getfield 26, 3) := by decide +kernel
theorem dX5_ahead_50 : decode cX5_ahead 50 = .ok (.iload_n 1, 1) := by decide +kernel
theorem dX5_ahead_51 : decode cX5_ahead 51 = .ok (.iaload, 1) := by decide +kernel
theorem dX5_ahead_52 : decode cX5_ahead 52 = .ok (.ireturn, 1) := by decide +kernel
theorem dX5_when_0 : decode cX5_when 0 = .ok (.aload_n 0, 1) := by decide +kernel
theorem dX5_when_1 : decode cX5_when 1 = .ok (.iload_n 1, 1) := by decide +kernel
theorem dX5_when_2 : decode cX5_when 2 = .ok (.invokevirtual 192, 3) := by decide +kernel
theorem dX5_when_5 : decode cX5_when 5 = .ok (.ifCond .eq 13, 3) := by decide +kernel
theorem dX5_when_8 : decode cX5_when 8 = .ok (.iload_n 2, 1) := by decide +kernel
theorem dX5_when_9 : decode cX5_when 9 = .ok (.i2l, 1) := by decide +kernel
theorem dX5_when_10 : decode cX5_when 10 = .ok (.lconst 0, 1) := by decide +kernel
theorem dX5_when_11 : decode cX5_when 11 = .ok (.lconst 1, 1) := by decide +kernel
theorem dX5_when_12 : decode cX5_when 12 = .ok (.invokestatic 63, 3) := by decide +kernel
theorem dX5_when_15 : decode cX5_when 15 = .ok (.ifCond .ne 5, 3) := by decide +kernel
theorem dX5_when_18 : decode cX5_when 18 = .ok (.iconst (-1), 1) := by decide +kernel
theorem dX5_when_19 : decode cX5_when 19 = .ok (.ireturn, 1) := by decide +kernel
theorem dX5_when_20 : decode cX5_when 20 = .ok (.aload_n 0, 1) := by decide +kernel
theorem dX5_when_21 : decode cX5_when 21 = .ok (.invokevirtual 183, 3) := by decide +kernel
theorem dX5_when_24 : decode cX5_when 24 = .ok (.iconst 0, 1) := by decide +kernel
theorem dX5_when_25 : decode cX5_when 25 = .ok (.istore_n 3, 1) := by decide +kernel
theorem dX5_when_26 : decode cX5_when 26 = .ok (.iload_n 3, 1) := by decide +kernel
theorem dX5_when_27 : decode cX5_when 27 = .ok (.sipush 200, 3) := by decide +kernel
theorem dX5_when_30 : decode cX5_when 30 = .ok (.if_icmp .gt 26, 3) := by decide +kernel
theorem dX5_when_33 : decode cX5_when 33 = .ok (.aload_n 0, 1) := by decide +kernel
theorem dX5_when_34 : decode cX5_when 34 = .ok (.iload_n 1, 1) := by decide +kernel
theorem dX5_when_35 : decode cX5_when 35 = .ok (.iconst 3, 1) := by decide +kernel
theorem dX5_when_36 : decode cX5_when 36 = .ok (.invokevirtual 145, 3) := by decide +kernel
theorem dX5_when_39 : decode cX5_when 39 = .ok (.iload_n 2, 1) := by decide +kernel
theorem dX5_when_40 : decode cX5_when 40 = .ok (.if_icmp .ne 5, 3) := by decide +kernel
theorem dX5_when_43 : decode cX5_when 43 = .ok (.iload_n 3, 1) := by decide +kernel
theorem dX5_when_44 : decode cX5_when 44 = .ok (.ireturn, 1) := by decide +kernel
theorem dX5_when_45 : decode cX5_when 45 = .ok (.aload_n 0, 1) := by decide +kernel
theorem dX5_when_46 : decode cX5_when 46 = .ok (.iconst 1, 1) := by decide +kernel
theorem dX5_when_47 : decode cX5_when 47 = .ok (.invokevirtual 223, 3) := by decide +kernel
theorem dX5_when_50 : decode cX5_when 50 = .ok (.iinc 3 1, 3) := by decide +kernel
theorem dX5_when_53 : decode cX5_when 53 = .ok (.goto (-27), 3) := by decide +kernel
theorem dX5_when_56 : decode cX5_when 56 = .ok (.bipush (-4), 2) := by decide +kernel
theorem dX5_when_58 : decode cX5_when 58 = .ok (.ireturn, 1) := by decide +kernel
theorem dX5_dueIn_0 : decode cX5_dueIn 0 = .ok (.iconst 0, 1) := by decide +kernel
theorem dX5_dueIn_1 : decode cX5_dueIn 1 = .ok (.istore_n 2, 1) := by decide +kernel
theorem dX5_dueIn_2 : decode cX5_dueIn 2 = .ok (.iconst 0, 1) := by decide +kernel
theorem dX5_dueIn_3 : decode cX5_dueIn 3 = .ok (.istore_n 3, 1) := by decide +kernel
theorem dX5_dueIn_4 : decode cX5_dueIn 4 = .ok (.iload_n 3, 1) := by decide +kernel
theorem dX5_dueIn_5 : decode cX5_dueIn 5 = .ok (.aload_n 0, 1) := by decide +kernel
theorem dX5_dueIn_6 : decode cX5_dueIn 6 = .ok (.getfield 7, 3) := by decide +kernel
theorem dX5_dueIn_9 : decode cX5_dueIn 9 = .ok (.bipush 53, 2) := by decide +kernel
theorem dX5_dueIn_11 : decode cX5_dueIn 11 = .ok (.iaload, 1) := by decide +kernel
theorem dX5_dueIn_12 : decode cX5_dueIn 12 = .ok (.if_icmp .ge 77, 3) := by decide +kernel
theorem dX5_dueIn_15 : decode cX5_dueIn 15 = .ok (.bipush 29, 2) := by decide +kernel
theorem dX5_dueIn_17 : decode cX5_dueIn 17 = .ok (.iconst 3, 1) := by decide +kernel
theorem dX5_dueIn_18 : decode cX5_dueIn 18 = .ok (.iload_n 3, 1) := by decide +kernel
theorem dX5_dueIn_19 : decode cX5_dueIn 19 = .ok (.imul, 1) := by decide +kernel
theorem dX5_dueIn_20 : decode cX5_dueIn 20 = .ok (.iadd, 1) := by decide +kernel
theorem dX5_dueIn_21 : decode cX5_dueIn 21 = .ok (.istore 4, 2) := by decide +kernel
theorem dX5_dueIn_23 : decode cX5_dueIn 23 = .ok (.iload_n 2, 1) := by decide +kernel
theorem dX5_dueIn_24 : decode cX5_dueIn 24 = .ok (.aload_n 0, 1) := by decide +kernel
theorem dX5_dueIn_25 : decode cX5_dueIn 25 = .ok (.getfield 7, 3) := by decide +kernel
theorem dX5_dueIn_28 : decode cX5_dueIn 28 = .ok (.iload 4, 2) := by decide +kernel
theorem dX5_dueIn_30 : decode cX5_dueIn 30 = .ok (.iconst 2, 1) := by decide +kernel
theorem dX5_dueIn_31 : decode cX5_dueIn 31 = .ok (.iadd, 1) := by decide +kernel
theorem dX5_dueIn_32 : decode cX5_dueIn 32 = .ok (.iaload, 1) := by decide +kernel
theorem dX5_dueIn_33 : decode cX5_dueIn 33 = .ok (.iconst 1, 1) := by decide +kernel
theorem dX5_dueIn_34 : decode cX5_dueIn 34 = .ok (.if_icmp .ne 43, 3) := by decide +kernel
theorem dX5_dueIn_37 : decode cX5_dueIn 37 = .ok (.aload_n 0, 1) := by decide +kernel
theorem dX5_dueIn_38 : decode cX5_dueIn 38 = .ok (.getfield 7, 3) := by decide +kernel
theorem dX5_dueIn_41 : decode cX5_dueIn 41 = .ok (.iload 4, 2) := by decide +kernel
theorem dX5_dueIn_43 : decode cX5_dueIn 43 = .ok (.iconst 0, 1) := by decide +kernel
theorem dX5_dueIn_44 : decode cX5_dueIn 44 = .ok (.iadd, 1) := by decide +kernel
theorem dX5_dueIn_45 : decode cX5_dueIn 45 = .ok (.iaload, 1) := by decide +kernel
theorem dX5_dueIn_46 : decode cX5_dueIn 46 = .ok (.i2l, 1) := by decide +kernel
theorem dX5_dueIn_47 : decode cX5_dueIn 47 = .ok (.aload_n 0, 1) := by decide +kernel
theorem dX5_dueIn_48 : decode cX5_dueIn 48 = .ok (.getfield 7, 3) := by decide +kernel
theorem dX5_dueIn_51 : decode cX5_dueIn 51 = .ok (.bipush 55, 2) := by decide +kernel
theorem dX5_dueIn_53 : decode cX5_dueIn 53 = .ok (.iaload, 1) := by decide +kernel
theorem dX5_dueIn_54 : decode cX5_dueIn 54 = .ok (.i2l, 1) := by decide +kernel
theorem dX5_dueIn_55 : decode cX5_dueIn 55 = .ok (.aload_n 0, 1) := by decide +kernel
theorem dX5_dueIn_56 : decode cX5_dueIn 56 = .ok (.getfield 7, 3) := by decide +kernel
theorem dX5_dueIn_59 : decode cX5_dueIn 59 = .ok (.bipush 55, 2) := by decide +kernel
theorem dX5_dueIn_61 : decode cX5_dueIn 61 = .ok (.iaload, 1) := by decide +kernel
theorem dX5_dueIn_62 : decode cX5_dueIn 62 = .ok (.iload_n 1, 1) := by decide +kernel
theorem dX5_dueIn_63 : decode cX5_dueIn 63 = .ok (.iadd, 1) := by decide +kernel
theorem dX5_dueIn_64 : decode cX5_dueIn 64 = .ok (.iconst 1, 1) := by decide +kernel
theorem dX5_dueIn_65 : decode cX5_dueIn 65 = .ok (.isub, 1) := by decide +kernel
theorem dX5_dueIn_66 : decode cX5_dueIn 66 = .ok (.i2l, 1) := by decide +kernel
theorem dX5_dueIn_67 : decode cX5_dueIn 67 = .ok (.invokestatic 63, 3) := by decide +kernel
theorem dX5_dueIn_70 : decode cX5_dueIn 70 = .ok (.ifCond .eq 7, 3) := by decide +kernel
theorem dX5_dueIn_73 : decode cX5_dueIn 73 = .ok (.iconst 1, 1) := by decide +kernel
theorem dX5_dueIn_74 : decode cX5_dueIn 74 = .ok (.goto 4, 3) := by decide +kernel
theorem dX5_dueIn_77 : decode cX5_dueIn 77 = .ok (.iconst 0, 1) := by decide +kernel
theorem dX5_dueIn_78 : decode cX5_dueIn 78 = .ok (.invokestatic 236, 3) := by decide +kernel
theorem dX5_dueIn_81 : decode cX5_dueIn 81 = .ok (.iadd, 1) := by decide +kernel
theorem dX5_dueIn_82 : decode cX5_dueIn 82 = .ok (.istore_n 2, 1) := by decide +kernel
theorem dX5_dueIn_83 : decode cX5_dueIn 83 = .ok (.iinc 3 1, 3) := by decide +kernel
theorem dX5_dueIn_86 : decode cX5_dueIn 86 = .ok (.goto (-82), 3) := by decide +kernel
theorem dX5_dueIn_89 : decode cX5_dueIn 89 = .ok (.iload_n 2, 1) := by decide +kernel
theorem dX5_dueIn_90 : decode cX5_dueIn 90 = .ok (.ireturn, 1) := by decide +kernel
theorem dX5_due_0 : decode cX5_due 0 = .ok (.iload_n 1, 1) := by decide +kernel
theorem dX5_due_1 : decode cX5_due 1 = .ok (.invokestatic 231, 3) := by decide +kernel
theorem dX5_due_4 : decode cX5_due 4 = .ok (.ifCond .eq 11, 3) := by decide +kernel
theorem dX5_due_7 : decode cX5_due 7 = .ok (.aload_n 0, 1) := by decide +kernel
theorem dX5_due_8 : decode cX5_due 8 = .ok (.iload_n 1, 1) := by decide +kernel
theorem dX5_due_9 : decode cX5_due 9 = .ok (.invokevirtual 243, 3) := by decide +kernel
theorem dX5_due_12 : decode cX5_due 12 = .ok (.goto 4, 3) := by decide +kernel
theorem dX5_due_15 : decode cX5_due 15 = .ok (.iconst (-1), 1) := by decide +kernel
theorem dX5_due_16 : decode cX5_due 16 = .ok (.ireturn, 1) := by decide +kernel
theorem dX5_startsJudging_0 : decode cX5_startsJudging 0 = .ok (.aload_n 0, 1) := by decide +kernel
theorem dX5_startsJudging_1 : decode cX5_startsJudging 1 = .ok (.bipush (-4), 2) := by decide +kernel
theorem dX5_startsJudging_3 : decode cX5_startsJudging 3 = .ok (.putfield 246, 3) := by decide +kernel
theorem dX5_startsJudging_6 : decode cX5_startsJudging 6 = .ok (.aload_n 0, 1) := by decide +kernel
theorem dX5_startsJudging_7 : decode cX5_startsJudging 7 = .ok (.iload_n 1, 1) := by decide +kernel
theorem dX5_startsJudging_8 : decode cX5_startsJudging 8 = .ok (.putfield 249, 3) := by decide +kernel
theorem dX5_startsJudging_11 : decode cX5_startsJudging 11 = .ok (.return_, 1) := by decide +kernel
theorem dX5_judges_0 : decode cX5_judges 0 = .ok (.iload_n 2, 1) := by decide +kernel
theorem dX5_judges_1 : decode cX5_judges 1 = .ok (.aload_n 0, 1) := by decide +kernel
theorem dX5_judges_2 : decode cX5_judges 2 = .ok (.getfield 249, 3) := by decide +kernel
theorem dX5_judges_5 : decode cX5_judges 5 = .ok (.if_icmp .ge 13, 3) := by decide +kernel
theorem dX5_judges_8 : decode cX5_judges 8 = .ok (.aload_n 0, 1) := by decide +kernel
theorem dX5_judges_9 : decode cX5_judges 9 = .ok (.iload_n 1, 1) := by decide +kernel
theorem dX5_judges_10 : decode cX5_judges 10 = .ok (.putfield 246, 3) := by decide +kernel
theorem dX5_judges_13 : decode cX5_judges 13 = .ok (.aload_n 0, 1) := by decide +kernel
theorem dX5_judges_14 : decode cX5_judges 14 = .ok (.iload_n 2, 1) := by decide +kernel
theorem dX5_judges_15 : decode cX5_judges 15 = .ok (.putfield 249, 3) := by decide +kernel
theorem dX5_judges_18 : decode cX5_judges 18 = .ok (.return_, 1) := by decide +kernel
theorem dX5_startsWith_0 : decode cX5_startsWith 0 = .ok (.aload_n 0, 1) := by decide +kernel
theorem dX5_startsWith_1 : decode cX5_startsWith 1 = .ok (.invokevirtual 183, 3) := by decide +kernel
theorem dX5_startsWith_4 : decode cX5_startsWith 4 = .ok (.aload_n 0, 1) := by decide +kernel
theorem dX5_startsWith_5 : decode cX5_startsWith 5 = .ok (.iload_n 1, 1) := by decide +kernel
theorem dX5_startsWith_6 : decode cX5_startsWith 6 = .ok (.iload_n 2, 1) := by decide +kernel
theorem dX5_startsWith_7 : decode cX5_startsWith 7 = .ok (.iload_n 3, 1) := by decide +kernel
theorem dX5_startsWith_8 : decode cX5_startsWith 8 = .ok (.invokevirtual 148, 3) := by decide +kernel
theorem dX5_startsWith_11 : decode cX5_startsWith 11 = .ok (.aload_n 0, 1) := by decide +kernel
theorem dX5_startsWith_12 : decode cX5_startsWith 12 = .ok (.iload_n 1, 1) := by decide +kernel
theorem dX5_startsWith_13 : decode cX5_startsWith 13 = .ok (.invokevirtual 211, 3) := by decide +kernel
theorem dX5_startsWith_16 : decode cX5_startsWith 16 = .ok (.return_, 1) := by decide +kernel
theorem dX5_strikesJust_0 : decode cX5_strikesJust 0 = .ok (.aload_n 0, 1) := by decide +kernel
theorem dX5_strikesJust_1 : decode cX5_strikesJust 1 = .ok (.iload_n 1, 1) := by decide +kernel
theorem dX5_strikesJust_2 : decode cX5_strikesJust 2 = .ok (.iload_n 2, 1) := by decide +kernel
theorem dX5_strikesJust_3 : decode cX5_strikesJust 3 = .ok (.iload_n 3, 1) := by decide +kernel
theorem dX5_strikesJust_4 : decode cX5_strikesJust 4 = .ok (.invokevirtual 252, 3) := by decide +kernel
theorem dX5_strikesJust_7 : decode cX5_strikesJust 7 = .ok (.aload_n 0, 1) := by decide +kernel
theorem dX5_strikesJust_8 : decode cX5_strikesJust 8 = .ok (.iload 4, 2) := by decide +kernel
theorem dX5_strikesJust_10 : decode cX5_strikesJust 10 = .ok (.invokevirtual 223, 3) := by decide +kernel
theorem dX5_strikesJust_13 : decode cX5_strikesJust 13 = .ok (.aload_n 0, 1) := by decide +kernel
theorem dX5_strikesJust_14 : decode cX5_strikesJust 14 = .ok (.getfield 26, 3) := by decide +kernel
theorem dX5_strikesJust_17 : decode cX5_strikesJust 17 = .ok (.iload_n 1, 1) := by decide +kernel
theorem dX5_strikesJust_18 : decode cX5_strikesJust 18 = .ok (.iaload, 1) := by decide +kernel
theorem dX5_strikesJust_19 : decode cX5_strikesJust 19 = .ok (.iload 5, 2) := by decide +kernel
theorem dX5_strikesJust_21 : decode cX5_strikesJust 21 = .ok (.if_icmp .ne 7, 3) := by decide +kernel
theorem dX5_strikesJust_24 : decode cX5_strikesJust 24 = .ok (.iconst 1, 1) := by decide +kernel
theorem dX5_strikesJust_25 : decode cX5_strikesJust 25 = .ok (.goto 4, 3) := by decide +kernel
theorem dX5_strikesJust_28 : decode cX5_strikesJust 28 = .ok (.iconst 0, 1) := by decide +kernel
theorem dX5_strikesJust_29 : decode cX5_strikesJust 29 = .ok (.ireturn, 1) := by decide +kernel
theorem dX5_need_0 : decode cX5_need 0 = .ok (.aload_n 0, 1) := by decide +kernel
theorem dX5_need_1 : decode cX5_need 1 = .ok (.iload_n 1, 1) := by decide +kernel
theorem dX5_need_2 : decode cX5_need 2 = .ok (.invokevirtual 192, 3) := by decide +kernel
theorem dX5_need_5 : decode cX5_need 5 = .ok (.ifCond .eq 22, 3) := by decide +kernel
theorem dX5_need_8 : decode cX5_need 8 = .ok (.iload_n 2, 1) := by decide +kernel
theorem dX5_need_9 : decode cX5_need 9 = .ok (.invokestatic 231, 3) := by decide +kernel
theorem dX5_need_12 : decode cX5_need 12 = .ok (.ifCond .eq 15, 3) := by decide +kernel
theorem dX5_need_15 : decode cX5_need 15 = .ok (.iload_n 3, 1) := by decide +kernel
theorem dX5_need_16 : decode cX5_need 16 = .ok (.i2l, 1) := by decide +kernel
theorem dX5_need_17 : decode cX5_need 17 = .ok (.lconst 0, 1) := by decide +kernel
theorem dX5_need_18 : decode cX5_need 18 = .ok (.ldc2_w 255, 3) := by decide +kernel
theorem dX5_need_21 : decode cX5_need 21 = .ok (.invokestatic 63, 3) := by decide +kernel
theorem dX5_need_24 : decode cX5_need 24 = .ok (.ifCond .ne 5, 3) := by decide +kernel
theorem dX5_need_27 : decode cX5_need 27 = .ok (.iconst (-1), 1) := by decide +kernel
theorem dX5_need_28 : decode cX5_need 28 = .ok (.ireturn, 1) := by decide +kernel
theorem dX5_need_29 : decode cX5_need 29 = .ok (.iconst 1, 1) := by decide +kernel
theorem dX5_need_30 : decode cX5_need 30 = .ok (.istore 4, 2) := by decide +kernel
theorem dX5_need_32 : decode cX5_need 32 = .ok (.iload 4, 2) := by decide +kernel
theorem dX5_need_34 : decode cX5_need 34 = .ok (.bipush 9, 2) := by decide +kernel
theorem dX5_need_36 : decode cX5_need 36 = .ok (.if_icmp .gt 25, 3) := by decide +kernel
theorem dX5_need_39 : decode cX5_need 39 = .ok (.aload_n 0, 1) := by decide +kernel
theorem dX5_need_40 : decode cX5_need 40 = .ok (.iload_n 1, 1) := by decide +kernel
theorem dX5_need_41 : decode cX5_need 41 = .ok (.iconst 2, 1) := by decide +kernel
theorem dX5_need_42 : decode cX5_need 42 = .ok (.iload 4, 2) := by decide +kernel
theorem dX5_need_44 : decode cX5_need 44 = .ok (.iload_n 2, 1) := by decide +kernel
theorem dX5_need_45 : decode cX5_need 45 = .ok (.iload_n 3, 1) := by decide +kernel
theorem dX5_need_46 : decode cX5_need 46 = .ok (.invokevirtual 257, 3) := by decide +kernel
theorem dX5_need_49 : decode cX5_need 49 = .ok (.ifCond .eq 6, 3) := by decide +kernel
theorem dX5_need_52 : decode cX5_need 52 = .ok (.iload 4, 2) := by decide +kernel
theorem dX5_need_54 : decode cX5_need 54 = .ok (.ireturn, 1) := by decide +kernel
theorem dX5_need_55 : decode cX5_need 55 = .ok (.iinc 4 1, 3) := by decide +kernel
theorem dX5_need_58 : decode cX5_need 58 = .ok (.goto (-26), 3) := by decide +kernel
theorem dX5_need_61 : decode cX5_need 61 = .ok (.bipush (-4), 2) := by decide +kernel
theorem dX5_need_63 : decode cX5_need 63 = .ok (.ireturn, 1) := by decide +kernel
theorem dX5_bear_0 : decode cX5_bear 0 = .ok (.aload_n 0, 1) := by decide +kernel
theorem dX5_bear_1 : decode cX5_bear 1 = .ok (.iload_n 1, 1) := by decide +kernel
theorem dX5_bear_2 : decode cX5_bear 2 = .ok (.invokevirtual 192, 3) := by decide +kernel
theorem dX5_bear_5 : decode cX5_bear 5 = .ok (.ifCond .eq 22, 3) := by decide +kernel
theorem dX5_bear_8 : decode cX5_bear 8 = .ok (.iload_n 2, 1) := by decide +kernel
theorem dX5_bear_9 : decode cX5_bear 9 = .ok (.invokestatic 231, 3) := by decide +kernel
theorem dX5_bear_12 : decode cX5_bear 12 = .ok (.ifCond .eq 15, 3) := by decide +kernel
theorem dX5_bear_15 : decode cX5_bear 15 = .ok (.iload_n 3, 1) := by decide +kernel
theorem dX5_bear_16 : decode cX5_bear 16 = .ok (.i2l, 1) := by decide +kernel
theorem dX5_bear_17 : decode cX5_bear 17 = .ok (.lconst 0, 1) := by decide +kernel
theorem dX5_bear_18 : decode cX5_bear 18 = .ok (.ldc2_w 255, 3) := by decide +kernel
theorem dX5_bear_21 : decode cX5_bear 21 = .ok (.invokestatic 63, 3) := by decide +kernel
theorem dX5_bear_24 : decode cX5_bear 24 = .ok (.ifCond .ne 5, 3) := by decide +kernel
theorem dX5_bear_27 : decode cX5_bear 27 = .ok (.iconst (-1), 1) := by decide +kernel
theorem dX5_bear_28 : decode cX5_bear 28 = .ok (.ireturn, 1) := by decide +kernel
theorem dX5_bear_29 : decode cX5_bear 29 = .ok (.bipush 9, 2) := by decide +kernel
theorem dX5_bear_31 : decode cX5_bear 31 = .ok (.istore 4, 2) := by decide +kernel
theorem dX5_bear_33 : decode cX5_bear 33 = .ok (.iload 4, 2) := by decide +kernel
theorem dX5_bear_35 : decode cX5_bear 35 = .ok (.ifCond .lt 25, 3) := by decide +kernel
theorem dX5_bear_38 : decode cX5_bear 38 = .ok (.aload_n 0, 1) := by decide +kernel
theorem dX5_bear_39 : decode cX5_bear 39 = .ok (.iload_n 1, 1) := by decide +kernel
theorem dX5_bear_40 : decode cX5_bear 40 = .ok (.iconst 0, 1) := by decide +kernel
theorem dX5_bear_41 : decode cX5_bear 41 = .ok (.iload 4, 2) := by decide +kernel
theorem dX5_bear_43 : decode cX5_bear 43 = .ok (.iload_n 2, 1) := by decide +kernel
theorem dX5_bear_44 : decode cX5_bear 44 = .ok (.iload_n 3, 1) := by decide +kernel
theorem dX5_bear_45 : decode cX5_bear 45 = .ok (.invokevirtual 257, 3) := by decide +kernel
theorem dX5_bear_48 : decode cX5_bear 48 = .ok (.ifCond .eq 6, 3) := by decide +kernel
theorem dX5_bear_51 : decode cX5_bear 51 = .ok (.iload 4, 2) := by decide +kernel
theorem dX5_bear_53 : decode cX5_bear 53 = .ok (.ireturn, 1) := by decide +kernel
theorem dX5_bear_54 : decode cX5_bear 54 = .ok (.iinc 4 (-1), 3) := by decide +kernel
theorem dX5_bear_57 : decode cX5_bear 57 = .ok (.goto (-24), 3) := by decide +kernel
theorem dX5_bear_60 : decode cX5_bear 60 = .ok (.bipush (-4), 2) := by decide +kernel
theorem dX5_bear_62 : decode cX5_bear 62 = .ok (.ireturn, 1) := by decide +kernel
theorem dX5_offIn_0 : decode cX5_offIn 0 = .ok (.aload_n 0, 1) := by decide +kernel
theorem dX5_offIn_1 : decode cX5_offIn 1 = .ok (.iload_n 1, 1) := by decide +kernel
theorem dX5_offIn_2 : decode cX5_offIn 2 = .ok (.invokevirtual 223, 3) := by decide +kernel
theorem dX5_offIn_5 : decode cX5_offIn 5 = .ok (.aload_n 0, 1) := by decide +kernel
theorem dX5_offIn_6 : decode cX5_offIn 6 = .ok (.invokevirtual 226, 3) := by decide +kernel
theorem dX5_offIn_9 : decode cX5_offIn 9 = .ok (.aload_n 0, 1) := by decide +kernel
theorem dX5_offIn_10 : decode cX5_offIn 10 = .ok (.iload_n 1, 1) := by decide +kernel
theorem dX5_offIn_11 : decode cX5_offIn 11 = .ok (.invokevirtual 243, 3) := by decide +kernel
theorem dX5_offIn_14 : decode cX5_offIn 14 = .ok (.isub, 1) := by decide +kernel
theorem dX5_offIn_15 : decode cX5_offIn 15 = .ok (.istore_n 2, 1) := by decide +kernel
theorem dX5_offIn_16 : decode cX5_offIn 16 = .ok (.iload_n 2, 1) := by decide +kernel
theorem dX5_offIn_17 : decode cX5_offIn 17 = .ok (.ifCond .ge 8, 3) := by decide +kernel
theorem dX5_offIn_20 : decode cX5_offIn 20 = .ok (.iload_n 2, 1) := by decide +kernel
theorem dX5_offIn_21 : decode cX5_offIn 21 = .ok (.ineg, 1) := by decide +kernel
theorem dX5_offIn_22 : decode cX5_offIn 22 = .ok (.goto 4, 3) := by decide +kernel
theorem dX5_offIn_25 : decode cX5_offIn 25 = .ok (.iload_n 2, 1) := by decide +kernel
theorem dX5_offIn_26 : decode cX5_offIn 26 = .ok (.ireturn, 1) := by decide +kernel
theorem dX5_kind_0 : decode cX5_kind 0 = .ok (.aload_n 0, 1) := by decide +kernel
theorem dX5_kind_1 : decode cX5_kind 1 = .ok (.iload_n 1, 1) := by decide +kernel
theorem dX5_kind_2 : decode cX5_kind 2 = .ok (.invokevirtual 192, 3) := by decide +kernel
theorem dX5_kind_5 : decode cX5_kind 5 = .ok (.ifCond .eq 17, 3) := by decide +kernel
theorem dX5_kind_8 : decode cX5_kind 8 = .ok (.iload_n 2, 1) := by decide +kernel
theorem dX5_kind_9 : decode cX5_kind 9 = .ok (.invokestatic 231, 3) := by decide +kernel
theorem dX5_kind_12 : decode cX5_kind 12 = .ok (.ifCond .eq 10, 3) := by decide +kernel
theorem dX5_kind_15 : decode cX5_kind 15 = .ok (.iload_n 3, 1) := by decide +kernel
theorem dX5_kind_16 : decode cX5_kind 16 = .ok (.invokestatic 240, 3) := by decide +kernel
theorem dX5_kind_19 : decode cX5_kind 19 = .ok (.ifCond .ne 5, 3) := by decide +kernel
theorem dX5_kind_22 : decode cX5_kind 22 = .ok (.iconst (-1), 1) := by decide +kernel
theorem dX5_kind_23 : decode cX5_kind 23 = .ok (.ireturn, 1) := by decide +kernel
theorem dX5_kind_24 : decode cX5_kind 24 = .ok (.aload_n 0, 1) := by decide +kernel
theorem dX5_kind_25 : decode cX5_kind 25 = .ok (.ldc_w 261, 3) := by decide +kernel
theorem dX5_kind_28 : decode cX5_kind 28 = .ok (.invokevirtual 262, 3) := by decide +kernel
theorem dX5_kind_31 : decode cX5_kind 31 = .ok (.iconst 0, 1) := by decide +kernel
theorem dX5_kind_32 : decode cX5_kind 32 = .ok (.istore 4, 2) := by decide +kernel
theorem dX5_kind_34 : decode cX5_kind 34 = .ok (.iload 4, 2) := by decide +kernel
theorem dX5_kind_36 : decode cX5_kind 36 = .ok (.iconst 4, 1) := by decide +kernel
theorem dX5_kind_37 : decode cX5_kind 37 = .ok (.if_icmp .ge 28, 3) := by decide +kernel
theorem dX5_kind_40 : decode cX5_kind 40 = .ok (.aload_n 0, 1) := by decide +kernel
theorem dX5_kind_41 : decode cX5_kind 41 = .ok (.iload_n 1, 1) := by decide +kernel
theorem dX5_kind_42 : decode cX5_kind 42 = .ok (.iconst 1, 1) := by decide +kernel
theorem dX5_kind_43 : decode cX5_kind 43 = .ok (.iload 4, 2) := by decide +kernel
theorem dX5_kind_45 : decode cX5_kind 45 = .ok (.invokevirtual 252, 3) := by decide +kernel
theorem dX5_kind_48 : decode cX5_kind 48 = .ok (.aload_n 0, 1) := by decide +kernel
theorem dX5_kind_49 : decode cX5_kind 49 = .ok (.iload 4, 2) := by decide +kernel
theorem dX5_kind_51 : decode cX5_kind 51 = .ok (.aload_n 0, 1) := by decide +kernel
theorem dX5_kind_52 : decode cX5_kind 52 = .ok (.iload_n 2, 1) := by decide +kernel
theorem dX5_kind_53 : decode cX5_kind 53 = .ok (.invokevirtual 265, 3) := by decide +kernel
theorem dX5_kind_56 : decode cX5_kind 56 = .ok (.invokevirtual 268, 3) := by decide +kernel
theorem dX5_kind_59 : decode cX5_kind 59 = .ok (.iinc 4 1, 3) := by decide +kernel
theorem dX5_kind_62 : decode cX5_kind 62 = .ok (.goto (-28), 3) := by decide +kernel
theorem dX5_kind_65 : decode cX5_kind 65 = .ok (.iload_n 3, 1) := by decide +kernel
theorem dX5_kind_66 : decode cX5_kind 66 = .ok (.ifCond .ne 10, 3) := by decide +kernel
theorem dX5_kind_69 : decode cX5_kind 69 = .ok (.aload_n 0, 1) := by decide +kernel
theorem dX5_kind_70 : decode cX5_kind 70 = .ok (.getfield 246, 3) := by decide +kernel
theorem dX5_kind_73 : decode cX5_kind 73 = .ok (.goto 7, 3) := by decide +kernel
theorem dX5_kind_76 : decode cX5_kind 76 = .ok (.aload_n 0, 1) := by decide +kernel
theorem dX5_kind_77 : decode cX5_kind 77 = .ok (.getfield 249, 3) := by decide +kernel
theorem dX5_kind_80 : decode cX5_kind 80 = .ok (.ireturn, 1) := by decide +kernel
theorem dX5_slow_0 : decode cX5_slow 0 = .ok (.iload_n 1, 1) := by decide +kernel
theorem dX5_slow_1 : decode cX5_slow 1 = .ok (.invokestatic 231, 3) := by decide +kernel
theorem dX5_slow_4 : decode cX5_slow 4 = .ok (.ifCond .eq 10, 3) := by decide +kernel
theorem dX5_slow_7 : decode cX5_slow 7 = .ok (.iload_n 2, 1) := by decide +kernel
theorem dX5_slow_8 : decode cX5_slow 8 = .ok (.invokestatic 240, 3) := by decide +kernel
theorem dX5_slow_11 : decode cX5_slow 11 = .ok (.ifCond .ne 5, 3) := by decide +kernel
theorem dX5_slow_14 : decode cX5_slow 14 = .ok (.iconst (-1), 1) := by decide +kernel
theorem dX5_slow_15 : decode cX5_slow 15 = .ok (.ireturn, 1) := by decide +kernel
theorem dX5_slow_16 : decode cX5_slow 16 = .ok (.aload_n 0, 1) := by decide +kernel
theorem dX5_slow_17 : decode cX5_slow 17 = .ok (.ldc_w 261, 3) := by decide +kernel
theorem dX5_slow_20 : decode cX5_slow 20 = .ok (.invokevirtual 262, 3) := by decide +kernel
theorem dX5_slow_23 : decode cX5_slow 23 = .ok (.iconst 4, 1) := by decide +kernel
theorem dX5_slow_24 : decode cX5_slow 24 = .ok (.istore_n 3, 1) := by decide +kernel
theorem dX5_slow_25 : decode cX5_slow 25 = .ok (.iload_n 3, 1) := by decide +kernel
theorem dX5_slow_26 : decode cX5_slow 26 = .ok (.ifCond .le 31, 3) := by decide +kernel
theorem dX5_slow_29 : decode cX5_slow 29 = .ok (.aload_n 0, 1) := by decide +kernel
theorem dX5_slow_30 : decode cX5_slow 30 = .ok (.invokevirtual 183, 3) := by decide +kernel
theorem dX5_slow_33 : decode cX5_slow 33 = .ok (.aload_n 0, 1) := by decide +kernel
theorem dX5_slow_34 : decode cX5_slow 34 = .ok (.getfield 13, 3) := by decide +kernel
theorem dX5_slow_37 : decode cX5_slow 37 = .ok (.bipush 54, 2) := by decide +kernel
theorem dX5_slow_39 : decode cX5_slow 39 = .ok (.iload_n 3, 1) := by decide +kernel
theorem dX5_slow_40 : decode cX5_slow 40 = .ok (.iastore, 1) := by decide +kernel
theorem dX5_slow_41 : decode cX5_slow 41 = .ok (.aload_n 0, 1) := by decide +kernel
theorem dX5_slow_42 : decode cX5_slow 42 = .ok (.iload_n 3, 1) := by decide +kernel
theorem dX5_slow_43 : decode cX5_slow 43 = .ok (.aload_n 0, 1) := by decide +kernel
theorem dX5_slow_44 : decode cX5_slow 44 = .ok (.iload_n 1, 1) := by decide +kernel
theorem dX5_slow_45 : decode cX5_slow 45 = .ok (.invokevirtual 265, 3) := by decide +kernel
theorem dX5_slow_48 : decode cX5_slow 48 = .ok (.invokevirtual 268, 3) := by decide +kernel
theorem dX5_slow_51 : decode cX5_slow 51 = .ok (.iinc 3 (-1), 3) := by decide +kernel
theorem dX5_slow_54 : decode cX5_slow 54 = .ok (.goto (-29), 3) := by decide +kernel
theorem dX5_slow_57 : decode cX5_slow 57 = .ok (.iload_n 2, 1) := by decide +kernel
theorem dX5_slow_58 : decode cX5_slow 58 = .ok (.ifCond .ne 10, 3) := by decide +kernel
theorem dX5_slow_61 : decode cX5_slow 61 = .ok (.aload_n 0, 1) := by decide +kernel
theorem dX5_slow_62 : decode cX5_slow 62 = .ok (.getfield 246, 3) := by decide +kernel
theorem dX5_slow_65 : decode cX5_slow 65 = .ok (.goto 7, 3) := by decide +kernel
theorem dX5_slow_68 : decode cX5_slow 68 = .ok (.aload_n 0, 1) := by decide +kernel
theorem dX5_slow_69 : decode cX5_slow 69 = .ok (.getfield 249, 3) := by decide +kernel
theorem dX5_slow_72 : decode cX5_slow 72 = .ok (.ireturn, 1) := by decide +kernel
theorem dX5_lose_0 : decode cX5_lose 0 = .ok (.iload_n 1, 1) := by decide +kernel
theorem dX5_lose_1 : decode cX5_lose 1 = .ok (.invokestatic 231, 3) := by decide +kernel
theorem dX5_lose_4 : decode cX5_lose 4 = .ok (.ifCond .eq 10, 3) := by decide +kernel
theorem dX5_lose_7 : decode cX5_lose 7 = .ok (.iload_n 2, 1) := by decide +kernel
theorem dX5_lose_8 : decode cX5_lose 8 = .ok (.invokestatic 240, 3) := by decide +kernel
theorem dX5_lose_11 : decode cX5_lose 11 = .ok (.ifCond .ne 5, 3) := by decide +kernel
theorem dX5_lose_14 : decode cX5_lose 14 = .ok (.iconst (-1), 1) := by decide +kernel
theorem dX5_lose_15 : decode cX5_lose 15 = .ok (.ireturn, 1) := by decide +kernel
theorem dX5_lose_16 : decode cX5_lose 16 = .ok (.aload_n 0, 1) := by decide +kernel
theorem dX5_lose_17 : decode cX5_lose 17 = .ok (.invokevirtual 183, 3) := by decide +kernel
theorem dX5_lose_20 : decode cX5_lose 20 = .ok (.aload_n 0, 1) := by decide +kernel
theorem dX5_lose_21 : decode cX5_lose 21 = .ok (.iload_n 1, 1) := by decide +kernel
theorem dX5_lose_22 : decode cX5_lose 22 = .ok (.invokevirtual 223, 3) := by decide +kernel
theorem dX5_lose_25 : decode cX5_lose 25 = .ok (.aload_n 0, 1) := by decide +kernel
theorem dX5_lose_26 : decode cX5_lose 26 = .ok (.aload_n 0, 1) := by decide +kernel
theorem dX5_lose_27 : decode cX5_lose 27 = .ok (.invokevirtual 226, 3) := by decide +kernel
theorem dX5_lose_30 : decode cX5_lose 30 = .ok (.ineg, 1) := by decide +kernel
theorem dX5_lose_31 : decode cX5_lose 31 = .ok (.invokevirtual 262, 3) := by decide +kernel
theorem dX5_lose_34 : decode cX5_lose 34 = .ok (.iconst 0, 1) := by decide +kernel
theorem dX5_lose_35 : decode cX5_lose 35 = .ok (.istore_n 3, 1) := by decide +kernel
theorem dX5_lose_36 : decode cX5_lose 36 = .ok (.iload_n 3, 1) := by decide +kernel
theorem dX5_lose_37 : decode cX5_lose 37 = .ok (.aload_n 0, 1) := by decide +kernel
theorem dX5_lose_38 : decode cX5_lose 38 = .ok (.getfield 7, 3) := by decide +kernel
theorem dX5_lose_41 : decode cX5_lose 41 = .ok (.bipush 53, 2) := by decide +kernel
theorem dX5_lose_43 : decode cX5_lose 43 = .ok (.iaload, 1) := by decide +kernel
theorem dX5_lose_44 : decode cX5_lose 44 = .ok (.if_icmp .ge 33, 3) := by decide +kernel
theorem dX5_lose_47 : decode cX5_lose 47 = .ok (.aload_n 0, 1) := by decide +kernel
theorem dX5_lose_48 : decode cX5_lose 48 = .ok (.invokevirtual 183, 3) := by decide +kernel
theorem dX5_lose_51 : decode cX5_lose 51 = .ok (.aload_n 0, 1) := by decide +kernel
theorem dX5_lose_52 : decode cX5_lose 52 = .ok (.iload_n 3, 1) := by decide +kernel
theorem dX5_lose_53 : decode cX5_lose 53 = .ok (.putfield 136, 3) := by decide +kernel
theorem dX5_lose_56 : decode cX5_lose 56 = .ok (.aload_n 0, 1) := by decide +kernel
theorem dX5_lose_57 : decode cX5_lose 57 = .ok (.iload_n 1, 1) := by decide +kernel
theorem dX5_lose_58 : decode cX5_lose 58 = .ok (.invokevirtual 223, 3) := by decide +kernel
theorem dX5_lose_61 : decode cX5_lose 61 = .ok (.aload_n 0, 1) := by decide +kernel
theorem dX5_lose_62 : decode cX5_lose 62 = .ok (.iload_n 3, 1) := by decide +kernel
theorem dX5_lose_63 : decode cX5_lose 63 = .ok (.aload_n 0, 1) := by decide +kernel
theorem dX5_lose_64 : decode cX5_lose 64 = .ok (.invokevirtual 226, 3) := by decide +kernel
theorem dX5_lose_67 : decode cX5_lose 67 = .ok (.ineg, 1) := by decide +kernel
theorem dX5_lose_68 : decode cX5_lose 68 = .ok (.invokevirtual 268, 3) := by decide +kernel
theorem dX5_lose_71 : decode cX5_lose 71 = .ok (.iinc 3 1, 3) := by decide +kernel
theorem dX5_lose_74 : decode cX5_lose 74 = .ok (.goto (-38), 3) := by decide +kernel
theorem dX5_lose_77 : decode cX5_lose 77 = .ok (.aload_n 0, 1) := by decide +kernel
theorem dX5_lose_78 : decode cX5_lose 78 = .ok (.getfield 246, 3) := by decide +kernel
theorem dX5_lose_81 : decode cX5_lose 81 = .ok (.bipush (-4), 2) := by decide +kernel
theorem dX5_lose_83 : decode cX5_lose 83 = .ok (.if_icmp .ne 8, 3) := by decide +kernel
theorem dX5_lose_86 : decode cX5_lose 86 = .ok (.bipush (-4), 2) := by decide +kernel
theorem dX5_lose_88 : decode cX5_lose 88 = .ok (.goto 19, 3) := by decide +kernel
theorem dX5_lose_91 : decode cX5_lose 91 = .ok (.iload_n 2, 1) := by decide +kernel
theorem dX5_lose_92 : decode cX5_lose 92 = .ok (.ifCond .ne 10, 3) := by decide +kernel
theorem dX5_lose_95 : decode cX5_lose 95 = .ok (.aload_n 0, 1) := by decide +kernel
theorem dX5_lose_96 : decode cX5_lose 96 = .ok (.getfield 246, 3) := by decide +kernel
theorem dX5_lose_99 : decode cX5_lose 99 = .ok (.goto 8, 3) := by decide +kernel
theorem dX5_lose_102 : decode cX5_lose 102 = .ok (.aload_n 0, 1) := by decide +kernel
theorem dX5_lose_103 : decode cX5_lose 103 = .ok (.getfield 249, 3) := by decide +kernel
theorem dX5_lose_106 : decode cX5_lose 106 = .ok (.ineg, 1) := by decide +kernel
theorem dX5_lose_107 : decode cX5_lose 107 = .ok (.ireturn, 1) := by decide +kernel
theorem dX5_common_0 : decode cX5_common 0 = .ok (.lload_n 0, 1) := by decide +kernel
theorem dX5_common_1 : decode cX5_common 1 = .ok (.lstore 4, 2) := by decide +kernel
theorem dX5_common_3 : decode cX5_common 3 = .ok (.lload_n 2, 1) := by decide +kernel
theorem dX5_common_4 : decode cX5_common 4 = .ok (.lstore 6, 2) := by decide +kernel
theorem dX5_common_6 : decode cX5_common 6 = .ok (.lload 6, 2) := by decide +kernel
theorem dX5_common_8 : decode cX5_common 8 = .ok (.lconst 0, 1) := by decide +kernel
theorem dX5_common_9 : decode cX5_common 9 = .ok (.lcmp, 1) := by decide +kernel
theorem dX5_common_10 : decode cX5_common 10 = .ok (.ifCond .eq 21, 3) := by decide +kernel
theorem dX5_common_13 : decode cX5_common 13 = .ok (.lload 4, 2) := by decide +kernel
theorem dX5_common_15 : decode cX5_common 15 = .ok (.lload 6, 2) := by decide +kernel
theorem dX5_common_17 : decode cX5_common 17 = .ok (.lrem, 1) := by decide +kernel
theorem dX5_common_18 : decode cX5_common 18 = .ok (.lstore 8, 2) := by decide +kernel
theorem dX5_common_20 : decode cX5_common 20 = .ok (.lload 6, 2) := by decide +kernel
theorem dX5_common_22 : decode cX5_common 22 = .ok (.lstore 4, 2) := by decide +kernel
theorem dX5_common_24 : decode cX5_common 24 = .ok (.lload 8, 2) := by decide +kernel
theorem dX5_common_26 : decode cX5_common 26 = .ok (.lstore 6, 2) := by decide +kernel
theorem dX5_common_28 : decode cX5_common 28 = .ok (.goto (-22), 3) := by decide +kernel
theorem dX5_common_31 : decode cX5_common 31 = .ok (.lload 4, 2) := by decide +kernel
theorem dX5_common_33 : decode cX5_common 33 = .ok (.lreturn, 1) := by decide +kernel
theorem dX5_lowest_0 : decode cX5_lowest 0 = .ok (.lload_n 2, 1) := by decide +kernel
theorem dX5_lowest_1 : decode cX5_lowest 1 = .ok (.lload_n 0, 1) := by decide +kernel
theorem dX5_lowest_2 : decode cX5_lowest 2 = .ok (.invokestatic 271, 3) := by decide +kernel
theorem dX5_lowest_5 : decode cX5_lowest 5 = .ok (.lstore 5, 2) := by decide +kernel
theorem dX5_lowest_7 : decode cX5_lowest 7 = .ok (.iload 4, 2) := by decide +kernel
theorem dX5_lowest_9 : decode cX5_lowest 9 = .ok (.ifCond .ne 10, 3) := by decide +kernel
theorem dX5_lowest_12 : decode cX5_lowest 12 = .ok (.lload_n 0, 1) := by decide +kernel
theorem dX5_lowest_13 : decode cX5_lowest 13 = .ok (.lload 5, 2) := by decide +kernel
theorem dX5_lowest_15 : decode cX5_lowest 15 = .ok (.ldiv, 1) := by decide +kernel
theorem dX5_lowest_16 : decode cX5_lowest 16 = .ok (.goto 7, 3) := by decide +kernel
theorem dX5_lowest_19 : decode cX5_lowest 19 = .ok (.lload_n 2, 1) := by decide +kernel
theorem dX5_lowest_20 : decode cX5_lowest 20 = .ok (.lload 5, 2) := by decide +kernel
theorem dX5_lowest_22 : decode cX5_lowest 22 = .ok (.ldiv, 1) := by decide +kernel
theorem dX5_lowest_23 : decode cX5_lowest 23 = .ok (.lreturn, 1) := by decide +kernel
theorem dX5_findOdds_0 : decode cX5_findOdds 0 = .ok (.aload_n 0, 1) := by decide +kernel
theorem dX5_findOdds_1 : decode cX5_findOdds 1 = .ok (.lconst 0, 1) := by decide +kernel
theorem dX5_findOdds_2 : decode cX5_findOdds 2 = .ok (.putfield 275, 3) := by decide +kernel
theorem dX5_findOdds_5 : decode cX5_findOdds 5 = .ok (.aload_n 0, 1) := by decide +kernel
theorem dX5_findOdds_6 : decode cX5_findOdds 6 = .ok (.lconst 0, 1) := by decide +kernel
theorem dX5_findOdds_7 : decode cX5_findOdds 7 = .ok (.putfield 279, 3) := by decide +kernel
theorem dX5_findOdds_10 : decode cX5_findOdds 10 = .ok (.aload_n 0, 1) := by decide +kernel
theorem dX5_findOdds_11 : decode cX5_findOdds 11 = .ok (.lconst 1, 1) := by decide +kernel
theorem dX5_findOdds_12 : decode cX5_findOdds 12 = .ok (.putfield 282, 3) := by decide +kernel
theorem dX5_findOdds_15 : decode cX5_findOdds 15 = .ok (.iconst 0, 1) := by decide +kernel
theorem dX5_findOdds_16 : decode cX5_findOdds 16 = .ok (.istore 4, 2) := by decide +kernel
theorem dX5_findOdds_18 : decode cX5_findOdds 18 = .ok (.iload 4, 2) := by decide +kernel
theorem dX5_findOdds_20 : decode cX5_findOdds 20 = .ok (.iload_n 3, 1) := by decide +kernel
theorem dX5_findOdds_21 : decode cX5_findOdds 21 = .ok (.if_icmp .ge 21, 3) := by decide +kernel
theorem dX5_findOdds_24 : decode cX5_findOdds 24 = .ok (.aload_n 0, 1) := by decide +kernel
theorem dX5_findOdds_25 : decode cX5_findOdds 25 = .ok (.dup, 1) := by decide +kernel
theorem dX5_findOdds_26 : decode cX5_findOdds 26 = .ok (.getfield 282, 3) := by decide +kernel
theorem dX5_findOdds_29 : decode cX5_findOdds 29 = .ok (.ldc2_w 285, 3) := by decide +kernel
theorem dX5_findOdds_32 : decode cX5_findOdds 32 = .ok (.lmul, 1) := by decide +kernel
theorem dX5_findOdds_33 : decode cX5_findOdds 33 = .ok (.putfield 282, 3) := by decide +kernel
theorem dX5_findOdds_36 : decode cX5_findOdds 36 = .ok (.iinc 4 1, 3) := by decide +kernel
theorem dX5_findOdds_39 : decode cX5_findOdds 39 = .ok (.goto (-21), 3) := by decide +kernel
theorem dX5_findOdds_42 : decode cX5_findOdds 42 = .ok (.iconst 0, 1) := by decide +kernel
theorem dX5_findOdds_43 : decode cX5_findOdds 43 = .ok (.istore 4, 2) := by decide +kernel
theorem dX5_findOdds_45 : decode cX5_findOdds 45 = .ok (.iload 4, 2) := by decide +kernel
theorem dX5_findOdds_47 : decode cX5_findOdds 47 = .ok (.iconst 1, 1) := by decide +kernel
theorem dX5_findOdds_48 : decode cX5_findOdds 48 = .ok (.iload_n 3, 1) := by decide +kernel
theorem dX5_findOdds_49 : decode cX5_findOdds 49 = .ok (.ishl, 1) := by decide +kernel
theorem dX5_findOdds_50 : decode cX5_findOdds 50 = .ok (.if_icmp .ge 140, 3) := by decide +kernel
theorem dX5_findOdds_53 : decode cX5_findOdds 53 = .ok (.lconst 1, 1) := by decide +kernel
theorem dX5_findOdds_54 : decode cX5_findOdds 54 = .ok (.lstore 5, 2) := by decide +kernel
theorem dX5_findOdds_56 : decode cX5_findOdds 56 = .ok (.aload_n 0, 1) := by decide +kernel
theorem dX5_findOdds_57 : decode cX5_findOdds 57 = .ok (.invokevirtual 183, 3) := by decide +kernel
theorem dX5_findOdds_60 : decode cX5_findOdds 60 = .ok (.iconst 0, 1) := by decide +kernel
theorem dX5_findOdds_61 : decode cX5_findOdds 61 = .ok (.istore 7, 2) := by decide +kernel
theorem dX5_findOdds_63 : decode cX5_findOdds 63 = .ok (.iload 7, 2) := by decide +kernel
theorem dX5_findOdds_65 : decode cX5_findOdds 65 = .ok (.iload_n 3, 1) := by decide +kernel
theorem dX5_findOdds_66 : decode cX5_findOdds 66 = .ok (.if_icmp .ge 70, 3) := by decide +kernel
theorem dX5_findOdds_69 : decode cX5_findOdds 69 = .ok (.iload 4, 2) := by decide +kernel
theorem dX5_findOdds_71 : decode cX5_findOdds 71 = .ok (.iload 7, 2) := by decide +kernel
theorem dX5_findOdds_73 : decode cX5_findOdds 73 = .ok (.ishr, 1) := by decide +kernel
theorem dX5_findOdds_74 : decode cX5_findOdds 74 = .ok (.iconst 1, 1) := by decide +kernel
theorem dX5_findOdds_75 : decode cX5_findOdds 75 = .ok (.iand, 1) := by decide +kernel
theorem dX5_findOdds_76 : decode cX5_findOdds 76 = .ok (.iconst 1, 1) := by decide +kernel
theorem dX5_findOdds_77 : decode cX5_findOdds 77 = .ok (.if_icmp .ne 7, 3) := by decide +kernel
theorem dX5_findOdds_80 : decode cX5_findOdds 80 = .ok (.iconst 1, 1) := by decide +kernel
theorem dX5_findOdds_81 : decode cX5_findOdds 81 = .ok (.goto 4, 3) := by decide +kernel
theorem dX5_findOdds_84 : decode cX5_findOdds 84 = .ok (.iconst 0, 1) := by decide +kernel
theorem dX5_findOdds_85 : decode cX5_findOdds 85 = .ok (.istore 8, 2) := by decide +kernel
theorem dX5_findOdds_87 : decode cX5_findOdds 87 = .ok (.lload 5, 2) := by decide +kernel
theorem dX5_findOdds_89 : decode cX5_findOdds 89 = .ok (.iload 8, 2) := by decide +kernel
theorem dX5_findOdds_91 : decode cX5_findOdds 91 = .ok (.ifCond .eq 8, 3) := by decide +kernel
theorem dX5_findOdds_94 : decode cX5_findOdds 94 = .ok (.iload_n 1, 1) := by decide +kernel
theorem dX5_findOdds_95 : decode cX5_findOdds 95 = .ok (.i2l, 1) := by decide +kernel
theorem dX5_findOdds_96 : decode cX5_findOdds 96 = .ok (.goto 8, 3) := by decide +kernel
theorem dX5_findOdds_99 : decode cX5_findOdds 99 = .ok (.bipush 10, 2) := by decide +kernel
theorem dX5_findOdds_101 : decode cX5_findOdds 101 = .ok (.iload_n 1, 1) := by decide +kernel
theorem dX5_findOdds_102 : decode cX5_findOdds 102 = .ok (.isub, 1) := by decide +kernel
theorem dX5_findOdds_103 : decode cX5_findOdds 103 = .ok (.i2l, 1) := by decide +kernel
theorem dX5_findOdds_104 : decode cX5_findOdds 104 = .ok (.lmul, 1) := by decide +kernel
theorem dX5_findOdds_105 : decode cX5_findOdds 105 = .ok (.lstore 5, 2) := by decide +kernel
theorem dX5_findOdds_107 : decode cX5_findOdds 107 = .ok (.aload_n 0, 1) := by decide +kernel
theorem dX5_findOdds_108 : decode cX5_findOdds 108 = .ok (.iload 8, 2) := by decide +kernel
theorem dX5_findOdds_110 : decode cX5_findOdds 110 = .ok (.ifCond .eq 13, 3) := by decide +kernel
theorem dX5_findOdds_113 : decode cX5_findOdds 113 = .ok (.bipush 15, 2) := by decide +kernel
theorem dX5_findOdds_115 : decode cX5_findOdds 115 = .ok (.aload_n 0, 1) := by decide +kernel
theorem dX5_findOdds_116 : decode cX5_findOdds 116 = .ok (.invokevirtual 177, 3) := by decide +kernel
theorem dX5_findOdds_119 : decode cX5_findOdds 119 = .ok (.isub, 1) := by decide +kernel
theorem dX5_findOdds_120 : decode cX5_findOdds 120 = .ok (.goto 7, 3) := by decide +kernel
theorem dX5_findOdds_123 : decode cX5_findOdds 123 = .ok (.aload_n 0, 1) := by decide +kernel
theorem dX5_findOdds_124 : decode cX5_findOdds 124 = .ok (.invokevirtual 177, 3) := by decide +kernel
theorem dX5_findOdds_127 : decode cX5_findOdds 127 = .ok (.invokevirtual 180, 3) := by decide +kernel
theorem dX5_findOdds_130 : decode cX5_findOdds 130 = .ok (.iinc 7 1, 3) := by decide +kernel
theorem dX5_findOdds_133 : decode cX5_findOdds 133 = .ok (.goto (-70), 3) := by decide +kernel
theorem dX5_findOdds_136 : decode cX5_findOdds 136 = .ok (.aload_n 0, 1) := by decide +kernel
theorem dX5_findOdds_137 : decode cX5_findOdds 137 = .ok (.dup, 1) := by decide +kernel
theorem dX5_findOdds_138 : decode cX5_findOdds 138 = .ok (.getfield 275, 3) := by decide +kernel
theorem dX5_findOdds_141 : decode cX5_findOdds 141 = .ok (.iload_n 2, 1) := by decide +kernel
theorem dX5_findOdds_142 : decode cX5_findOdds 142 = .ok (.bipush (-4), 2) := by decide +kernel
theorem dX5_findOdds_144 : decode cX5_findOdds 144 = .ok (.if_icmp .eq 18, 3) := by decide +kernel
theorem dX5_findOdds_147 : decode cX5_findOdds 147 = .ok (.aload_n 0, 1) := by decide +kernel
theorem dX5_findOdds_148 : decode cX5_findOdds 148 = .ok (.iload_n 2, 1) := by decide +kernel
theorem dX5_findOdds_149 : decode cX5_findOdds 149 = .ok (.iconst 3, 1) := by decide +kernel
theorem dX5_findOdds_150 : decode cX5_findOdds 150 = .ok (.invokevirtual 145, 3) := by decide +kernel
theorem dX5_findOdds_153 : decode cX5_findOdds 153 = .ok (.iconst 1, 1) := by decide +kernel
theorem dX5_findOdds_154 : decode cX5_findOdds 154 = .ok (.if_icmp .ne 8, 3) := by decide +kernel
theorem dX5_findOdds_157 : decode cX5_findOdds 157 = .ok (.lload 5, 2) := by decide +kernel
theorem dX5_findOdds_159 : decode cX5_findOdds 159 = .ok (.goto 4, 3) := by decide +kernel
theorem dX5_findOdds_162 : decode cX5_findOdds 162 = .ok (.lconst 0, 1) := by decide +kernel
theorem dX5_findOdds_163 : decode cX5_findOdds 163 = .ok (.ladd, 1) := by decide +kernel
theorem dX5_findOdds_164 : decode cX5_findOdds 164 = .ok (.putfield 275, 3) := by decide +kernel
theorem dX5_findOdds_167 : decode cX5_findOdds 167 = .ok (.aload_n 0, 1) := by decide +kernel
theorem dX5_findOdds_168 : decode cX5_findOdds 168 = .ok (.dup, 1) := by decide +kernel
theorem dX5_findOdds_169 : decode cX5_findOdds 169 = .ok (.getfield 279, 3) := by decide +kernel
theorem dX5_findOdds_172 : decode cX5_findOdds 172 = .ok (.lload 5, 2) := by decide +kernel
theorem dX5_findOdds_174 : decode cX5_findOdds 174 = .ok (.aload_n 0, 1) := by decide +kernel
theorem dX5_findOdds_175 : decode cX5_findOdds 175 = .ok (.invokevirtual 226, 3) := by decide +kernel
theorem dX5_findOdds_178 : decode cX5_findOdds 178 = .ok (.i2l, 1) := by decide +kernel
theorem dX5_findOdds_179 : decode cX5_findOdds 179 = .ok (.lmul, 1) := by decide +kernel
theorem dX5_findOdds_180 : decode cX5_findOdds 180 = .ok (.ladd, 1) := by decide +kernel
theorem dX5_findOdds_181 : decode cX5_findOdds 181 = .ok (.putfield 279, 3) := by decide +kernel
theorem dX5_findOdds_184 : decode cX5_findOdds 184 = .ok (.iinc 4 1, 3) := by decide +kernel
theorem dX5_findOdds_187 : decode cX5_findOdds 187 = .ok (.goto (-142), 3) := by decide +kernel
theorem dX5_findOdds_190 : decode cX5_findOdds 190 = .ok (.return_, 1) := by decide +kernel
theorem dX5_luck_0 : decode cX5_luck 0 = .ok (.iload_n 1, 1) := by decide +kernel
theorem dX5_luck_1 : decode cX5_luck 1 = .ok (.i2l, 1) := by decide +kernel
theorem dX5_luck_2 : decode cX5_luck 2 = .ok (.lconst 0, 1) := by decide +kernel
theorem dX5_luck_3 : decode cX5_luck 3 = .ok (.ldc2_w 285, 3) := by decide +kernel
theorem dX5_luck_6 : decode cX5_luck 6 = .ok (.invokestatic 63, 3) := by decide +kernel
theorem dX5_luck_9 : decode cX5_luck 9 = .ok (.ifCond .eq 31, 3) := by decide +kernel
theorem dX5_luck_12 : decode cX5_luck 12 = .ok (.aload_n 0, 1) := by decide +kernel
theorem dX5_luck_13 : decode cX5_luck 13 = .ok (.iload_n 2, 1) := by decide +kernel
theorem dX5_luck_14 : decode cX5_luck 14 = .ok (.invokevirtual 192, 3) := by decide +kernel
theorem dX5_luck_17 : decode cX5_luck 17 = .ok (.ifCond .eq 23, 3) := by decide +kernel
theorem dX5_luck_20 : decode cX5_luck 20 = .ok (.iload_n 3, 1) := by decide +kernel
theorem dX5_luck_21 : decode cX5_luck 21 = .ok (.i2l, 1) := by decide +kernel
theorem dX5_luck_22 : decode cX5_luck 22 = .ok (.lconst 0, 1) := by decide +kernel
theorem dX5_luck_23 : decode cX5_luck 23 = .ok (.ldc2_w 287, 3) := by decide +kernel
theorem dX5_luck_26 : decode cX5_luck 26 = .ok (.invokestatic 63, 3) := by decide +kernel
theorem dX5_luck_29 : decode cX5_luck 29 = .ok (.ifCond .eq 11, 3) := by decide +kernel
theorem dX5_luck_32 : decode cX5_luck 32 = .ok (.iload 4, 2) := by decide +kernel
theorem dX5_luck_34 : decode cX5_luck 34 = .ok (.invokestatic 240, 3) := by decide +kernel
theorem dX5_luck_37 : decode cX5_luck 37 = .ok (.ifCond .ne 7, 3) := by decide +kernel
theorem dX5_luck_40 : decode cX5_luck 40 = .ok (.ldc2_w 289, 3) := by decide +kernel
theorem dX5_luck_43 : decode cX5_luck 43 = .ok (.lreturn, 1) := by decide +kernel
theorem dX5_luck_44 : decode cX5_luck 44 = .ok (.aload_n 0, 1) := by decide +kernel
theorem dX5_luck_45 : decode cX5_luck 45 = .ok (.iload_n 1, 1) := by decide +kernel
theorem dX5_luck_46 : decode cX5_luck 46 = .ok (.iload_n 2, 1) := by decide +kernel
theorem dX5_luck_47 : decode cX5_luck 47 = .ok (.iload_n 3, 1) := by decide +kernel
theorem dX5_luck_48 : decode cX5_luck 48 = .ok (.invokevirtual 291, 3) := by decide +kernel
theorem dX5_luck_51 : decode cX5_luck 51 = .ok (.aload_n 0, 1) := by decide +kernel
theorem dX5_luck_52 : decode cX5_luck 52 = .ok (.getfield 275, 3) := by decide +kernel
theorem dX5_luck_55 : decode cX5_luck 55 = .ok (.aload_n 0, 1) := by decide +kernel
theorem dX5_luck_56 : decode cX5_luck 56 = .ok (.getfield 282, 3) := by decide +kernel
theorem dX5_luck_59 : decode cX5_luck 59 = .ok (.iload 4, 2) := by decide +kernel
theorem dX5_luck_61 : decode cX5_luck 61 = .ok (.invokestatic 294, 3) := by decide +kernel
theorem dX5_luck_64 : decode cX5_luck 64 = .ok (.lreturn, 1) := by decide +kernel
theorem dX5_mean_0 : decode cX5_mean 0 = .ok (.iload_n 1, 1) := by decide +kernel
theorem dX5_mean_1 : decode cX5_mean 1 = .ok (.i2l, 1) := by decide +kernel
theorem dX5_mean_2 : decode cX5_mean 2 = .ok (.lconst 0, 1) := by decide +kernel
theorem dX5_mean_3 : decode cX5_mean 3 = .ok (.ldc2_w 285, 3) := by decide +kernel
theorem dX5_mean_6 : decode cX5_mean 6 = .ok (.invokestatic 63, 3) := by decide +kernel
theorem dX5_mean_9 : decode cX5_mean 9 = .ok (.ifCond .eq 22, 3) := by decide +kernel
theorem dX5_mean_12 : decode cX5_mean 12 = .ok (.iload_n 2, 1) := by decide +kernel
theorem dX5_mean_13 : decode cX5_mean 13 = .ok (.i2l, 1) := by decide +kernel
theorem dX5_mean_14 : decode cX5_mean 14 = .ok (.lconst 0, 1) := by decide +kernel
theorem dX5_mean_15 : decode cX5_mean 15 = .ok (.ldc2_w 287, 3) := by decide +kernel
theorem dX5_mean_18 : decode cX5_mean 18 = .ok (.invokestatic 63, 3) := by decide +kernel
theorem dX5_mean_21 : decode cX5_mean 21 = .ok (.ifCond .eq 10, 3) := by decide +kernel
theorem dX5_mean_24 : decode cX5_mean 24 = .ok (.iload_n 3, 1) := by decide +kernel
theorem dX5_mean_25 : decode cX5_mean 25 = .ok (.invokestatic 240, 3) := by decide +kernel
theorem dX5_mean_28 : decode cX5_mean 28 = .ok (.ifCond .ne 7, 3) := by decide +kernel
theorem dX5_mean_31 : decode cX5_mean 31 = .ok (.ldc2_w 289, 3) := by decide +kernel
theorem dX5_mean_34 : decode cX5_mean 34 = .ok (.lreturn, 1) := by decide +kernel
theorem dX5_mean_35 : decode cX5_mean 35 = .ok (.aload_n 0, 1) := by decide +kernel
theorem dX5_mean_36 : decode cX5_mean 36 = .ok (.iload_n 1, 1) := by decide +kernel
theorem dX5_mean_37 : decode cX5_mean 37 = .ok (.bipush (-4), 2) := by decide +kernel
theorem dX5_mean_39 : decode cX5_mean 39 = .ok (.iload_n 2, 1) := by decide +kernel
theorem dX5_mean_40 : decode cX5_mean 40 = .ok (.invokevirtual 291, 3) := by decide +kernel
theorem dX5_mean_43 : decode cX5_mean 43 = .ok (.aload_n 0, 1) := by decide +kernel
theorem dX5_mean_44 : decode cX5_mean 44 = .ok (.getfield 279, 3) := by decide +kernel
theorem dX5_mean_47 : decode cX5_mean 47 = .ok (.aload_n 0, 1) := by decide +kernel
theorem dX5_mean_48 : decode cX5_mean 48 = .ok (.getfield 282, 3) := by decide +kernel
theorem dX5_mean_51 : decode cX5_mean 51 = .ok (.iload_n 3, 1) := by decide +kernel
theorem dX5_mean_52 : decode cX5_mean 52 = .ok (.invokestatic 294, 3) := by decide +kernel
theorem dX5_mean_55 : decode cX5_mean 55 = .ok (.lreturn, 1) := by decide +kernel
theorem dX5_see_0 : decode cX5_see 0 = .ok (.iload_n 1, 1) := by decide +kernel
theorem dX5_see_1 : decode cX5_see 1 = .ok (.i2l, 1) := by decide +kernel
theorem dX5_see_2 : decode cX5_see 2 = .ok (.lconst 0, 1) := by decide +kernel
theorem dX5_see_3 : decode cX5_see 3 = .ok (.ldc2_w 298, 3) := by decide +kernel
theorem dX5_see_6 : decode cX5_see 6 = .ok (.invokestatic 63, 3) := by decide +kernel
theorem dX5_see_9 : decode cX5_see 9 = .ok (.ifCond .eq 21, 3) := by decide +kernel
theorem dX5_see_12 : decode cX5_see 12 = .ok (.aload_n 0, 1) := by decide +kernel
theorem dX5_see_13 : decode cX5_see 13 = .ok (.iload_n 2, 1) := by decide +kernel
theorem dX5_see_14 : decode cX5_see 14 = .ok (.invokevirtual 192, 3) := by decide +kernel
theorem dX5_see_17 : decode cX5_see 17 = .ok (.ifCond .eq 13, 3) := by decide +kernel
theorem dX5_see_20 : decode cX5_see 20 = .ok (.iload_n 3, 1) := by decide +kernel
theorem dX5_see_21 : decode cX5_see 21 = .ok (.i2l, 1) := by decide +kernel
theorem dX5_see_22 : decode cX5_see 22 = .ok (.lconst 0, 1) := by decide +kernel
theorem dX5_see_23 : decode cX5_see 23 = .ok (.lconst 1, 1) := by decide +kernel
theorem dX5_see_24 : decode cX5_see 24 = .ok (.invokestatic 63, 3) := by decide +kernel
theorem dX5_see_27 : decode cX5_see 27 = .ok (.ifCond .ne 5, 3) := by decide +kernel
theorem dX5_see_30 : decode cX5_see 30 = .ok (.iconst (-1), 1) := by decide +kernel
theorem dX5_see_31 : decode cX5_see 31 = .ok (.ireturn, 1) := by decide +kernel
theorem dX5_see_32 : decode cX5_see 32 = .ok (.aload_n 0, 1) := by decide +kernel
theorem dX5_see_33 : decode cX5_see 33 = .ok (.getfield 7, 3) := by decide +kernel
theorem dX5_see_36 : decode cX5_see 36 = .ok (.bipush 56, 2) := by decide +kernel
theorem dX5_see_38 : decode cX5_see 38 = .ok (.iaload, 1) := by decide +kernel
theorem dX5_see_39 : decode cX5_see 39 = .ok (.bipush 6, 2) := by decide +kernel
theorem dX5_see_41 : decode cX5_see 41 = .ok (.if_icmp .ne 6, 3) := by decide +kernel
theorem dX5_see_44 : decode cX5_see 44 = .ok (.bipush (-3), 2) := by decide +kernel
theorem dX5_see_46 : decode cX5_see 46 = .ok (.ireturn, 1) := by decide +kernel
theorem dX5_see_47 : decode cX5_see 47 = .ok (.bipush 57, 2) := by decide +kernel
theorem dX5_see_49 : decode cX5_see 49 = .ok (.iconst 3, 1) := by decide +kernel
theorem dX5_see_50 : decode cX5_see 50 = .ok (.aload_n 0, 1) := by decide +kernel
theorem dX5_see_51 : decode cX5_see 51 = .ok (.getfield 7, 3) := by decide +kernel
theorem dX5_see_54 : decode cX5_see 54 = .ok (.bipush 56, 2) := by decide +kernel
theorem dX5_see_56 : decode cX5_see 56 = .ok (.iaload, 1) := by decide +kernel
theorem dX5_see_57 : decode cX5_see 57 = .ok (.imul, 1) := by decide +kernel
theorem dX5_see_58 : decode cX5_see 58 = .ok (.iadd, 1) := by decide +kernel
theorem dX5_see_59 : decode cX5_see 59 = .ok (.istore 4, 2) := by decide +kernel
theorem dX5_see_61 : decode cX5_see 61 = .ok (.aload_n 0, 1) := by decide +kernel
theorem dX5_see_62 : decode cX5_see 62 = .ok (.getfield 7, 3) := by decide +kernel
theorem dX5_see_65 : decode cX5_see 65 = .ok (.iload 4, 2) := by decide +kernel
theorem dX5_see_67 : decode cX5_see 67 = .ok (.iload_n 1, 1) := by decide +kernel
theorem dX5_see_68 : decode cX5_see 68 = .ok (.iastore, 1) := by decide +kernel
theorem dX5_see_69 : decode cX5_see 69 = .ok (.aload_n 0, 1) := by decide +kernel
theorem dX5_see_70 : decode cX5_see 70 = .ok (.getfield 7, 3) := by decide +kernel
theorem dX5_see_73 : decode cX5_see 73 = .ok (.iload 4, 2) := by decide +kernel
theorem dX5_see_75 : decode cX5_see 75 = .ok (.iconst 1, 1) := by decide +kernel
theorem dX5_see_76 : decode cX5_see 76 = .ok (.iadd, 1) := by decide +kernel
theorem dX5_see_77 : decode cX5_see 77 = .ok (.iload_n 2, 1) := by decide +kernel
theorem dX5_see_78 : decode cX5_see 78 = .ok (.iastore, 1) := by decide +kernel
theorem dX5_see_79 : decode cX5_see 79 = .ok (.aload_n 0, 1) := by decide +kernel
theorem dX5_see_80 : decode cX5_see 80 = .ok (.getfield 7, 3) := by decide +kernel
theorem dX5_see_83 : decode cX5_see 83 = .ok (.iload 4, 2) := by decide +kernel
theorem dX5_see_85 : decode cX5_see 85 = .ok (.iconst 2, 1) := by decide +kernel
theorem dX5_see_86 : decode cX5_see 86 = .ok (.iadd, 1) := by decide +kernel
theorem dX5_see_87 : decode cX5_see 87 = .ok (.iload_n 3, 1) := by decide +kernel
theorem dX5_see_88 : decode cX5_see 88 = .ok (.iastore, 1) := by decide +kernel
theorem dX5_see_89 : decode cX5_see 89 = .ok (.aload_n 0, 1) := by decide +kernel
theorem dX5_see_90 : decode cX5_see 90 = .ok (.getfield 7, 3) := by decide +kernel
theorem dX5_see_93 : decode cX5_see 93 = .ok (.bipush 56, 2) := by decide +kernel
theorem dX5_see_95 : decode cX5_see 95 = .ok (.dup2, 1) := by decide +kernel
theorem dX5_see_96 : decode cX5_see 96 = .ok (.iaload, 1) := by decide +kernel
theorem dX5_see_97 : decode cX5_see 97 = .ok (.iconst 1, 1) := by decide +kernel
theorem dX5_see_98 : decode cX5_see 98 = .ok (.iadd, 1) := by decide +kernel
theorem dX5_see_99 : decode cX5_see 99 = .ok (.iastore, 1) := by decide +kernel
theorem dX5_see_100 : decode cX5_see 100 = .ok (.aload_n 0, 1) := by decide +kernel
theorem dX5_see_101 : decode cX5_see 101 = .ok (.getfield 7, 3) := by decide +kernel
theorem dX5_see_104 : decode cX5_see 104 = .ok (.bipush 56, 2) := by decide +kernel
theorem dX5_see_106 : decode cX5_see 106 = .ok (.iaload, 1) := by decide +kernel
theorem dX5_see_107 : decode cX5_see 107 = .ok (.ireturn, 1) := by decide +kernel
theorem dX5_forget_0 : decode cX5_forget 0 = .ok (.iload_n 1, 1) := by decide +kernel
theorem dX5_forget_1 : decode cX5_forget 1 = .ok (.i2l, 1) := by decide +kernel
theorem dX5_forget_2 : decode cX5_forget 2 = .ok (.lconst 0, 1) := by decide +kernel
theorem dX5_forget_3 : decode cX5_forget 3 = .ok (.aload_n 0, 1) := by decide +kernel
theorem dX5_forget_4 : decode cX5_forget 4 = .ok (.getfield 7, 3) := by decide +kernel
theorem dX5_forget_7 : decode cX5_forget 7 = .ok (.bipush 56, 2) := by decide +kernel
theorem dX5_forget_9 : decode cX5_forget 9 = .ok (.iaload, 1) := by decide +kernel
theorem dX5_forget_10 : decode cX5_forget 10 = .ok (.i2l, 1) := by decide +kernel
theorem dX5_forget_11 : decode cX5_forget 11 = .ok (.invokestatic 63, 3) := by decide +kernel
theorem dX5_forget_14 : decode cX5_forget 14 = .ok (.ifCond .eq 13, 3) := by decide +kernel
theorem dX5_forget_17 : decode cX5_forget 17 = .ok (.aload_n 0, 1) := by decide +kernel
theorem dX5_forget_18 : decode cX5_forget 18 = .ok (.bipush 56, 2) := by decide +kernel
theorem dX5_forget_20 : decode cX5_forget 20 = .ok (.iload_n 1, 1) := by decide +kernel
theorem dX5_forget_21 : decode cX5_forget 21 = .ok (.invokevirtual 208, 3) := by decide +kernel
theorem dX5_forget_24 : decode cX5_forget 24 = .ok (.goto 4, 3) := by decide +kernel
theorem dX5_forget_27 : decode cX5_forget 27 = .ok (.iconst (-1), 1) := by decide +kernel
theorem dX5_forget_28 : decode cX5_forget 28 = .ok (.ireturn, 1) := by decide +kernel
theorem dX5_isSoWith_0 : decode cX5_isSoWith 0 = .ok (.aload_n 0, 1) := by decide +kernel
theorem dX5_isSoWith_1 : decode cX5_isSoWith 1 = .ok (.iload_n 1, 1) := by decide +kernel
theorem dX5_isSoWith_2 : decode cX5_isSoWith 2 = .ok (.iload_n 2, 1) := by decide +kernel
theorem dX5_isSoWith_3 : decode cX5_isSoWith 3 = .ok (.iload_n 3, 1) := by decide +kernel
theorem dX5_isSoWith_4 : decode cX5_isSoWith 4 = .ok (.invokevirtual 252, 3) := by decide +kernel
theorem dX5_isSoWith_7 : decode cX5_isSoWith 7 = .ok (.iconst 0, 1) := by decide +kernel
theorem dX5_isSoWith_8 : decode cX5_isSoWith 8 = .ok (.istore 4, 2) := by decide +kernel
theorem dX5_isSoWith_10 : decode cX5_isSoWith 10 = .ok (.iload 4, 2) := by decide +kernel
theorem dX5_isSoWith_12 : decode cX5_isSoWith 12 = .ok (.bipush 40, 2) := by decide +kernel
theorem dX5_isSoWith_14 : decode cX5_isSoWith 14 = .ok (.if_icmp .gt 25, 3) := by decide +kernel
theorem dX5_isSoWith_17 : decode cX5_isSoWith 17 = .ok (.aload_n 0, 1) := by decide +kernel
theorem dX5_isSoWith_18 : decode cX5_isSoWith 18 = .ok (.getfield 29, 3) := by decide +kernel
theorem dX5_isSoWith_21 : decode cX5_isSoWith 21 = .ok (.iload 4, 2) := by decide +kernel
theorem dX5_isSoWith_23 : decode cX5_isSoWith 23 = .ok (.aload_n 0, 1) := by decide +kernel
theorem dX5_isSoWith_24 : decode cX5_isSoWith 24 = .ok (.invokevirtual 186, 3) := by decide +kernel
theorem dX5_isSoWith_27 : decode cX5_isSoWith 27 = .ok (.iastore, 1) := by decide +kernel
theorem dX5_isSoWith_28 : decode cX5_isSoWith 28 = .ok (.aload_n 0, 1) := by decide +kernel
theorem dX5_isSoWith_29 : decode cX5_isSoWith 29 = .ok (.iconst 1, 1) := by decide +kernel
theorem dX5_isSoWith_30 : decode cX5_isSoWith 30 = .ok (.invokevirtual 223, 3) := by decide +kernel
theorem dX5_isSoWith_33 : decode cX5_isSoWith 33 = .ok (.iinc 4 1, 3) := by decide +kernel
theorem dX5_isSoWith_36 : decode cX5_isSoWith 36 = .ok (.goto (-26), 3) := by decide +kernel
theorem dX5_isSoWith_39 : decode cX5_isSoWith 39 = .ok (.iconst 1, 1) := by decide +kernel
theorem dX5_isSoWith_40 : decode cX5_isSoWith 40 = .ok (.istore 4, 2) := by decide +kernel
theorem dX5_isSoWith_42 : decode cX5_isSoWith 42 = .ok (.iconst 0, 1) := by decide +kernel
theorem dX5_isSoWith_43 : decode cX5_isSoWith 43 = .ok (.istore 5, 2) := by decide +kernel
theorem dX5_isSoWith_45 : decode cX5_isSoWith 45 = .ok (.iload 5, 2) := by decide +kernel
theorem dX5_isSoWith_47 : decode cX5_isSoWith 47 = .ok (.aload_n 0, 1) := by decide +kernel
theorem dX5_isSoWith_48 : decode cX5_isSoWith 48 = .ok (.getfield 7, 3) := by decide +kernel
theorem dX5_isSoWith_51 : decode cX5_isSoWith 51 = .ok (.bipush 56, 2) := by decide +kernel
theorem dX5_isSoWith_53 : decode cX5_isSoWith 53 = .ok (.iaload, 1) := by decide +kernel
theorem dX5_isSoWith_54 : decode cX5_isSoWith 54 = .ok (.if_icmp .ge 66, 3) := by decide +kernel
theorem dX5_isSoWith_57 : decode cX5_isSoWith 57 = .ok (.bipush 57, 2) := by decide +kernel
theorem dX5_isSoWith_59 : decode cX5_isSoWith 59 = .ok (.iconst 3, 1) := by decide +kernel
theorem dX5_isSoWith_60 : decode cX5_isSoWith 60 = .ok (.iload 5, 2) := by decide +kernel
theorem dX5_isSoWith_62 : decode cX5_isSoWith 62 = .ok (.imul, 1) := by decide +kernel
theorem dX5_isSoWith_63 : decode cX5_isSoWith 63 = .ok (.iadd, 1) := by decide +kernel
theorem dX5_isSoWith_64 : decode cX5_isSoWith 64 = .ok (.istore 6, 2) := by decide +kernel
theorem dX5_isSoWith_66 : decode cX5_isSoWith 66 = .ok (.iload 4, 2) := by decide +kernel
theorem dX5_isSoWith_68 : decode cX5_isSoWith 68 = .ok (.ifCond .eq 43, 3) := by decide +kernel
theorem dX5_isSoWith_71 : decode cX5_isSoWith 71 = .ok (.aload_n 0, 1) := by decide +kernel
theorem dX5_isSoWith_72 : decode cX5_isSoWith 72 = .ok (.getfield 29, 3) := by decide +kernel
theorem dX5_isSoWith_75 : decode cX5_isSoWith 75 = .ok (.aload_n 0, 1) := by decide +kernel
theorem dX5_isSoWith_76 : decode cX5_isSoWith 76 = .ok (.getfield 7, 3) := by decide +kernel
theorem dX5_isSoWith_79 : decode cX5_isSoWith 79 = .ok (.iload 6, 2) := by decide +kernel
theorem dX5_isSoWith_81 : decode cX5_isSoWith 81 = .ok (.iaload, 1) := by decide +kernel
theorem dX5_isSoWith_82 : decode cX5_isSoWith 82 = .ok (.iaload, 1) := by decide +kernel
theorem dX5_isSoWith_83 : decode cX5_isSoWith 83 = .ok (.aload_n 0, 1) := by decide +kernel
theorem dX5_isSoWith_84 : decode cX5_isSoWith 84 = .ok (.getfield 7, 3) := by decide +kernel
theorem dX5_isSoWith_87 : decode cX5_isSoWith 87 = .ok (.iload 6, 2) := by decide +kernel
theorem dX5_isSoWith_89 : decode cX5_isSoWith 89 = .ok (.iconst 1, 1) := by decide +kernel
theorem dX5_isSoWith_90 : decode cX5_isSoWith 90 = .ok (.iadd, 1) := by decide +kernel
theorem dX5_isSoWith_91 : decode cX5_isSoWith 91 = .ok (.iaload, 1) := by decide +kernel
theorem dX5_isSoWith_92 : decode cX5_isSoWith 92 = .ok (.ishr, 1) := by decide +kernel
theorem dX5_isSoWith_93 : decode cX5_isSoWith 93 = .ok (.iconst 1, 1) := by decide +kernel
theorem dX5_isSoWith_94 : decode cX5_isSoWith 94 = .ok (.iand, 1) := by decide +kernel
theorem dX5_isSoWith_95 : decode cX5_isSoWith 95 = .ok (.aload_n 0, 1) := by decide +kernel
theorem dX5_isSoWith_96 : decode cX5_isSoWith 96 = .ok (.getfield 7, 3) := by decide +kernel
theorem dX5_isSoWith_99 : decode cX5_isSoWith 99 = .ok (.iload 6, 2) := by decide +kernel
theorem dX5_isSoWith_101 : decode cX5_isSoWith 101 = .ok (.iconst 2, 1) := by decide +kernel
theorem dX5_isSoWith_102 : decode cX5_isSoWith 102 = .ok (.iadd, 1) := by decide +kernel
theorem dX5_isSoWith_103 : decode cX5_isSoWith 103 = .ok (.iaload, 1) := by decide +kernel
theorem dX5_isSoWith_104 : decode cX5_isSoWith 104 = .ok (.if_icmp .ne 7, 3) := by decide +kernel
theorem dX5_isSoWith_107 : decode cX5_isSoWith 107 = .ok (.iconst 1, 1) := by decide +kernel
theorem dX5_isSoWith_108 : decode cX5_isSoWith 108 = .ok (.goto 4, 3) := by decide +kernel
theorem dX5_isSoWith_111 : decode cX5_isSoWith 111 = .ok (.iconst 0, 1) := by decide +kernel
theorem dX5_isSoWith_112 : decode cX5_isSoWith 112 = .ok (.istore 4, 2) := by decide +kernel
theorem dX5_isSoWith_114 : decode cX5_isSoWith 114 = .ok (.iinc 5 1, 3) := by decide +kernel
theorem dX5_isSoWith_117 : decode cX5_isSoWith 117 = .ok (.goto (-72), 3) := by decide +kernel
theorem dX5_isSoWith_120 : decode cX5_isSoWith 120 = .ok (.iload 4, 2) := by decide +kernel
theorem dX5_isSoWith_122 : decode cX5_isSoWith 122 = .ok (.ireturn, 1) := by decide +kernel
theorem dX5_which_0 : decode cX5_which 0 = .ok (.aload_n 0, 1) := by decide +kernel
theorem dX5_which_1 : decode cX5_which 1 = .ok (.iload_n 1, 1) := by decide +kernel
theorem dX5_which_2 : decode cX5_which 2 = .ok (.invokevirtual 192, 3) := by decide +kernel
theorem dX5_which_5 : decode cX5_which 5 = .ok (.ifCond .ne 5, 3) := by decide +kernel
theorem dX5_which_8 : decode cX5_which 8 = .ok (.iconst (-1), 1) := by decide +kernel
theorem dX5_which_9 : decode cX5_which 9 = .ok (.ireturn, 1) := by decide +kernel
theorem dX5_which_10 : decode cX5_which 10 = .ok (.iconst 0, 1) := by decide +kernel
theorem dX5_which_11 : decode cX5_which 11 = .ok (.istore_n 3, 1) := by decide +kernel
theorem dX5_which_12 : decode cX5_which 12 = .ok (.iload_n 2, 1) := by decide +kernel
theorem dX5_which_13 : decode cX5_which 13 = .ok (.invokestatic 202, 3) := by decide +kernel
theorem dX5_which_16 : decode cX5_which 16 = .ok (.istore 4, 2) := by decide +kernel
theorem dX5_which_18 : decode cX5_which 18 = .ok (.iload 4, 2) := by decide +kernel
theorem dX5_which_20 : decode cX5_which 20 = .ok (.iload_n 2, 1) := by decide +kernel
theorem dX5_which_21 : decode cX5_which 21 = .ok (.invokestatic 205, 3) := by decide +kernel
theorem dX5_which_24 : decode cX5_which 24 = .ok (.if_icmp .gt 26, 3) := by decide +kernel
theorem dX5_which_27 : decode cX5_which 27 = .ok (.iload_n 3, 1) := by decide +kernel
theorem dX5_which_28 : decode cX5_which 28 = .ok (.aload_n 0, 1) := by decide +kernel
theorem dX5_which_29 : decode cX5_which 29 = .ok (.iload_n 1, 1) := by decide +kernel
theorem dX5_which_30 : decode cX5_which 30 = .ok (.iload_n 2, 1) := by decide +kernel
theorem dX5_which_31 : decode cX5_which 31 = .ok (.iload 4, 2) := by decide +kernel
theorem dX5_which_33 : decode cX5_which 33 = .ok (.invokevirtual 300, 3) := by decide +kernel
theorem dX5_which_36 : decode cX5_which 36 = .ok (.invokestatic 236, 3) := by decide +kernel
theorem dX5_which_39 : decode cX5_which 39 = .ok (.iload 4, 2) := by decide +kernel
theorem dX5_which_41 : decode cX5_which 41 = .ok (.ishl, 1) := by decide +kernel
theorem dX5_which_42 : decode cX5_which 42 = .ok (.ior, 1) := by decide +kernel
theorem dX5_which_43 : decode cX5_which 43 = .ok (.istore_n 3, 1) := by decide +kernel
theorem dX5_which_44 : decode cX5_which 44 = .ok (.iinc 4 1, 3) := by decide +kernel
theorem dX5_which_47 : decode cX5_which 47 = .ok (.goto (-29), 3) := by decide +kernel
theorem dX5_which_50 : decode cX5_which 50 = .ok (.iload_n 3, 1) := by decide +kernel
theorem dX5_which_51 : decode cX5_which 51 = .ok (.ireturn, 1) := by decide +kernel
theorem dX5_kinds_0 : decode cX5_kinds 0 = .ok (.aload_n 0, 1) := by decide +kernel
theorem dX5_kinds_1 : decode cX5_kinds 1 = .ok (.iload_n 1, 1) := by decide +kernel
theorem dX5_kinds_2 : decode cX5_kinds 2 = .ok (.iconst 1, 1) := by decide +kernel
theorem dX5_kinds_3 : decode cX5_kinds 3 = .ok (.invokevirtual 304, 3) := by decide +kernel
theorem dX5_kinds_6 : decode cX5_kinds 6 = .ok (.ireturn, 1) := by decide +kernel
theorem dX5_numbers_0 : decode cX5_numbers 0 = .ok (.aload_n 0, 1) := by decide +kernel
theorem dX5_numbers_1 : decode cX5_numbers 1 = .ok (.iload_n 1, 1) := by decide +kernel
theorem dX5_numbers_2 : decode cX5_numbers 2 = .ok (.iconst 2, 1) := by decide +kernel
theorem dX5_numbers_3 : decode cX5_numbers 3 = .ok (.invokevirtual 304, 3) := by decide +kernel
theorem dX5_numbers_6 : decode cX5_numbers 6 = .ok (.ireturn, 1) := by decide +kernel
theorem dX5_bounces_0 : decode cX5_bounces 0 = .ok (.aload_n 0, 1) := by decide +kernel
theorem dX5_bounces_1 : decode cX5_bounces 1 = .ok (.iload_n 1, 1) := by decide +kernel
theorem dX5_bounces_2 : decode cX5_bounces 2 = .ok (.iconst 0, 1) := by decide +kernel
theorem dX5_bounces_3 : decode cX5_bounces 3 = .ok (.invokevirtual 304, 3) := by decide +kernel
theorem dX5_bounces_6 : decode cX5_bounces 6 = .ok (.ireturn, 1) := by decide +kernel
theorem dX5_ask_0 : decode cX5_ask 0 = .ok (.aload_n 0, 1) := by decide +kernel
theorem dX5_ask_1 : decode cX5_ask 1 = .ok (.iload_n 1, 1) := by decide +kernel
theorem dX5_ask_2 : decode cX5_ask 2 = .ok (.invokevirtual 192, 3) := by decide +kernel
theorem dX5_ask_5 : decode cX5_ask 5 = .ok (.ifCond .eq 10, 3) := by decide +kernel
theorem dX5_ask_8 : decode cX5_ask 8 = .ok (.iload_n 2, 1) := by decide +kernel
theorem dX5_ask_9 : decode cX5_ask 9 = .ok (.invokestatic 240, 3) := by decide +kernel
theorem dX5_ask_12 : decode cX5_ask 12 = .ok (.ifCond .ne 5, 3) := by decide +kernel
theorem dX5_ask_15 : decode cX5_ask 15 = .ok (.iconst (-1), 1) := by decide +kernel
theorem dX5_ask_16 : decode cX5_ask 16 = .ok (.ireturn, 1) := by decide +kernel
theorem dX5_ask_17 : decode cX5_ask 17 = .ok (.iconst 0, 1) := by decide +kernel
theorem dX5_ask_18 : decode cX5_ask 18 = .ok (.istore_n 3, 1) := by decide +kernel
theorem dX5_ask_19 : decode cX5_ask 19 = .ok (.iconst 0, 1) := by decide +kernel
theorem dX5_ask_20 : decode cX5_ask 20 = .ok (.istore 4, 2) := by decide +kernel
theorem dX5_ask_22 : decode cX5_ask 22 = .ok (.iload 4, 2) := by decide +kernel
theorem dX5_ask_24 : decode cX5_ask 24 = .ok (.bipush 40, 2) := by decide +kernel
theorem dX5_ask_26 : decode cX5_ask 26 = .ok (.if_icmp .gt 17, 3) := by decide +kernel
theorem dX5_ask_29 : decode cX5_ask 29 = .ok (.aload_n 0, 1) := by decide +kernel
theorem dX5_ask_30 : decode cX5_ask 30 = .ok (.getfield 32, 3) := by decide +kernel
theorem dX5_ask_33 : decode cX5_ask 33 = .ok (.iload 4, 2) := by decide +kernel
theorem dX5_ask_35 : decode cX5_ask 35 = .ok (.iconst 0, 1) := by decide +kernel
theorem dX5_ask_36 : decode cX5_ask 36 = .ok (.iastore, 1) := by decide +kernel
theorem dX5_ask_37 : decode cX5_ask 37 = .ok (.iinc 4 1, 3) := by decide +kernel
theorem dX5_ask_40 : decode cX5_ask 40 = .ok (.goto (-18), 3) := by decide +kernel
theorem dX5_ask_43 : decode cX5_ask 43 = .ok (.iconst 1, 1) := by decide +kernel
theorem dX5_ask_44 : decode cX5_ask 44 = .ok (.istore 4, 2) := by decide +kernel
theorem dX5_ask_46 : decode cX5_ask 46 = .ok (.iload 4, 2) := by decide +kernel
theorem dX5_ask_48 : decode cX5_ask 48 = .ok (.bipush 9, 2) := by decide +kernel
theorem dX5_ask_50 : decode cX5_ask 50 = .ok (.if_icmp .gt 60, 3) := by decide +kernel
theorem dX5_ask_53 : decode cX5_ask 53 = .ok (.aload_n 0, 1) := by decide +kernel
theorem dX5_ask_54 : decode cX5_ask 54 = .ok (.iload_n 1, 1) := by decide +kernel
theorem dX5_ask_55 : decode cX5_ask 55 = .ok (.iconst 2, 1) := by decide +kernel
theorem dX5_ask_56 : decode cX5_ask 56 = .ok (.iload 4, 2) := by decide +kernel
theorem dX5_ask_58 : decode cX5_ask 58 = .ok (.invokevirtual 300, 3) := by decide +kernel
theorem dX5_ask_61 : decode cX5_ask 61 = .ok (.ifCond .eq 43, 3) := by decide +kernel
theorem dX5_ask_64 : decode cX5_ask 64 = .ok (.iconst 0, 1) := by decide +kernel
theorem dX5_ask_65 : decode cX5_ask 65 = .ok (.istore 5, 2) := by decide +kernel
theorem dX5_ask_67 : decode cX5_ask 67 = .ok (.iload 5, 2) := by decide +kernel
theorem dX5_ask_69 : decode cX5_ask 69 = .ok (.bipush 40, 2) := by decide +kernel
theorem dX5_ask_71 : decode cX5_ask 71 = .ok (.if_icmp .gt 30, 3) := by decide +kernel
theorem dX5_ask_74 : decode cX5_ask 74 = .ok (.aload_n 0, 1) := by decide +kernel
theorem dX5_ask_75 : decode cX5_ask 75 = .ok (.getfield 32, 3) := by decide +kernel
theorem dX5_ask_78 : decode cX5_ask 78 = .ok (.iload 5, 2) := by decide +kernel
theorem dX5_ask_80 : decode cX5_ask 80 = .ok (.dup2, 1) := by decide +kernel
theorem dX5_ask_81 : decode cX5_ask 81 = .ok (.iaload, 1) := by decide +kernel
theorem dX5_ask_82 : decode cX5_ask 82 = .ok (.aload_n 0, 1) := by decide +kernel
theorem dX5_ask_83 : decode cX5_ask 83 = .ok (.getfield 29, 3) := by decide +kernel
theorem dX5_ask_86 : decode cX5_ask 86 = .ok (.iload 5, 2) := by decide +kernel
theorem dX5_ask_88 : decode cX5_ask 88 = .ok (.iaload, 1) := by decide +kernel
theorem dX5_ask_89 : decode cX5_ask 89 = .ok (.iload_n 1, 1) := by decide +kernel
theorem dX5_ask_90 : decode cX5_ask 90 = .ok (.ishr, 1) := by decide +kernel
theorem dX5_ask_91 : decode cX5_ask 91 = .ok (.iconst 1, 1) := by decide +kernel
theorem dX5_ask_92 : decode cX5_ask 92 = .ok (.iand, 1) := by decide +kernel
theorem dX5_ask_93 : decode cX5_ask 93 = .ok (.iadd, 1) := by decide +kernel
theorem dX5_ask_94 : decode cX5_ask 94 = .ok (.iastore, 1) := by decide +kernel
theorem dX5_ask_95 : decode cX5_ask 95 = .ok (.iinc 5 1, 3) := by decide +kernel
theorem dX5_ask_98 : decode cX5_ask 98 = .ok (.goto (-31), 3) := by decide +kernel
theorem dX5_ask_101 : decode cX5_ask 101 = .ok (.iinc 3 1, 3) := by decide +kernel
theorem dX5_ask_104 : decode cX5_ask 104 = .ok (.iinc 4 1, 3) := by decide +kernel
theorem dX5_ask_107 : decode cX5_ask 107 = .ok (.goto (-61), 3) := by decide +kernel
theorem dX5_ask_110 : decode cX5_ask 110 = .ok (.aload_n 0, 1) := by decide +kernel
theorem dX5_ask_111 : decode cX5_ask 111 = .ok (.iload_n 3, 1) := by decide +kernel
theorem dX5_ask_112 : decode cX5_ask 112 = .ok (.invokevirtual 262, 3) := by decide +kernel
theorem dX5_ask_115 : decode cX5_ask 115 = .ok (.iconst 0, 1) := by decide +kernel
theorem dX5_ask_116 : decode cX5_ask 116 = .ok (.istore 4, 2) := by decide +kernel
theorem dX5_ask_118 : decode cX5_ask 118 = .ok (.iload 4, 2) := by decide +kernel
theorem dX5_ask_120 : decode cX5_ask 120 = .ok (.bipush 40, 2) := by decide +kernel
theorem dX5_ask_122 : decode cX5_ask 122 = .ok (.if_icmp .gt 53, 3) := by decide +kernel
theorem dX5_ask_125 : decode cX5_ask 125 = .ok (.aload_n 0, 1) := by decide +kernel
theorem dX5_ask_126 : decode cX5_ask 126 = .ok (.iload 4, 2) := by decide +kernel
theorem dX5_ask_128 : decode cX5_ask 128 = .ok (.aload_n 0, 1) := by decide +kernel
theorem dX5_ask_129 : decode cX5_ask 129 = .ok (.getfield 32, 3) := by decide +kernel
theorem dX5_ask_132 : decode cX5_ask 132 = .ok (.iload 4, 2) := by decide +kernel
theorem dX5_ask_134 : decode cX5_ask 134 = .ok (.iaload, 1) := by decide +kernel
theorem dX5_ask_135 : decode cX5_ask 135 = .ok (.iload_n 3, 1) := by decide +kernel
theorem dX5_ask_136 : decode cX5_ask 136 = .ok (.aload_n 0, 1) := by decide +kernel
theorem dX5_ask_137 : decode cX5_ask 137 = .ok (.getfield 32, 3) := by decide +kernel
theorem dX5_ask_140 : decode cX5_ask 140 = .ok (.iload 4, 2) := by decide +kernel
theorem dX5_ask_142 : decode cX5_ask 142 = .ok (.iaload, 1) := by decide +kernel
theorem dX5_ask_143 : decode cX5_ask 143 = .ok (.isub, 1) := by decide +kernel
theorem dX5_ask_144 : decode cX5_ask 144 = .ok (.if_icmp .le 13, 3) := by decide +kernel
theorem dX5_ask_147 : decode cX5_ask 147 = .ok (.aload_n 0, 1) := by decide +kernel
theorem dX5_ask_148 : decode cX5_ask 148 = .ok (.getfield 32, 3) := by decide +kernel
theorem dX5_ask_151 : decode cX5_ask 151 = .ok (.iload 4, 2) := by decide +kernel
theorem dX5_ask_153 : decode cX5_ask 153 = .ok (.iaload, 1) := by decide +kernel
theorem dX5_ask_154 : decode cX5_ask 154 = .ok (.goto 12, 3) := by decide +kernel
theorem dX5_ask_157 : decode cX5_ask 157 = .ok (.iload_n 3, 1) := by decide +kernel
theorem dX5_ask_158 : decode cX5_ask 158 = .ok (.aload_n 0, 1) := by decide +kernel
theorem dX5_ask_159 : decode cX5_ask 159 = .ok (.getfield 32, 3) := by decide +kernel
theorem dX5_ask_162 : decode cX5_ask 162 = .ok (.iload 4, 2) := by decide +kernel
theorem dX5_ask_164 : decode cX5_ask 164 = .ok (.iaload, 1) := by decide +kernel
theorem dX5_ask_165 : decode cX5_ask 165 = .ok (.isub, 1) := by decide +kernel
theorem dX5_ask_166 : decode cX5_ask 166 = .ok (.invokevirtual 268, 3) := by decide +kernel
theorem dX5_ask_169 : decode cX5_ask 169 = .ok (.iinc 4 1, 3) := by decide +kernel
theorem dX5_ask_172 : decode cX5_ask 172 = .ok (.goto (-54), 3) := by decide +kernel
theorem dX5_ask_175 : decode cX5_ask 175 = .ok (.aload_n 0, 1) := by decide +kernel
theorem dX5_ask_176 : decode cX5_ask 176 = .ok (.getfield 246, 3) := by decide +kernel
theorem dX5_ask_179 : decode cX5_ask 179 = .ok (.bipush (-4), 2) := by decide +kernel
theorem dX5_ask_181 : decode cX5_ask 181 = .ok (.if_icmp .ne 8, 3) := by decide +kernel
theorem dX5_ask_184 : decode cX5_ask 184 = .ok (.bipush (-4), 2) := by decide +kernel
theorem dX5_ask_186 : decode cX5_ask 186 = .ok (.goto 18, 3) := by decide +kernel
theorem dX5_ask_189 : decode cX5_ask 189 = .ok (.iload_n 2, 1) := by decide +kernel
theorem dX5_ask_190 : decode cX5_ask 190 = .ok (.ifCond .ne 10, 3) := by decide +kernel
theorem dX5_ask_193 : decode cX5_ask 193 = .ok (.aload_n 0, 1) := by decide +kernel
theorem dX5_ask_194 : decode cX5_ask 194 = .ok (.getfield 246, 3) := by decide +kernel
theorem dX5_ask_197 : decode cX5_ask 197 = .ok (.goto 7, 3) := by decide +kernel
theorem dX5_ask_200 : decode cX5_ask 200 = .ok (.aload_n 0, 1) := by decide +kernel
theorem dX5_ask_201 : decode cX5_ask 201 = .ok (.getfield 249, 3) := by decide +kernel
theorem dX5_ask_204 : decode cX5_ask 204 = .ok (.ireturn, 1) := by decide +kernel
theorem dX5_drift_0 : decode cX5_drift 0 = .ok (.iload_n 2, 1) := by decide +kernel
theorem dX5_drift_1 : decode cX5_drift 1 = .ok (.i2l, 1) := by decide +kernel
theorem dX5_drift_2 : decode cX5_drift 2 = .ok (.lconst 1, 1) := by decide +kernel
theorem dX5_drift_3 : decode cX5_drift 3 = .ok (.ldc2_w 229, 3) := by decide +kernel
theorem dX5_drift_6 : decode cX5_drift 6 = .ok (.invokestatic 63, 3) := by decide +kernel
theorem dX5_drift_9 : decode cX5_drift 9 = .ok (.ifCond .eq 10, 3) := by decide +kernel
theorem dX5_drift_12 : decode cX5_drift 12 = .ok (.iload_n 3, 1) := by decide +kernel
theorem dX5_drift_13 : decode cX5_drift 13 = .ok (.invokestatic 240, 3) := by decide +kernel
theorem dX5_drift_16 : decode cX5_drift 16 = .ok (.ifCond .ne 5, 3) := by decide +kernel
theorem dX5_drift_19 : decode cX5_drift 19 = .ok (.iconst (-1), 1) := by decide +kernel
theorem dX5_drift_20 : decode cX5_drift 20 = .ok (.ireturn, 1) := by decide +kernel
theorem dX5_drift_21 : decode cX5_drift 21 = .ok (.aload_n 0, 1) := by decide +kernel
theorem dX5_drift_22 : decode cX5_drift 22 = .ok (.getfield 7, 3) := by decide +kernel
theorem dX5_drift_25 : decode cX5_drift 25 = .ok (.bipush 28, 2) := by decide +kernel
theorem dX5_drift_27 : decode cX5_drift 27 = .ok (.iaload, 1) := by decide +kernel
theorem dX5_drift_28 : decode cX5_drift 28 = .ok (.ifCond .ne 6, 3) := by decide +kernel
theorem dX5_drift_31 : decode cX5_drift 31 = .ok (.bipush (-2), 2) := by decide +kernel
theorem dX5_drift_33 : decode cX5_drift 33 = .ok (.ireturn, 1) := by decide +kernel
theorem dX5_drift_34 : decode cX5_drift 34 = .ok (.iload_n 1, 1) := by decide +kernel
theorem dX5_drift_35 : decode cX5_drift 35 = .ok (.istore 4, 2) := by decide +kernel
theorem dX5_drift_37 : decode cX5_drift 37 = .ok (.aload_n 0, 1) := by decide +kernel
theorem dX5_drift_38 : decode cX5_drift 38 = .ok (.invokevirtual 183, 3) := by decide +kernel
theorem dX5_drift_41 : decode cX5_drift 41 = .ok (.iconst 0, 1) := by decide +kernel
theorem dX5_drift_42 : decode cX5_drift 42 = .ok (.istore 5, 2) := by decide +kernel
theorem dX5_drift_44 : decode cX5_drift 44 = .ok (.iload 5, 2) := by decide +kernel
theorem dX5_drift_46 : decode cX5_drift 46 = .ok (.iload_n 2, 1) := by decide +kernel
theorem dX5_drift_47 : decode cX5_drift 47 = .ok (.if_icmp .ge 33, 3) := by decide +kernel
theorem dX5_drift_50 : decode cX5_drift 50 = .ok (.iload 4, 2) := by decide +kernel
theorem dX5_drift_52 : decode cX5_drift 52 = .ok (.ldc_w 307, 3) := by decide +kernel
theorem dX5_drift_55 : decode cX5_drift 55 = .ok (.imul, 1) := by decide +kernel
theorem dX5_drift_56 : decode cX5_drift 56 = .ok (.sipush 12345, 3) := by decide +kernel
theorem dX5_drift_59 : decode cX5_drift 59 = .ok (.iadd, 1) := by decide +kernel
theorem dX5_drift_60 : decode cX5_drift 60 = .ok (.istore 4, 2) := by decide +kernel
theorem dX5_drift_62 : decode cX5_drift 62 = .ok (.aload_n 0, 1) := by decide +kernel
theorem dX5_drift_63 : decode cX5_drift 63 = .ok (.iload 4, 2) := by decide +kernel
theorem dX5_drift_65 : decode cX5_drift 65 = .ok (.bipush 16, 2) := by decide +kernel
theorem dX5_drift_67 : decode cX5_drift 67 = .ok (.ishr, 1) := by decide +kernel
theorem dX5_drift_68 : decode cX5_drift 68 = .ok (.bipush 15, 2) := by decide +kernel
theorem dX5_drift_70 : decode cX5_drift 70 = .ok (.iand, 1) := by decide +kernel
theorem dX5_drift_71 : decode cX5_drift 71 = .ok (.invokevirtual 180, 3) := by decide +kernel
theorem dX5_drift_74 : decode cX5_drift 74 = .ok (.iinc 5 1, 3) := by decide +kernel
theorem dX5_drift_77 : decode cX5_drift 77 = .ok (.goto (-33), 3) := by decide +kernel
theorem dX5_drift_80 : decode cX5_drift 80 = .ok (.iload_n 3, 1) := by decide +kernel
theorem dX5_drift_81 : decode cX5_drift 81 = .ok (.ifCond .ne 10, 3) := by decide +kernel
theorem dX5_drift_84 : decode cX5_drift 84 = .ok (.aload_n 0, 1) := by decide +kernel
theorem dX5_drift_85 : decode cX5_drift 85 = .ok (.invokevirtual 226, 3) := by decide +kernel
theorem dX5_drift_88 : decode cX5_drift 88 = .ok (.goto 7, 3) := by decide +kernel
theorem dX5_drift_91 : decode cX5_drift 91 = .ok (.aload_n 0, 1) := by decide +kernel
theorem dX5_drift_92 : decode cX5_drift 92 = .ok (.invokevirtual 186, 3) := by decide +kernel
theorem dX5_drift_95 : decode cX5_drift 95 = .ok (.ireturn, 1) := by decide +kernel
theorem dX5_copies_0 : decode cX5_copies 0 = .ok (.iconst 0, 1) := by decide +kernel
theorem dX5_copies_1 : decode cX5_copies 1 = .ok (.istore_n 3, 1) := by decide +kernel
theorem dX5_copies_2 : decode cX5_copies 2 = .ok (.iload_n 3, 1) := by decide +kernel
theorem dX5_copies_3 : decode cX5_copies 3 = .ok (.bipush 75, 2) := by decide +kernel
theorem dX5_copies_5 : decode cX5_copies 5 = .ok (.if_icmp .ge 25, 3) := by decide +kernel
theorem dX5_copies_8 : decode cX5_copies 8 = .ok (.aload_n 0, 1) := by decide +kernel
theorem dX5_copies_9 : decode cX5_copies 9 = .ok (.getfield 7, 3) := by decide +kernel
theorem dX5_copies_12 : decode cX5_copies 12 = .ok (.iload_n 1, 1) := by decide +kernel
theorem dX5_copies_13 : decode cX5_copies 13 = .ok (.iload_n 3, 1) := by decide +kernel
theorem dX5_copies_14 : decode cX5_copies 14 = .ok (.iadd, 1) := by decide +kernel
theorem dX5_copies_15 : decode cX5_copies 15 = .ok (.aload_n 0, 1) := by decide +kernel
theorem dX5_copies_16 : decode cX5_copies 16 = .ok (.getfield 7, 3) := by decide +kernel
theorem dX5_copies_19 : decode cX5_copies 19 = .ok (.iload_n 2, 1) := by decide +kernel
theorem dX5_copies_20 : decode cX5_copies 20 = .ok (.iload_n 3, 1) := by decide +kernel
theorem dX5_copies_21 : decode cX5_copies 21 = .ok (.iadd, 1) := by decide +kernel
theorem dX5_copies_22 : decode cX5_copies 22 = .ok (.iaload, 1) := by decide +kernel
theorem dX5_copies_23 : decode cX5_copies 23 = .ok (.iastore, 1) := by decide +kernel
theorem dX5_copies_24 : decode cX5_copies 24 = .ok (.iinc 3 1, 3) := by decide +kernel
theorem dX5_copies_27 : decode cX5_copies 27 = .ok (.goto (-25), 3) := by decide +kernel
theorem dX5_copies_30 : decode cX5_copies 30 = .ok (.return_, 1) := by decide +kernel
theorem dX5_keep_0 : decode cX5_keep 0 = .ok (.iload_n 1, 1) := by decide +kernel
theorem dX5_keep_1 : decode cX5_keep 1 = .ok (.i2l, 1) := by decide +kernel
theorem dX5_keep_2 : decode cX5_keep 2 = .ok (.lconst 0, 1) := by decide +kernel
theorem dX5_keep_3 : decode cX5_keep 3 = .ok (.lconst 1, 1) := by decide +kernel
theorem dX5_keep_4 : decode cX5_keep 4 = .ok (.invokestatic 63, 3) := by decide +kernel
theorem dX5_keep_7 : decode cX5_keep 7 = .ok (.ifCond .ne 5, 3) := by decide +kernel
theorem dX5_keep_10 : decode cX5_keep 10 = .ok (.iconst (-1), 1) := by decide +kernel
theorem dX5_keep_11 : decode cX5_keep 11 = .ok (.ireturn, 1) := by decide +kernel
theorem dX5_keep_12 : decode cX5_keep 12 = .ok (.aload_n 0, 1) := by decide +kernel
theorem dX5_keep_13 : decode cX5_keep 13 = .ok (.getfield 16, 3) := by decide +kernel
theorem dX5_keep_16 : decode cX5_keep 16 = .ok (.iload_n 1, 1) := by decide +kernel
theorem dX5_keep_17 : decode cX5_keep 17 = .ok (.baload, 1) := by decide +kernel
theorem dX5_keep_18 : decode cX5_keep 18 = .ok (.invokestatic 236, 3) := by decide +kernel
theorem dX5_keep_21 : decode cX5_keep 21 = .ok (.istore_n 2, 1) := by decide +kernel
theorem dX5_keep_22 : decode cX5_keep 22 = .ok (.aload_n 0, 1) := by decide +kernel
theorem dX5_keep_23 : decode cX5_keep 23 = .ok (.getfield 16, 3) := by decide +kernel
theorem dX5_keep_26 : decode cX5_keep 26 = .ok (.iload_n 1, 1) := by decide +kernel
theorem dX5_keep_27 : decode cX5_keep 27 = .ok (.iconst 1, 1) := by decide +kernel
theorem dX5_keep_28 : decode cX5_keep 28 = .ok (.bastore, 1) := by decide +kernel
theorem dX5_keep_29 : decode cX5_keep 29 = .ok (.aload_n 0, 1) := by decide +kernel
theorem dX5_keep_30 : decode cX5_keep 30 = .ok (.bipush 75, 2) := by decide +kernel
theorem dX5_keep_32 : decode cX5_keep 32 = .ok (.iload_n 1, 1) := by decide +kernel
theorem dX5_keep_33 : decode cX5_keep 33 = .ok (.iconst 1, 1) := by decide +kernel
theorem dX5_keep_34 : decode cX5_keep 34 = .ok (.iadd, 1) := by decide +kernel
theorem dX5_keep_35 : decode cX5_keep 35 = .ok (.imul, 1) := by decide +kernel
theorem dX5_keep_36 : decode cX5_keep 36 = .ok (.iconst 0, 1) := by decide +kernel
theorem dX5_keep_37 : decode cX5_keep 37 = .ok (.invokevirtual 308, 3) := by decide +kernel
theorem dX5_keep_40 : decode cX5_keep 40 = .ok (.iload_n 2, 1) := by decide +kernel
theorem dX5_keep_41 : decode cX5_keep 41 = .ok (.ireturn, 1) := by decide +kernel
theorem dX5_back_0 : decode cX5_back 0 = .ok (.iload_n 1, 1) := by decide +kernel
theorem dX5_back_1 : decode cX5_back 1 = .ok (.i2l, 1) := by decide +kernel
theorem dX5_back_2 : decode cX5_back 2 = .ok (.lconst 0, 1) := by decide +kernel
theorem dX5_back_3 : decode cX5_back 3 = .ok (.lconst 1, 1) := by decide +kernel
theorem dX5_back_4 : decode cX5_back 4 = .ok (.invokestatic 63, 3) := by decide +kernel
theorem dX5_back_7 : decode cX5_back 7 = .ok (.ifCond .ne 5, 3) := by decide +kernel
theorem dX5_back_10 : decode cX5_back 10 = .ok (.iconst (-1), 1) := by decide +kernel
theorem dX5_back_11 : decode cX5_back 11 = .ok (.ireturn, 1) := by decide +kernel
theorem dX5_back_12 : decode cX5_back 12 = .ok (.aload_n 0, 1) := by decide +kernel
theorem dX5_back_13 : decode cX5_back 13 = .ok (.getfield 16, 3) := by decide +kernel
theorem dX5_back_16 : decode cX5_back 16 = .ok (.iload_n 1, 1) := by decide +kernel
theorem dX5_back_17 : decode cX5_back 17 = .ok (.baload, 1) := by decide +kernel
theorem dX5_back_18 : decode cX5_back 18 = .ok (.ifCond .ne 6, 3) := by decide +kernel
theorem dX5_back_21 : decode cX5_back 21 = .ok (.bipush (-2), 2) := by decide +kernel
theorem dX5_back_23 : decode cX5_back 23 = .ok (.ireturn, 1) := by decide +kernel
theorem dX5_back_24 : decode cX5_back 24 = .ok (.aload_n 0, 1) := by decide +kernel
theorem dX5_back_25 : decode cX5_back 25 = .ok (.iconst 0, 1) := by decide +kernel
theorem dX5_back_26 : decode cX5_back 26 = .ok (.bipush 75, 2) := by decide +kernel
theorem dX5_back_28 : decode cX5_back 28 = .ok (.iload_n 1, 1) := by decide +kernel
theorem dX5_back_29 : decode cX5_back 29 = .ok (.iconst 1, 1) := by decide +kernel
theorem dX5_back_30 : decode cX5_back 30 = .ok (.iadd, 1) := by decide +kernel
theorem dX5_back_31 : decode cX5_back 31 = .ok (.imul, 1) := by decide +kernel
theorem dX5_back_32 : decode cX5_back 32 = .ok (.invokevirtual 308, 3) := by decide +kernel
theorem dX5_back_35 : decode cX5_back 35 = .ok (.aload_n 0, 1) := by decide +kernel
theorem dX5_back_36 : decode cX5_back 36 = .ok (.getfield 7, 3) := by decide +kernel
theorem dX5_back_39 : decode cX5_back 39 = .ok (.bipush 55, 2) := by decide +kernel
theorem dX5_back_41 : decode cX5_back 41 = .ok (.iaload, 1) := by decide +kernel
theorem dX5_back_42 : decode cX5_back 42 = .ok (.ireturn, 1) := by decide +kernel
theorem dX5_isSheet_0 : decode cX5_isSheet 0 = .ok (.iload_n 0, 1) := by decide +kernel
theorem dX5_isSheet_1 : decode cX5_isSheet 1 = .ok (.i2l, 1) := by decide +kernel
theorem dX5_isSheet_2 : decode cX5_isSheet 2 = .ok (.lconst 0, 1) := by decide +kernel
theorem dX5_isSheet_3 : decode cX5_isSheet 3 = .ok (.ldc2_w 234, 3) := by decide +kernel
theorem dX5_isSheet_6 : decode cX5_isSheet 6 = .ok (.invokestatic 63, 3) := by decide +kernel
theorem dX5_isSheet_9 : decode cX5_isSheet 9 = .ok (.ifCond .eq 19, 3) := by decide +kernel
theorem dX5_isSheet_12 : decode cX5_isSheet 12 = .ok (.iload_n 1, 1) := by decide +kernel
theorem dX5_isSheet_13 : decode cX5_isSheet 13 = .ok (.i2l, 1) := by decide +kernel
theorem dX5_isSheet_14 : decode cX5_isSheet 14 = .ok (.lconst 0, 1) := by decide +kernel
theorem dX5_isSheet_15 : decode cX5_isSheet 15 = .ok (.ldc2_w 198, 3) := by decide +kernel
theorem dX5_isSheet_18 : decode cX5_isSheet 18 = .ok (.invokestatic 63, 3) := by decide +kernel
theorem dX5_isSheet_21 : decode cX5_isSheet 21 = .ok (.ifCond .eq 7, 3) := by decide +kernel
theorem dX5_isSheet_24 : decode cX5_isSheet 24 = .ok (.iconst 1, 1) := by decide +kernel
theorem dX5_isSheet_25 : decode cX5_isSheet 25 = .ok (.goto 4, 3) := by decide +kernel
theorem dX5_isSheet_28 : decode cX5_isSheet 28 = .ok (.iconst 0, 1) := by decide +kernel
theorem dX5_isSheet_29 : decode cX5_isSheet 29 = .ok (.ireturn, 1) := by decide +kernel
theorem dX5_sheet_0 : decode cX5_sheet 0 = .ok (.iload_n 1, 1) := by decide +kernel
theorem dX5_sheet_1 : decode cX5_sheet 1 = .ok (.iload_n 2, 1) := by decide +kernel
theorem dX5_sheet_2 : decode cX5_sheet 2 = .ok (.invokestatic 311, 3) := by decide +kernel
theorem dX5_sheet_5 : decode cX5_sheet 5 = .ok (.ifCond .eq 9, 3) := by decide +kernel
theorem dX5_sheet_8 : decode cX5_sheet 8 = .ok (.iload_n 3, 1) := by decide +kernel
theorem dX5_sheet_9 : decode cX5_sheet 9 = .ok (.bipush 40, 2) := by decide +kernel
theorem dX5_sheet_11 : decode cX5_sheet 11 = .ok (.if_icmp .le 5, 3) := by decide +kernel
theorem dX5_sheet_14 : decode cX5_sheet 14 = .ok (.iconst (-1), 1) := by decide +kernel
theorem dX5_sheet_15 : decode cX5_sheet 15 = .ok (.ireturn, 1) := by decide +kernel
theorem dX5_sheet_16 : decode cX5_sheet 16 = .ok (.iload_n 3, 1) := by decide +kernel
theorem dX5_sheet_17 : decode cX5_sheet 17 = .ok (.ifCond .ge 6, 3) := by decide +kernel
theorem dX5_sheet_20 : decode cX5_sheet 20 = .ok (.bipush (-14), 2) := by decide +kernel
theorem dX5_sheet_22 : decode cX5_sheet 22 = .ok (.ireturn, 1) := by decide +kernel
theorem dX5_sheet_23 : decode cX5_sheet 23 = .ok (.aload_n 0, 1) := by decide +kernel
theorem dX5_sheet_24 : decode cX5_sheet 24 = .ok (.getfield 35, 3) := by decide +kernel
theorem dX5_sheet_27 : decode cX5_sheet 27 = .ok (.iload_n 1, 1) := by decide +kernel
theorem dX5_sheet_28 : decode cX5_sheet 28 = .ok (.iload_n 2, 1) := by decide +kernel
theorem dX5_sheet_29 : decode cX5_sheet 29 = .ok (.iastore, 1) := by decide +kernel
theorem dX5_sheet_30 : decode cX5_sheet 30 = .ok (.aload_n 0, 1) := by decide +kernel
theorem dX5_sheet_31 : decode cX5_sheet 31 = .ok (.getfield 38, 3) := by decide +kernel
theorem dX5_sheet_34 : decode cX5_sheet 34 = .ok (.iload_n 1, 1) := by decide +kernel
theorem dX5_sheet_35 : decode cX5_sheet 35 = .ok (.iload_n 3, 1) := by decide +kernel
theorem dX5_sheet_36 : decode cX5_sheet 36 = .ok (.iastore, 1) := by decide +kernel
theorem dX5_sheet_37 : decode cX5_sheet 37 = .ok (.iconst 0, 1) := by decide +kernel
theorem dX5_sheet_38 : decode cX5_sheet 38 = .ok (.istore 4, 2) := by decide +kernel
theorem dX5_sheet_40 : decode cX5_sheet 40 = .ok (.iload 4, 2) := by decide +kernel
theorem dX5_sheet_42 : decode cX5_sheet 42 = .ok (.bipush 40, 2) := by decide +kernel
theorem dX5_sheet_44 : decode cX5_sheet 44 = .ok (.if_icmp .ge 22, 3) := by decide +kernel
theorem dX5_sheet_47 : decode cX5_sheet 47 = .ok (.aload_n 0, 1) := by decide +kernel
theorem dX5_sheet_48 : decode cX5_sheet 48 = .ok (.getfield 41, 3) := by decide +kernel
theorem dX5_sheet_51 : decode cX5_sheet 51 = .ok (.bipush 40, 2) := by decide +kernel
theorem dX5_sheet_53 : decode cX5_sheet 53 = .ok (.iload_n 1, 1) := by decide +kernel
theorem dX5_sheet_54 : decode cX5_sheet 54 = .ok (.imul, 1) := by decide +kernel
theorem dX5_sheet_55 : decode cX5_sheet 55 = .ok (.iload 4, 2) := by decide +kernel
theorem dX5_sheet_57 : decode cX5_sheet 57 = .ok (.iadd, 1) := by decide +kernel
theorem dX5_sheet_58 : decode cX5_sheet 58 = .ok (.iconst 0, 1) := by decide +kernel
theorem dX5_sheet_59 : decode cX5_sheet 59 = .ok (.iastore, 1) := by decide +kernel
theorem dX5_sheet_60 : decode cX5_sheet 60 = .ok (.iinc 4 1, 3) := by decide +kernel
theorem dX5_sheet_63 : decode cX5_sheet 63 = .ok (.goto (-23), 3) := by decide +kernel
theorem dX5_sheet_66 : decode cX5_sheet 66 = .ok (.iconst 1, 1) := by decide +kernel
theorem dX5_sheet_67 : decode cX5_sheet 67 = .ok (.ireturn, 1) := by decide +kernel
theorem dX5_lay_0 : decode cX5_lay 0 = .ok (.iload_n 1, 1) := by decide +kernel
theorem dX5_lay_1 : decode cX5_lay 1 = .ok (.iconst 0, 1) := by decide +kernel
theorem dX5_lay_2 : decode cX5_lay 2 = .ok (.invokestatic 311, 3) := by decide +kernel
theorem dX5_lay_5 : decode cX5_lay 5 = .ok (.ifCond .ne 5, 3) := by decide +kernel
theorem dX5_lay_8 : decode cX5_lay 8 = .ok (.iconst (-1), 1) := by decide +kernel
theorem dX5_lay_9 : decode cX5_lay 9 = .ok (.ireturn, 1) := by decide +kernel
theorem dX5_lay_10 : decode cX5_lay 10 = .ok (.aload_n 0, 1) := by decide +kernel
theorem dX5_lay_11 : decode cX5_lay 11 = .ok (.getfield 35, 3) := by decide +kernel
theorem dX5_lay_14 : decode cX5_lay 14 = .ok (.iload_n 1, 1) := by decide +kernel
theorem dX5_lay_15 : decode cX5_lay 15 = .ok (.iaload, 1) := by decide +kernel
theorem dX5_lay_16 : decode cX5_lay 16 = .ok (.bipush (-4), 2) := by decide +kernel
theorem dX5_lay_18 : decode cX5_lay 18 = .ok (.if_icmp .ne 6, 3) := by decide +kernel
theorem dX5_lay_21 : decode cX5_lay 21 = .ok (.bipush (-11), 2) := by decide +kernel
theorem dX5_lay_23 : decode cX5_lay 23 = .ok (.ireturn, 1) := by decide +kernel
theorem dX5_lay_24 : decode cX5_lay 24 = .ok (.iload_n 2, 1) := by decide +kernel
theorem dX5_lay_25 : decode cX5_lay 25 = .ok (.i2l, 1) := by decide +kernel
theorem dX5_lay_26 : decode cX5_lay 26 = .ok (.lconst 0, 1) := by decide +kernel
theorem dX5_lay_27 : decode cX5_lay 27 = .ok (.aload_n 0, 1) := by decide +kernel
theorem dX5_lay_28 : decode cX5_lay 28 = .ok (.getfield 38, 3) := by decide +kernel
theorem dX5_lay_31 : decode cX5_lay 31 = .ok (.iload_n 1, 1) := by decide +kernel
theorem dX5_lay_32 : decode cX5_lay 32 = .ok (.iaload, 1) := by decide +kernel
theorem dX5_lay_33 : decode cX5_lay 33 = .ok (.iconst 1, 1) := by decide +kernel
theorem dX5_lay_34 : decode cX5_lay 34 = .ok (.isub, 1) := by decide +kernel
theorem dX5_lay_35 : decode cX5_lay 35 = .ok (.i2l, 1) := by decide +kernel
theorem dX5_lay_36 : decode cX5_lay 36 = .ok (.invokestatic 63, 3) := by decide +kernel
theorem dX5_lay_39 : decode cX5_lay 39 = .ok (.ifCond .ne 6, 3) := by decide +kernel
theorem dX5_lay_42 : decode cX5_lay 42 = .ok (.bipush (-12), 2) := by decide +kernel
theorem dX5_lay_44 : decode cX5_lay 44 = .ok (.ireturn, 1) := by decide +kernel
theorem dX5_lay_45 : decode cX5_lay 45 = .ok (.aload_n 0, 1) := by decide +kernel
theorem dX5_lay_46 : decode cX5_lay 46 = .ok (.getfield 41, 3) := by decide +kernel
theorem dX5_lay_49 : decode cX5_lay 49 = .ok (.bipush 40, 2) := by decide +kernel
theorem dX5_lay_51 : decode cX5_lay 51 = .ok (.iload_n 1, 1) := by decide +kernel
theorem dX5_lay_52 : decode cX5_lay 52 = .ok (.imul, 1) := by decide +kernel
theorem dX5_lay_53 : decode cX5_lay 53 = .ok (.iload_n 2, 1) := by decide +kernel
theorem dX5_lay_54 : decode cX5_lay 54 = .ok (.iadd, 1) := by decide +kernel
theorem dX5_lay_55 : decode cX5_lay 55 = .ok (.aload_n 0, 1) := by decide +kernel
theorem dX5_lay_56 : decode cX5_lay 56 = .ok (.getfield 35, 3) := by decide +kernel
theorem dX5_lay_59 : decode cX5_lay 59 = .ok (.iload_n 1, 1) := by decide +kernel
theorem dX5_lay_60 : decode cX5_lay 60 = .ok (.iaload, 1) := by decide +kernel
theorem dX5_lay_61 : decode cX5_lay 61 = .ok (.ifCond .ne 8, 3) := by decide +kernel
theorem dX5_lay_64 : decode cX5_lay 64 = .ok (.iload_n 3, 1) := by decide +kernel
theorem dX5_lay_65 : decode cX5_lay 65 = .ok (.i2b, 1) := by decide +kernel
theorem dX5_lay_66 : decode cX5_lay 66 = .ok (.goto 19, 3) := by decide +kernel
theorem dX5_lay_69 : decode cX5_lay 69 = .ok (.aload_n 0, 1) := by decide +kernel
theorem dX5_lay_70 : decode cX5_lay 70 = .ok (.getfield 35, 3) := by decide +kernel
theorem dX5_lay_73 : decode cX5_lay 73 = .ok (.iload_n 1, 1) := by decide +kernel
theorem dX5_lay_74 : decode cX5_lay 74 = .ok (.iaload, 1) := by decide +kernel
theorem dX5_lay_75 : decode cX5_lay 75 = .ok (.iconst 1, 1) := by decide +kernel
theorem dX5_lay_76 : decode cX5_lay 76 = .ok (.if_icmp .ne 8, 3) := by decide +kernel
theorem dX5_lay_79 : decode cX5_lay 79 = .ok (.iload_n 3, 1) := by decide +kernel
theorem dX5_lay_80 : decode cX5_lay 80 = .ok (.i2s, 1) := by decide +kernel
theorem dX5_lay_81 : decode cX5_lay 81 = .ok (.goto 4, 3) := by decide +kernel
theorem dX5_lay_84 : decode cX5_lay 84 = .ok (.iload_n 3, 1) := by decide +kernel
theorem dX5_lay_85 : decode cX5_lay 85 = .ok (.iastore, 1) := by decide +kernel
theorem dX5_lay_86 : decode cX5_lay 86 = .ok (.iconst 1, 1) := by decide +kernel
theorem dX5_lay_87 : decode cX5_lay 87 = .ok (.ireturn, 1) := by decide +kernel
theorem dX5_read_0 : decode cX5_read 0 = .ok (.iload_n 1, 1) := by decide +kernel
theorem dX5_read_1 : decode cX5_read 1 = .ok (.iload_n 2, 1) := by decide +kernel
theorem dX5_read_2 : decode cX5_read 2 = .ok (.invokestatic 311, 3) := by decide +kernel
theorem dX5_read_5 : decode cX5_read 5 = .ok (.ifCond .eq 16, 3) := by decide +kernel
theorem dX5_read_8 : decode cX5_read 8 = .ok (.iload 4, 2) := by decide +kernel
theorem dX5_read_10 : decode cX5_read 10 = .ok (.i2l, 1) := by decide +kernel
theorem dX5_read_11 : decode cX5_read 11 = .ok (.lconst 0, 1) := by decide +kernel
theorem dX5_read_12 : decode cX5_read 12 = .ok (.ldc2_w 314, 3) := by decide +kernel
theorem dX5_read_15 : decode cX5_read 15 = .ok (.invokestatic 63, 3) := by decide +kernel
theorem dX5_read_18 : decode cX5_read 18 = .ok (.ifCond .ne 5, 3) := by decide +kernel
theorem dX5_read_21 : decode cX5_read 21 = .ok (.iconst (-1), 1) := by decide +kernel
theorem dX5_read_22 : decode cX5_read 22 = .ok (.ireturn, 1) := by decide +kernel
theorem dX5_read_23 : decode cX5_read 23 = .ok (.iconst 0, 1) := by decide +kernel
theorem dX5_read_24 : decode cX5_read 24 = .ok (.istore 5, 2) := by decide +kernel
theorem dX5_read_26 : decode cX5_read 26 = .ok (.iload 5, 2) := by decide +kernel
theorem dX5_read_28 : decode cX5_read 28 = .ok (.bipush 75, 2) := by decide +kernel
theorem dX5_read_30 : decode cX5_read 30 = .ok (.if_icmp .ge 23, 3) := by decide +kernel
theorem dX5_read_33 : decode cX5_read 33 = .ok (.aload_n 0, 1) := by decide +kernel
theorem dX5_read_34 : decode cX5_read 34 = .ok (.getfield 44, 3) := by decide +kernel
theorem dX5_read_37 : decode cX5_read 37 = .ok (.iload 5, 2) := by decide +kernel
theorem dX5_read_39 : decode cX5_read 39 = .ok (.aload_n 0, 1) := by decide +kernel
theorem dX5_read_40 : decode cX5_read 40 = .ok (.getfield 7, 3) := by decide +kernel
theorem dX5_read_43 : decode cX5_read 43 = .ok (.iload 5, 2) := by decide +kernel
theorem dX5_read_45 : decode cX5_read 45 = .ok (.iaload, 1) := by decide +kernel
theorem dX5_read_46 : decode cX5_read 46 = .ok (.iastore, 1) := by decide +kernel
theorem dX5_read_47 : decode cX5_read 47 = .ok (.iinc 5 1, 3) := by decide +kernel
theorem dX5_read_50 : decode cX5_read 50 = .ok (.goto (-24), 3) := by decide +kernel
theorem dX5_read_53 : decode cX5_read 53 = .ok (.iconst 0, 1) := by decide +kernel
theorem dX5_read_54 : decode cX5_read 54 = .ok (.istore 5, 2) := by decide +kernel
theorem dX5_read_56 : decode cX5_read 56 = .ok (.iconst 0, 1) := by decide +kernel
theorem dX5_read_57 : decode cX5_read 57 = .ok (.istore 6, 2) := by decide +kernel
theorem dX5_read_59 : decode cX5_read 59 = .ok (.iconst 0, 1) := by decide +kernel
theorem dX5_read_60 : decode cX5_read 60 = .ok (.istore 7, 2) := by decide +kernel
theorem dX5_read_62 : decode cX5_read 62 = .ok (.iload 7, 2) := by decide +kernel
theorem dX5_read_64 : decode cX5_read 64 = .ok (.iload 4, 2) := by decide +kernel
theorem dX5_read_66 : decode cX5_read 66 = .ok (.if_icmp .ge 193, 3) := by decide +kernel
theorem dX5_read_69 : decode cX5_read 69 = .ok (.iload 5, 2) := by decide +kernel
theorem dX5_read_71 : decode cX5_read 71 = .ok (.ifCond .ne 188, 3) := by decide +kernel
theorem dX5_read_74 : decode cX5_read 74 = .ok (.iconst 0, 1) := by decide +kernel
theorem dX5_read_75 : decode cX5_read 75 = .ok (.istore 8, 2) := by decide +kernel
theorem dX5_read_77 : decode cX5_read 77 = .ok (.iload 8, 2) := by decide +kernel
theorem dX5_read_79 : decode cX5_read 79 = .ok (.iconst 3, 1) := by decide +kernel
theorem dX5_read_80 : decode cX5_read 80 = .ok (.if_icmp .ge 84, 3) := by decide +kernel
theorem dX5_read_83 : decode cX5_read 83 = .ok (.iload 5, 2) := by decide +kernel
theorem dX5_read_85 : decode cX5_read 85 = .ok (.ifCond .ne 79, 3) := by decide +kernel
theorem dX5_read_88 : decode cX5_read 88 = .ok (.iload_n 3, 1) := by decide +kernel
theorem dX5_read_89 : decode cX5_read 89 = .ok (.i2l, 1) := by decide +kernel
theorem dX5_read_90 : decode cX5_read 90 = .ok (.iconst 3, 1) := by decide +kernel
theorem dX5_read_91 : decode cX5_read 91 = .ok (.iload 7, 2) := by decide +kernel
theorem dX5_read_93 : decode cX5_read 93 = .ok (.imul, 1) := by decide +kernel
theorem dX5_read_94 : decode cX5_read 94 = .ok (.i2l, 1) := by decide +kernel
theorem dX5_read_95 : decode cX5_read 95 = .ok (.ladd, 1) := by decide +kernel
theorem dX5_read_96 : decode cX5_read 96 = .ok (.iload 8, 2) := by decide +kernel
theorem dX5_read_98 : decode cX5_read 98 = .ok (.i2l, 1) := by decide +kernel
theorem dX5_read_99 : decode cX5_read 99 = .ok (.ladd, 1) := by decide +kernel
theorem dX5_read_100 : decode cX5_read 100 = .ok (.lstore 9, 2) := by decide +kernel
theorem dX5_read_102 : decode cX5_read 102 = .ok (.aload_n 0, 1) := by decide +kernel
theorem dX5_read_103 : decode cX5_read 103 = .ok (.getfield 35, 3) := by decide +kernel
theorem dX5_read_106 : decode cX5_read 106 = .ok (.iload_n 1, 1) := by decide +kernel
theorem dX5_read_107 : decode cX5_read 107 = .ok (.iaload, 1) := by decide +kernel
theorem dX5_read_108 : decode cX5_read 108 = .ok (.bipush (-4), 2) := by decide +kernel
theorem dX5_read_110 : decode cX5_read 110 = .ok (.if_icmp .ne 7, 3) := by decide +kernel
theorem dX5_read_113 : decode cX5_read 113 = .ok (.iconst 1, 1) := by decide +kernel
theorem dX5_read_114 : decode cX5_read 114 = .ok (.goto 42, 3) := by decide +kernel
theorem dX5_read_117 : decode cX5_read 117 = .ok (.aload_n 0, 1) := by decide +kernel
theorem dX5_read_118 : decode cX5_read 118 = .ok (.getfield 35, 3) := by decide +kernel
theorem dX5_read_121 : decode cX5_read 121 = .ok (.iload_n 1, 1) := by decide +kernel
theorem dX5_read_122 : decode cX5_read 122 = .ok (.iaload, 1) := by decide +kernel
theorem dX5_read_123 : decode cX5_read 123 = .ok (.iload_n 2, 1) := by decide +kernel
theorem dX5_read_124 : decode cX5_read 124 = .ok (.if_icmp .eq 7, 3) := by decide +kernel
theorem dX5_read_127 : decode cX5_read 127 = .ok (.iconst 3, 1) := by decide +kernel
theorem dX5_read_128 : decode cX5_read 128 = .ok (.goto 28, 3) := by decide +kernel
theorem dX5_read_131 : decode cX5_read 131 = .ok (.lload 9, 2) := by decide +kernel
theorem dX5_read_133 : decode cX5_read 133 = .ok (.lconst 0, 1) := by decide +kernel
theorem dX5_read_134 : decode cX5_read 134 = .ok (.lcmp, 1) := by decide +kernel
theorem dX5_read_135 : decode cX5_read 135 = .ok (.ifCond .lt 16, 3) := by decide +kernel
theorem dX5_read_138 : decode cX5_read 138 = .ok (.lload 9, 2) := by decide +kernel
theorem dX5_read_140 : decode cX5_read 140 = .ok (.aload_n 0, 1) := by decide +kernel
theorem dX5_read_141 : decode cX5_read 141 = .ok (.getfield 38, 3) := by decide +kernel
theorem dX5_read_144 : decode cX5_read 144 = .ok (.iload_n 1, 1) := by decide +kernel
theorem dX5_read_145 : decode cX5_read 145 = .ok (.iaload, 1) := by decide +kernel
theorem dX5_read_146 : decode cX5_read 146 = .ok (.i2l, 1) := by decide +kernel
theorem dX5_read_147 : decode cX5_read 147 = .ok (.lcmp, 1) := by decide +kernel
theorem dX5_read_148 : decode cX5_read 148 = .ok (.ifCond .lt 7, 3) := by decide +kernel
theorem dX5_read_151 : decode cX5_read 151 = .ok (.iconst 2, 1) := by decide +kernel
theorem dX5_read_152 : decode cX5_read 152 = .ok (.goto 4, 3) := by decide +kernel
theorem dX5_read_155 : decode cX5_read 155 = .ok (.iconst 0, 1) := by decide +kernel
theorem dX5_read_156 : decode cX5_read 156 = .ok (.istore 5, 2) := by decide +kernel
theorem dX5_read_158 : decode cX5_read 158 = .ok (.iinc 8 1, 3) := by decide +kernel
theorem dX5_read_161 : decode cX5_read 161 = .ok (.goto (-84), 3) := by decide +kernel
theorem dX5_read_164 : decode cX5_read 164 = .ok (.iload 5, 2) := by decide +kernel
theorem dX5_read_166 : decode cX5_read 166 = .ok (.ifCond .ne 87, 3) := by decide +kernel
theorem dX5_read_169 : decode cX5_read 169 = .ok (.bipush 40, 2) := by decide +kernel
theorem dX5_read_171 : decode cX5_read 171 = .ok (.iload_n 1, 1) := by decide +kernel
theorem dX5_read_172 : decode cX5_read 172 = .ok (.imul, 1) := by decide +kernel
theorem dX5_read_173 : decode cX5_read 173 = .ok (.iload_n 3, 1) := by decide +kernel
theorem dX5_read_174 : decode cX5_read 174 = .ok (.iadd, 1) := by decide +kernel
theorem dX5_read_175 : decode cX5_read 175 = .ok (.iconst 3, 1) := by decide +kernel
theorem dX5_read_176 : decode cX5_read 176 = .ok (.iload 7, 2) := by decide +kernel
theorem dX5_read_178 : decode cX5_read 178 = .ok (.imul, 1) := by decide +kernel
theorem dX5_read_179 : decode cX5_read 179 = .ok (.iadd, 1) := by decide +kernel
theorem dX5_read_180 : decode cX5_read 180 = .ok (.istore 8, 2) := by decide +kernel
theorem dX5_read_182 : decode cX5_read 182 = .ok (.aload_n 0, 1) := by decide +kernel
theorem dX5_read_183 : decode cX5_read 183 = .ok (.aload_n 0, 1) := by decide +kernel
theorem dX5_read_184 : decode cX5_read 184 = .ok (.getfield 41, 3) := by decide +kernel
theorem dX5_read_187 : decode cX5_read 187 = .ok (.iload 8, 2) := by decide +kernel
theorem dX5_read_189 : decode cX5_read 189 = .ok (.iaload, 1) := by decide +kernel
theorem dX5_read_190 : decode cX5_read 190 = .ok (.aload_n 0, 1) := by decide +kernel
theorem dX5_read_191 : decode cX5_read 191 = .ok (.getfield 41, 3) := by decide +kernel
theorem dX5_read_194 : decode cX5_read 194 = .ok (.iload 8, 2) := by decide +kernel
theorem dX5_read_196 : decode cX5_read 196 = .ok (.iconst 1, 1) := by decide +kernel
theorem dX5_read_197 : decode cX5_read 197 = .ok (.iadd, 1) := by decide +kernel
theorem dX5_read_198 : decode cX5_read 198 = .ok (.iaload, 1) := by decide +kernel
theorem dX5_read_199 : decode cX5_read 199 = .ok (.aload_n 0, 1) := by decide +kernel
theorem dX5_read_200 : decode cX5_read 200 = .ok (.getfield 41, 3) := by decide +kernel
theorem dX5_read_203 : decode cX5_read 203 = .ok (.iload 8, 2) := by decide +kernel
theorem dX5_read_205 : decode cX5_read 205 = .ok (.iconst 2, 1) := by decide +kernel
theorem dX5_read_206 : decode cX5_read 206 = .ok (.iadd, 1) := by decide +kernel
theorem dX5_read_207 : decode cX5_read 207 = .ok (.iaload, 1) := by decide +kernel
theorem dX5_read_208 : decode cX5_read 208 = .ok (.invokevirtual 316, 3) := by decide +kernel
theorem dX5_read_211 : decode cX5_read 211 = .ok (.ifCond .ge 39, 3) := by decide +kernel
theorem dX5_read_214 : decode cX5_read 214 = .ok (.iconst 0, 1) := by decide +kernel
theorem dX5_read_215 : decode cX5_read 215 = .ok (.istore 9, 2) := by decide +kernel
theorem dX5_read_217 : decode cX5_read 217 = .ok (.iload 9, 2) := by decide +kernel
theorem dX5_read_219 : decode cX5_read 219 = .ok (.bipush 75, 2) := by decide +kernel
theorem dX5_read_221 : decode cX5_read 221 = .ok (.if_icmp .ge 23, 3) := by decide +kernel
theorem dX5_read_224 : decode cX5_read 224 = .ok (.aload_n 0, 1) := by decide +kernel
theorem dX5_read_225 : decode cX5_read 225 = .ok (.getfield 7, 3) := by decide +kernel
theorem dX5_read_228 : decode cX5_read 228 = .ok (.iload 9, 2) := by decide +kernel
theorem dX5_read_230 : decode cX5_read 230 = .ok (.aload_n 0, 1) := by decide +kernel
theorem dX5_read_231 : decode cX5_read 231 = .ok (.getfield 44, 3) := by decide +kernel
theorem dX5_read_234 : decode cX5_read 234 = .ok (.iload 9, 2) := by decide +kernel
theorem dX5_read_236 : decode cX5_read 236 = .ok (.iaload, 1) := by decide +kernel
theorem dX5_read_237 : decode cX5_read 237 = .ok (.iastore, 1) := by decide +kernel
theorem dX5_read_238 : decode cX5_read 238 = .ok (.iinc 9 1, 3) := by decide +kernel
theorem dX5_read_241 : decode cX5_read 241 = .ok (.goto (-24), 3) := by decide +kernel
theorem dX5_read_244 : decode cX5_read 244 = .ok (.bipush (-20), 2) := by decide +kernel
theorem dX5_read_246 : decode cX5_read 246 = .ok (.iload 7, 2) := by decide +kernel
theorem dX5_read_248 : decode cX5_read 248 = .ok (.isub, 1) := by decide +kernel
theorem dX5_read_249 : decode cX5_read 249 = .ok (.ireturn, 1) := by decide +kernel
theorem dX5_read_250 : decode cX5_read 250 = .ok (.iinc 6 1, 3) := by decide +kernel
theorem dX5_read_253 : decode cX5_read 253 = .ok (.iinc 7 1, 3) := by decide +kernel
theorem dX5_read_256 : decode cX5_read 256 = .ok (.goto (-194), 3) := by decide +kernel
theorem dX5_read_259 : decode cX5_read 259 = .ok (.aload_n 0, 1) := by decide +kernel
theorem dX5_read_260 : decode cX5_read 260 = .ok (.iload 5, 2) := by decide +kernel
theorem dX5_read_262 : decode cX5_read 262 = .ok (.putfield 320, 3) := by decide +kernel
theorem dX5_read_265 : decode cX5_read 265 = .ok (.iload 6, 2) := by decide +kernel
theorem dX5_read_267 : decode cX5_read 267 = .ok (.ireturn, 1) := by decide +kernel
theorem dX5_torn_0 : decode cX5_torn 0 = .ok (.aload_n 0, 1) := by decide +kernel
theorem dX5_torn_1 : decode cX5_torn 1 = .ok (.getfield 320, 3) := by decide +kernel
theorem dX5_torn_4 : decode cX5_torn 4 = .ok (.ireturn, 1) := by decide +kernel
theorem dX5_count_0 : decode cX5_count 0 = .ok (.iload_n 1, 1) := by decide +kernel
theorem dX5_count_1 : decode cX5_count 1 = .ok (.tableswitch 107 0 5 #[39, 47, 67, 72, 95, 101], 39) := by decide +kernel
theorem dX5_count_40 : decode cX5_count 40 = .ok (.aload_n 0, 1) := by decide +kernel
theorem dX5_count_41 : decode cX5_count 41 = .ok (.getfield 7, 3) := by decide +kernel
theorem dX5_count_44 : decode cX5_count 44 = .ok (.bipush 56, 2) := by decide +kernel
theorem dX5_count_46 : decode cX5_count 46 = .ok (.iaload, 1) := by decide +kernel
theorem dX5_count_47 : decode cX5_count 47 = .ok (.ireturn, 1) := by decide +kernel
theorem dX5_count_48 : decode cX5_count 48 = .ok (.aload_n 0, 1) := by decide +kernel
theorem dX5_count_49 : decode cX5_count 49 = .ok (.getfield 16, 3) := by decide +kernel
theorem dX5_count_52 : decode cX5_count 52 = .ok (.iconst 0, 1) := by decide +kernel
theorem dX5_count_53 : decode cX5_count 53 = .ok (.baload, 1) := by decide +kernel
theorem dX5_count_54 : decode cX5_count 54 = .ok (.invokestatic 236, 3) := by decide +kernel
theorem dX5_count_57 : decode cX5_count 57 = .ok (.aload_n 0, 1) := by decide +kernel
theorem dX5_count_58 : decode cX5_count 58 = .ok (.getfield 16, 3) := by decide +kernel
theorem dX5_count_61 : decode cX5_count 61 = .ok (.iconst 1, 1) := by decide +kernel
theorem dX5_count_62 : decode cX5_count 62 = .ok (.baload, 1) := by decide +kernel
theorem dX5_count_63 : decode cX5_count 63 = .ok (.invokestatic 236, 3) := by decide +kernel
theorem dX5_count_66 : decode cX5_count 66 = .ok (.iadd, 1) := by decide +kernel
theorem dX5_count_67 : decode cX5_count 67 = .ok (.ireturn, 1) := by decide +kernel
theorem dX5_count_68 : decode cX5_count 68 = .ok (.aload_n 0, 1) := by decide +kernel
theorem dX5_count_69 : decode cX5_count 69 = .ok (.getfield 67, 3) := by decide +kernel
theorem dX5_count_72 : decode cX5_count 72 = .ok (.ireturn, 1) := by decide +kernel
theorem dX5_count_73 : decode cX5_count 73 = .ok (.aload_n 0, 1) := by decide +kernel
theorem dX5_count_74 : decode cX5_count 74 = .ok (.getfield 35, 3) := by decide +kernel
theorem dX5_count_77 : decode cX5_count 77 = .ok (.iconst 0, 1) := by decide +kernel
theorem dX5_count_78 : decode cX5_count 78 = .ok (.iaload, 1) := by decide +kernel
theorem dX5_count_79 : decode cX5_count 79 = .ok (.bipush (-4), 2) := by decide +kernel
theorem dX5_count_81 : decode cX5_count 81 = .ok (.if_icmp .ne 8, 3) := by decide +kernel
theorem dX5_count_84 : decode cX5_count 84 = .ok (.bipush (-4), 2) := by decide +kernel
theorem dX5_count_86 : decode cX5_count 86 = .ok (.goto 9, 3) := by decide +kernel
theorem dX5_count_89 : decode cX5_count 89 = .ok (.aload_n 0, 1) := by decide +kernel
theorem dX5_count_90 : decode cX5_count 90 = .ok (.getfield 38, 3) := by decide +kernel
theorem dX5_count_93 : decode cX5_count 93 = .ok (.iconst 0, 1) := by decide +kernel
theorem dX5_count_94 : decode cX5_count 94 = .ok (.iaload, 1) := by decide +kernel
theorem dX5_count_95 : decode cX5_count 95 = .ok (.ireturn, 1) := by decide +kernel
theorem dX5_count_96 : decode cX5_count 96 = .ok (.aload_n 0, 1) := by decide +kernel
theorem dX5_count_97 : decode cX5_count 97 = .ok (.iconst 0, 1) := by decide +kernel
theorem dX5_count_98 : decode cX5_count 98 = .ok (.invokevirtual 189, 3) := by decide +kernel
theorem dX5_count_101 : decode cX5_count 101 = .ok (.ireturn, 1) := by decide +kernel
theorem dX5_count_102 : decode cX5_count 102 = .ok (.aload_n 0, 1) := by decide +kernel
theorem dX5_count_103 : decode cX5_count 103 = .ok (.iconst 2, 1) := by decide +kernel
theorem dX5_count_104 : decode cX5_count 104 = .ok (.invokevirtual 189, 3) := by decide +kernel
theorem dX5_count_107 : decode cX5_count 107 = .ok (.ireturn, 1) := by decide +kernel
theorem dX5_count_108 : decode cX5_count 108 = .ok (.iconst (-1), 1) := by decide +kernel
theorem dX5_count_109 : decode cX5_count 109 = .ok (.ireturn, 1) := by decide +kernel
