theorem dX3_nameIs_49 : decode cX3_nameIs 49 = .ok (.iinc 2 1, 3) := by decide +kernel
theorem dX3_nameIs_52 : decode cX3_nameIs 52 = .ok (.goto (-32), 3) := by decide +kernel
theorem dX3_nameIs_55 : decode cX3_nameIs 55 = .ok (.iconst 1, 1) := by decide +kernel
theorem dX3_nameIs_56 : decode cX3_nameIs 56 = .ok (.ireturn, 1) := by decide +kernel
theorem dX3_lineName_0 : decode cX3_lineName 0 = .ok (.iload_n 0, 1) := by decide +kernel
theorem dX3_lineName_1 : decode cX3_lineName 1 = .ok (.tableswitch 50 0 4 #[35, 38, 41, 44, 47], 35) := by decide +kernel
theorem dX3_lineName_36 : decode cX3_lineName 36 = .ok (.ldc 139, 2) := by decide +kernel
theorem dX3_lineName_38 : decode cX3_lineName 38 = .ok (.areturn, 1) := by decide +kernel
theorem dX3_lineName_39 : decode cX3_lineName 39 = .ok (.ldc 141, 2) := by decide +kernel
theorem dX3_lineName_41 : decode cX3_lineName 41 = .ok (.areturn, 1) := by decide +kernel
theorem dX3_lineName_42 : decode cX3_lineName 42 = .ok (.ldc 143, 2) := by decide +kernel
theorem dX3_lineName_44 : decode cX3_lineName 44 = .ok (.areturn, 1) := by decide +kernel
theorem dX3_lineName_45 : decode cX3_lineName 45 = .ok (.ldc 145, 2) := by decide +kernel
theorem dX3_lineName_47 : decode cX3_lineName 47 = .ok (.areturn, 1) := by decide +kernel
theorem dX3_lineName_48 : decode cX3_lineName 48 = .ok (.ldc 147, 2) := by decide +kernel
theorem dX3_lineName_50 : decode cX3_lineName 50 = .ok (.areturn, 1) := by decide +kernel
theorem dX3_lineName_51 : decode cX3_lineName 51 = .ok (.ldc 149, 2) := by decide +kernel
theorem dX3_lineName_53 : decode cX3_lineName 53 = .ok (.areturn, 1) := by decide +kernel
theorem dX4_init_0 : decode cX4_init 0 = .ok (.aload_n 0, 1) := by decide +kernel
theorem dX4_init_1 : decode cX4_init 1 = .ok (.invokespecial 1, 3) := by decide +kernel
theorem dX4_init_4 : decode cX4_init 4 = .ok (.aload_n 0, 1) := by decide +kernel
theorem dX4_init_5 : decode cX4_init 5 = .ok (.sipush 160, 3) := by decide +kernel
theorem dX4_init_8 : decode cX4_init 8 = .ok (.newarray .byte, 2) := by decide +kernel
theorem dX4_init_10 : decode cX4_init 10 = .ok (.putfield 9, 3) := by decide +kernel
theorem dX4_init_13 : decode cX4_init 13 = .ok (.aload_n 0, 1) := by decide +kernel
theorem dX4_init_14 : decode cX4_init 14 = .ok (.new 13, 3) := by decide +kernel
theorem dX4_init_17 : decode cX4_init 17 = .ok (.dup, 1) := by decide +kernel
theorem dX4_init_18 : decode cX4_init 18 = .ok (.invokespecial 15, 3) := by decide +kernel
theorem dX4_init_21 : decode cX4_init 21 = .ok (.putfield 16, 3) := by decide +kernel
theorem dX4_init_24 : decode cX4_init 24 = .ok (.aload_n 0, 1) := by decide +kernel
theorem dX4_init_25 : decode cX4_init 25 = .ok (.new 13, 3) := by decide +kernel
theorem dX4_init_28 : decode cX4_init 28 = .ok (.dup, 1) := by decide +kernel
theorem dX4_init_29 : decode cX4_init 29 = .ok (.invokespecial 15, 3) := by decide +kernel
theorem dX4_init_32 : decode cX4_init 32 = .ok (.putfield 20, 3) := by decide +kernel
theorem dX4_init_35 : decode cX4_init 35 = .ok (.aload_n 0, 1) := by decide +kernel
theorem dX4_init_36 : decode cX4_init 36 = .ok (.iconst 2, 1) := by decide +kernel
theorem dX4_init_37 : decode cX4_init 37 = .ok (.anewarray 13, 3) := by decide +kernel
theorem dX4_init_40 : decode cX4_init 40 = .ok (.putfield 23, 3) := by decide +kernel
theorem dX4_init_43 : decode cX4_init 43 = .ok (.aload_n 0, 1) := by decide +kernel
theorem dX4_init_44 : decode cX4_init 44 = .ok (.iconst 2, 1) := by decide +kernel
theorem dX4_init_45 : decode cX4_init 45 = .ok (.newarray .boolean, 2) := by decide +kernel
theorem dX4_init_47 : decode cX4_init 47 = .ok (.putfield 27, 3) := by decide +kernel
theorem dX4_init_50 : decode cX4_init 50 = .ok (.iconst 0, 1) := by decide +kernel
theorem dX4_init_51 : decode cX4_init 51 = .ok (.istore_n 1, 1) := by decide +kernel
theorem dX4_init_52 : decode cX4_init 52 = .ok (.iload_n 1, 1) := by decide +kernel
theorem dX4_init_53 : decode cX4_init 53 = .ok (.iconst 2, 1) := by decide +kernel
theorem dX4_init_54 : decode cX4_init 54 = .ok (.if_icmp .ge 22, 3) := by decide +kernel
theorem dX4_init_57 : decode cX4_init 57 = .ok (.aload_n 0, 1) := by decide +kernel
theorem dX4_init_58 : decode cX4_init 58 = .ok (.getfield 23, 3) := by decide +kernel
theorem dX4_init_61 : decode cX4_init 61 = .ok (.iload_n 1, 1) := by decide +kernel
theorem dX4_init_62 : decode cX4_init 62 = .ok (.new 13, 3) := by decide +kernel
theorem dX4_init_65 : decode cX4_init 65 = .ok (.dup, 1) := by decide +kernel
theorem dX4_init_66 : decode cX4_init 66 = .ok (.invokespecial 15, 3) := by decide +kernel
theorem dX4_init_69 : decode cX4_init 69 = .ok (.aastore, 1) := by decide +kernel
theorem dX4_init_70 : decode cX4_init 70 = .ok (.iinc 1 1, 3) := by decide +kernel
theorem dX4_init_73 : decode cX4_init 73 = .ok (.goto (-21), 3) := by decide +kernel
theorem dX4_init_76 : decode cX4_init 76 = .ok (.aload_n 0, 1) := by decide +kernel
theorem dX4_init_77 : decode cX4_init 77 = .ok (.iconst 4, 1) := by decide +kernel
theorem dX4_init_78 : decode cX4_init 78 = .ok (.anewarray 31, 3) := by decide +kernel
theorem dX4_init_81 : decode cX4_init 81 = .ok (.putfield 33, 3) := by decide +kernel
theorem dX4_init_84 : decode cX4_init 84 = .ok (.iconst 0, 1) := by decide +kernel
theorem dX4_init_85 : decode cX4_init 85 = .ok (.istore_n 1, 1) := by decide +kernel
theorem dX4_init_86 : decode cX4_init 86 = .ok (.iload_n 1, 1) := by decide +kernel
theorem dX4_init_87 : decode cX4_init 87 = .ok (.iconst 4, 1) := by decide +kernel
theorem dX4_init_88 : decode cX4_init 88 = .ok (.if_icmp .ge 22, 3) := by decide +kernel
theorem dX4_init_91 : decode cX4_init 91 = .ok (.aload_n 0, 1) := by decide +kernel
theorem dX4_init_92 : decode cX4_init 92 = .ok (.getfield 33, 3) := by decide +kernel
theorem dX4_init_95 : decode cX4_init 95 = .ok (.iload_n 1, 1) := by decide +kernel
theorem dX4_init_96 : decode cX4_init 96 = .ok (.new 31, 3) := by decide +kernel
theorem dX4_init_99 : decode cX4_init 99 = .ok (.dup, 1) := by decide +kernel
theorem dX4_init_100 : decode cX4_init 100 = .ok (.invokespecial 37, 3) := by decide +kernel
theorem dX4_init_103 : decode cX4_init 103 = .ok (.aastore, 1) := by decide +kernel
theorem dX4_init_104 : decode cX4_init 104 = .ok (.iinc 1 1, 3) := by decide +kernel
theorem dX4_init_107 : decode cX4_init 107 = .ok (.goto (-21), 3) := by decide +kernel
theorem dX4_init_110 : decode cX4_init 110 = .ok (.aload_n 0, 1) := by decide +kernel
theorem dX4_init_111 : decode cX4_init 111 = .ok (.new 38, 3) := by decide +kernel
theorem dX4_init_114 : decode cX4_init 114 = .ok (.dup, 1) := by decide +kernel
theorem dX4_init_115 : decode cX4_init 115 = .ok (.aload_n 0, 1) := by decide +kernel
theorem dX4_init_116 : decode cX4_init 116 = .ok (.getfield 9, 3) := by decide +kernel
theorem dX4_init_119 : decode cX4_init 119 = .ok (.aload_n 0, 1) := by decide +kernel
theorem dX4_init_120 : decode cX4_init 120 = .ok (.getfield 20, 3) := by decide +kernel
theorem dX4_init_123 : decode cX4_init 123 = .ok (.invokespecial 40, 3) := by decide +kernel
theorem dX4_init_126 : decode cX4_init 126 = .ok (.putfield 43, 3) := by decide +kernel
theorem dX4_init_129 : decode cX4_init 129 = .ok (.aload_n 0, 1) := by decide +kernel
theorem dX4_init_130 : decode cX4_init 130 = .ok (.bipush 8, 2) := by decide +kernel
theorem dX4_init_132 : decode cX4_init 132 = .ok (.newarray .int, 2) := by decide +kernel
theorem dX4_init_134 : decode cX4_init 134 = .ok (.putfield 47, 3) := by decide +kernel
theorem dX4_init_137 : decode cX4_init 137 = .ok (.aload_n 0, 1) := by decide +kernel
theorem dX4_init_138 : decode cX4_init 138 = .ok (.bipush 41, 2) := by decide +kernel
theorem dX4_init_140 : decode cX4_init 140 = .ok (.newarray .int, 2) := by decide +kernel
theorem dX4_init_142 : decode cX4_init 142 = .ok (.putfield 51, 3) := by decide +kernel
theorem dX4_init_145 : decode cX4_init 145 = .ok (.return_, 1) := by decide +kernel
theorem dX4_feed_0 : decode cX4_feed 0 = .ok (.iload_n 1, 1) := by decide +kernel
theorem dX4_feed_1 : decode cX4_feed 1 = .ok (.iconst 0, 1) := by decide +kernel
theorem dX4_feed_2 : decode cX4_feed 2 = .ok (.bipush 127, 2) := by decide +kernel
theorem dX4_feed_4 : decode cX4_feed 4 = .ok (.invokestatic 54, 3) := by decide +kernel
theorem dX4_feed_7 : decode cX4_feed 7 = .ok (.ifCond .ne 5, 3) := by decide +kernel
theorem dX4_feed_10 : decode cX4_feed 10 = .ok (.iconst (-1), 1) := by decide +kernel
theorem dX4_feed_11 : decode cX4_feed 11 = .ok (.ireturn, 1) := by decide +kernel
theorem dX4_feed_12 : decode cX4_feed 12 = .ok (.aload_n 0, 1) := by decide +kernel
theorem dX4_feed_13 : decode cX4_feed 13 = .ok (.getfield 58, 3) := by decide +kernel
theorem dX4_feed_16 : decode cX4_feed 16 = .ok (.sipush 160, 3) := by decide +kernel
theorem dX4_feed_19 : decode cX4_feed 19 = .ok (.if_icmp .lt 6, 3) := by decide +kernel
theorem dX4_feed_22 : decode cX4_feed 22 = .ok (.bipush (-3), 2) := by decide +kernel
theorem dX4_feed_24 : decode cX4_feed 24 = .ok (.ireturn, 1) := by decide +kernel
theorem dX4_feed_25 : decode cX4_feed 25 = .ok (.aload_n 0, 1) := by decide +kernel
theorem dX4_feed_26 : decode cX4_feed 26 = .ok (.getfield 9, 3) := by decide +kernel
theorem dX4_feed_29 : decode cX4_feed 29 = .ok (.aload_n 0, 1) := by decide +kernel
theorem dX4_feed_30 : decode cX4_feed 30 = .ok (.getfield 58, 3) := by decide +kernel
theorem dX4_feed_33 : decode cX4_feed 33 = .ok (.iload_n 1, 1) := by decide +kernel
theorem dX4_feed_34 : decode cX4_feed 34 = .ok (.i2b, 1) := by decide +kernel
theorem dX4_feed_35 : decode cX4_feed 35 = .ok (.bastore, 1) := by decide +kernel
theorem dX4_feed_36 : decode cX4_feed 36 = .ok (.aload_n 0, 1) := by decide +kernel
theorem dX4_feed_37 : decode cX4_feed 37 = .ok (.dup, 1) := by decide +kernel
theorem dX4_feed_38 : decode cX4_feed 38 = .ok (.getfield 58, 3) := by decide +kernel
theorem dX4_feed_41 : decode cX4_feed 41 = .ok (.iconst 1, 1) := by decide +kernel
theorem dX4_feed_42 : decode cX4_feed 42 = .ok (.iadd, 1) := by decide +kernel
theorem dX4_feed_43 : decode cX4_feed 43 = .ok (.putfield 58, 3) := by decide +kernel
theorem dX4_feed_46 : decode cX4_feed 46 = .ok (.aload_n 0, 1) := by decide +kernel
theorem dX4_feed_47 : decode cX4_feed 47 = .ok (.getfield 58, 3) := by decide +kernel
theorem dX4_feed_50 : decode cX4_feed 50 = .ok (.ireturn, 1) := by decide +kernel
theorem dX4_end_0 : decode cX4_end 0 = .ok (.iload_n 1, 1) := by decide +kernel
theorem dX4_end_1 : decode cX4_end 1 = .ok (.iconst 0, 1) := by decide +kernel
theorem dX4_end_2 : decode cX4_end 2 = .ok (.aload_n 0, 1) := by decide +kernel
theorem dX4_end_3 : decode cX4_end 3 = .ok (.getfield 58, 3) := by decide +kernel
theorem dX4_end_6 : decode cX4_end 6 = .ok (.invokestatic 54, 3) := by decide +kernel
theorem dX4_end_9 : decode cX4_end 9 = .ok (.ifCond .ne 5, 3) := by decide +kernel
theorem dX4_end_12 : decode cX4_end 12 = .ok (.iconst (-1), 1) := by decide +kernel
theorem dX4_end_13 : decode cX4_end 13 = .ok (.ireturn, 1) := by decide +kernel
theorem dX4_end_14 : decode cX4_end 14 = .ok (.aload_n 0, 1) := by decide +kernel
theorem dX4_end_15 : decode cX4_end 15 = .ok (.getfield 58, 3) := by decide +kernel
theorem dX4_end_18 : decode cX4_end 18 = .ok (.istore_n 2, 1) := by decide +kernel
theorem dX4_end_19 : decode cX4_end 19 = .ok (.aload_n 0, 1) := by decide +kernel
theorem dX4_end_20 : decode cX4_end 20 = .ok (.iload_n 1, 1) := by decide +kernel
theorem dX4_end_21 : decode cX4_end 21 = .ok (.putfield 58, 3) := by decide +kernel
theorem dX4_end_24 : decode cX4_end 24 = .ok (.iload_n 2, 1) := by decide +kernel
theorem dX4_end_25 : decode cX4_end 25 = .ok (.ireturn, 1) := by decide +kernel
theorem dX4_text_0 : decode cX4_text 0 = .ok (.aload_n 0, 1) := by decide +kernel
theorem dX4_text_1 : decode cX4_text 1 = .ok (.getfield 43, 3) := by decide +kernel
theorem dX4_text_4 : decode cX4_text 4 = .ok (.aload_n 0, 1) := by decide +kernel
theorem dX4_text_5 : decode cX4_text 5 = .ok (.getfield 58, 3) := by decide +kernel
theorem dX4_text_8 : decode cX4_text 8 = .ok (.invokevirtual 62, 3) := by decide +kernel
theorem dX4_text_11 : decode cX4_text 11 = .ok (.istore_n 1, 1) := by decide +kernel
theorem dX4_text_12 : decode cX4_text 12 = .ok (.aload_n 0, 1) := by decide +kernel
theorem dX4_text_13 : decode cX4_text 13 = .ok (.iconst 0, 1) := by decide +kernel
theorem dX4_text_14 : decode cX4_text 14 = .ok (.putfield 58, 3) := by decide +kernel
theorem dX4_text_17 : decode cX4_text 17 = .ok (.aload_n 0, 1) := by decide +kernel
theorem dX4_text_18 : decode cX4_text 18 = .ok (.aload_n 0, 1) := by decide +kernel
theorem dX4_text_19 : decode cX4_text 19 = .ok (.getfield 43, 3) := by decide +kernel
theorem dX4_text_22 : decode cX4_text 22 = .ok (.getfield 66, 3) := by decide +kernel
theorem dX4_text_25 : decode cX4_text 25 = .ok (.putfield 69, 3) := by decide +kernel
theorem dX4_text_28 : decode cX4_text 28 = .ok (.aload_n 0, 1) := by decide +kernel
theorem dX4_text_29 : decode cX4_text 29 = .ok (.getfield 69, 3) := by decide +kernel
theorem dX4_text_32 : decode cX4_text 32 = .ok (.ifCond .eq 14, 3) := by decide +kernel
theorem dX4_text_35 : decode cX4_text 35 = .ok (.bipush (-10), 2) := by decide +kernel
theorem dX4_text_37 : decode cX4_text 37 = .ok (.aload_n 0, 1) := by decide +kernel
theorem dX4_text_38 : decode cX4_text 38 = .ok (.getfield 43, 3) := by decide +kernel
theorem dX4_text_41 : decode cX4_text 41 = .ok (.getfield 72, 3) := by decide +kernel
theorem dX4_text_44 : decode cX4_text 44 = .ok (.isub, 1) := by decide +kernel
theorem dX4_text_45 : decode cX4_text 45 = .ok (.ireturn, 1) := by decide +kernel
theorem dX4_text_46 : decode cX4_text 46 = .ok (.aload_n 0, 1) := by decide +kernel
theorem dX4_text_47 : decode cX4_text 47 = .ok (.getfield 16, 3) := by decide +kernel
theorem dX4_text_50 : decode cX4_text 50 = .ok (.aload_n 0, 1) := by decide +kernel
theorem dX4_text_51 : decode cX4_text 51 = .ok (.getfield 20, 3) := by decide +kernel
theorem dX4_text_54 : decode cX4_text 54 = .ok (.invokevirtual 75, 3) := by decide +kernel
theorem dX4_text_57 : decode cX4_text 57 = .ok (.iconst 0, 1) := by decide +kernel
theorem dX4_text_58 : decode cX4_text 58 = .ok (.istore_n 2, 1) := by decide +kernel
theorem dX4_text_59 : decode cX4_text 59 = .ok (.iload_n 2, 1) := by decide +kernel
theorem dX4_text_60 : decode cX4_text 60 = .ok (.iconst 2, 1) := by decide +kernel
theorem dX4_text_61 : decode cX4_text 61 = .ok (.if_icmp .ge 16, 3) := by decide +kernel
theorem dX4_text_64 : decode cX4_text 64 = .ok (.aload_n 0, 1) := by decide +kernel
theorem dX4_text_65 : decode cX4_text 65 = .ok (.getfield 27, 3) := by decide +kernel
theorem dX4_text_68 : decode cX4_text 68 = .ok (.iload_n 2, 1) := by decide +kernel
theorem dX4_text_69 : decode cX4_text 69 = .ok (.iconst 0, 1) := by decide +kernel
theorem dX4_text_70 : decode cX4_text 70 = .ok (.bastore, 1) := by decide +kernel
theorem dX4_text_71 : decode cX4_text 71 = .ok (.iinc 2 1, 3) := by decide +kernel
theorem dX4_text_74 : decode cX4_text 74 = .ok (.goto (-15), 3) := by decide +kernel
theorem dX4_text_77 : decode cX4_text 77 = .ok (.iload_n 1, 1) := by decide +kernel
theorem dX4_text_78 : decode cX4_text 78 = .ok (.ireturn, 1) := by decide +kernel
theorem dX4_fault_0 : decode cX4_fault 0 = .ok (.aload_n 0, 1) := by decide +kernel
theorem dX4_fault_1 : decode cX4_fault 1 = .ok (.getfield 69, 3) := by decide +kernel
theorem dX4_fault_4 : decode cX4_fault 4 = .ok (.ireturn, 1) := by decide +kernel
theorem dX4_rule_0 : decode cX4_rule 0 = .ok (.iload_n 1, 1) := by decide +kernel
theorem dX4_rule_1 : decode cX4_rule 1 = .ok (.tableswitch 99 0 6 #[43, 51, 59, 67, 75, 83, 91], 43) := by decide +kernel
theorem dX4_rule_44 : decode cX4_rule 44 = .ok (.aload_n 0, 1) := by decide +kernel
theorem dX4_rule_45 : decode cX4_rule 45 = .ok (.getfield 16, 3) := by decide +kernel
theorem dX4_rule_48 : decode cX4_rule 48 = .ok (.getfield 79, 3) := by decide +kernel
theorem dX4_rule_51 : decode cX4_rule 51 = .ok (.ireturn, 1) := by decide +kernel
theorem dX4_rule_52 : decode cX4_rule 52 = .ok (.aload_n 0, 1) := by decide +kernel
theorem dX4_rule_53 : decode cX4_rule 53 = .ok (.getfield 16, 3) := by decide +kernel
theorem dX4_rule_56 : decode cX4_rule 56 = .ok (.getfield 82, 3) := by decide +kernel
theorem dX4_rule_59 : decode cX4_rule 59 = .ok (.ireturn, 1) := by decide +kernel
theorem dX4_rule_60 : decode cX4_rule 60 = .ok (.aload_n 0, 1) := by decide +kernel
theorem dX4_rule_61 : decode cX4_rule 61 = .ok (.getfield 16, 3) := by decide +kernel
theorem dX4_rule_64 : decode cX4_rule 64 = .ok (.getfield 85, 3) := by decide +kernel
theorem dX4_rule_67 : decode cX4_rule 67 = .ok (.ireturn, 1) := by decide +kernel
theorem dX4_rule_68 : decode cX4_rule 68 = .ok (.aload_n 0, 1) := by decide +kernel
theorem dX4_rule_69 : decode cX4_rule 69 = .ok (.getfield 16, 3) := by decide +kernel
theorem dX4_rule_72 : decode cX4_rule 72 = .ok (.getfield 88, 3) := by decide +kernel
theorem dX4_rule_75 : decode cX4_rule 75 = .ok (.ireturn, 1) := by decide +kernel
theorem dX4_rule_76 : decode cX4_rule 76 = .ok (.aload_n 0, 1) := by decide +kernel
theorem dX4_rule_77 : decode cX4_rule 77 = .ok (.getfield 16, 3) := by decide +kernel
theorem dX4_rule_80 : decode cX4_rule 80 = .ok (.invokevirtual 91, 3) := by decide +kernel
theorem dX4_rule_83 : decode cX4_rule 83 = .ok (.ireturn, 1) := by decide +kernel
theorem dX4_rule_84 : decode cX4_rule 84 = .ok (.aload_n 0, 1) := by decide +kernel
theorem dX4_rule_85 : decode cX4_rule 85 = .ok (.getfield 16, 3) := by decide +kernel
theorem dX4_rule_88 : decode cX4_rule 88 = .ok (.invokevirtual 95, 3) := by decide +kernel
theorem dX4_rule_91 : decode cX4_rule 91 = .ok (.ireturn, 1) := by decide +kernel
theorem dX4_rule_92 : decode cX4_rule 92 = .ok (.aload_n 0, 1) := by decide +kernel
theorem dX4_rule_93 : decode cX4_rule 93 = .ok (.getfield 16, 3) := by decide +kernel
theorem dX4_rule_96 : decode cX4_rule 96 = .ok (.invokevirtual 98, 3) := by decide +kernel
theorem dX4_rule_99 : decode cX4_rule 99 = .ok (.ireturn, 1) := by decide +kernel
theorem dX4_rule_100 : decode cX4_rule 100 = .ok (.iconst (-1), 1) := by decide +kernel
theorem dX4_rule_101 : decode cX4_rule 101 = .ok (.ireturn, 1) := by decide +kernel
theorem dX4_key_0 : decode cX4_key 0 = .ok (.aload_n 0, 1) := by decide +kernel
theorem dX4_key_1 : decode cX4_key 1 = .ok (.getfield 16, 3) := by decide +kernel
theorem dX4_key_4 : decode cX4_key 4 = .ok (.iload_n 1, 1) := by decide +kernel
theorem dX4_key_5 : decode cX4_key 5 = .ok (.invokevirtual 101, 3) := by decide +kernel
theorem dX4_key_8 : decode cX4_key 8 = .ok (.ifCond .ne 5, 3) := by decide +kernel
theorem dX4_key_11 : decode cX4_key 11 = .ok (.iconst (-1), 1) := by decide +kernel
theorem dX4_key_12 : decode cX4_key 12 = .ok (.ireturn, 1) := by decide +kernel
theorem dX4_key_13 : decode cX4_key 13 = .ok (.aload_n 0, 1) := by decide +kernel
theorem dX4_key_14 : decode cX4_key 14 = .ok (.getfield 16, 3) := by decide +kernel
theorem dX4_key_17 : decode cX4_key 17 = .ok (.getfield 105, 3) := by decide +kernel
theorem dX4_key_20 : decode cX4_key 20 = .ok (.iload_n 1, 1) := by decide +kernel
theorem dX4_key_21 : decode cX4_key 21 = .ok (.aaload, 1) := by decide +kernel
theorem dX4_key_22 : decode cX4_key 22 = .ok (.astore_n 3, 1) := by decide +kernel
theorem dX4_key_23 : decode cX4_key 23 = .ok (.iload_n 2, 1) := by decide +kernel
theorem dX4_key_24 : decode cX4_key 24 = .ok (.tableswitch 70 0 6 #[44, 44, 44, 50, 55, 60, 65], 44) := by decide +kernel
theorem dX4_key_68 : decode cX4_key 68 = .ok (.aload_n 3, 1) := by decide +kernel
theorem dX4_key_69 : decode cX4_key 69 = .ok (.iload_n 2, 1) := by decide +kernel
theorem dX4_key_70 : decode cX4_key 70 = .ok (.invokevirtual 109, 3) := by decide +kernel
theorem dX4_key_73 : decode cX4_key 73 = .ok (.ireturn, 1) := by decide +kernel
theorem dX4_key_74 : decode cX4_key 74 = .ok (.aload_n 3, 1) := by decide +kernel
theorem dX4_key_75 : decode cX4_key 75 = .ok (.getfield 114, 3) := by decide +kernel
theorem dX4_key_78 : decode cX4_key 78 = .ok (.ireturn, 1) := by decide +kernel
theorem dX4_key_79 : decode cX4_key 79 = .ok (.aload_n 3, 1) := by decide +kernel
theorem dX4_key_80 : decode cX4_key 80 = .ok (.getfield 117, 3) := by decide +kernel
theorem dX4_key_83 : decode cX4_key 83 = .ok (.ireturn, 1) := by decide +kernel
theorem dX4_key_84 : decode cX4_key 84 = .ok (.aload_n 3, 1) := by decide +kernel
theorem dX4_key_85 : decode cX4_key 85 = .ok (.getfield 120, 3) := by decide +kernel
theorem dX4_key_88 : decode cX4_key 88 = .ok (.ireturn, 1) := by decide +kernel
theorem dX4_key_89 : decode cX4_key 89 = .ok (.aload_n 3, 1) := by decide +kernel
theorem dX4_key_90 : decode cX4_key 90 = .ok (.getfield 123, 3) := by decide +kernel
theorem dX4_key_93 : decode cX4_key 93 = .ok (.ireturn, 1) := by decide +kernel
theorem dX4_key_94 : decode cX4_key 94 = .ok (.iconst (-1), 1) := by decide +kernel
theorem dX4_key_95 : decode cX4_key 95 = .ok (.ireturn, 1) := by decide +kernel
theorem dX4_press_0 : decode cX4_press 0 = .ok (.iload_n 1, 1) := by decide +kernel
theorem dX4_press_1 : decode cX4_press 1 = .ok (.iconst 0, 1) := by decide +kernel
theorem dX4_press_2 : decode cX4_press 2 = .ok (.aload_n 0, 1) := by decide +kernel
theorem dX4_press_3 : decode cX4_press 3 = .ok (.getfield 16, 3) := by decide +kernel
theorem dX4_press_6 : decode cX4_press 6 = .ok (.getfield 82, 3) := by decide +kernel
theorem dX4_press_9 : decode cX4_press 9 = .ok (.iconst 1, 1) := by decide +kernel
theorem dX4_press_10 : decode cX4_press 10 = .ok (.isub, 1) := by decide +kernel
theorem dX4_press_11 : decode cX4_press 11 = .ok (.invokestatic 54, 3) := by decide +kernel
theorem dX4_press_14 : decode cX4_press 14 = .ok (.ifCond .ne 5, 3) := by decide +kernel
theorem dX4_press_17 : decode cX4_press 17 = .ok (.iconst (-1), 1) := by decide +kernel
theorem dX4_press_18 : decode cX4_press 18 = .ok (.ireturn, 1) := by decide +kernel
theorem dX4_press_19 : decode cX4_press 19 = .ok (.iload_n 2, 1) := by decide +kernel
theorem dX4_press_20 : decode cX4_press 20 = .ok (.tableswitch 58 0 2 #[28, 38, 48], 28) := by decide +kernel
theorem dX4_press_48 : decode cX4_press 48 = .ok (.aload_n 0, 1) := by decide +kernel
theorem dX4_press_49 : decode cX4_press 49 = .ok (.getfield 16, 3) := by decide +kernel
theorem dX4_press_52 : decode cX4_press 52 = .ok (.getfield 126, 3) := by decide +kernel
theorem dX4_press_55 : decode cX4_press 55 = .ok (.iload_n 1, 1) := by decide +kernel
theorem dX4_press_56 : decode cX4_press 56 = .ok (.iaload, 1) := by decide +kernel
theorem dX4_press_57 : decode cX4_press 57 = .ok (.ireturn, 1) := by decide +kernel
theorem dX4_press_58 : decode cX4_press 58 = .ok (.aload_n 0, 1) := by decide +kernel
theorem dX4_press_59 : decode cX4_press 59 = .ok (.getfield 16, 3) := by decide +kernel
theorem dX4_press_62 : decode cX4_press 62 = .ok (.getfield 129, 3) := by decide +kernel
theorem dX4_press_65 : decode cX4_press 65 = .ok (.iload_n 1, 1) := by decide +kernel
theorem dX4_press_66 : decode cX4_press 66 = .ok (.iaload, 1) := by decide +kernel
theorem dX4_press_67 : decode cX4_press 67 = .ok (.ireturn, 1) := by decide +kernel
theorem dX4_press_68 : decode cX4_press 68 = .ok (.aload_n 0, 1) := by decide +kernel
theorem dX4_press_69 : decode cX4_press 69 = .ok (.getfield 16, 3) := by decide +kernel
theorem dX4_press_72 : decode cX4_press 72 = .ok (.getfield 132, 3) := by decide +kernel
theorem dX4_press_75 : decode cX4_press 75 = .ok (.iload_n 1, 1) := by decide +kernel
theorem dX4_press_76 : decode cX4_press 76 = .ok (.iaload, 1) := by decide +kernel
theorem dX4_press_77 : decode cX4_press 77 = .ok (.ireturn, 1) := by decide +kernel
theorem dX4_press_78 : decode cX4_press 78 = .ok (.iconst (-1), 1) := by decide +kernel
theorem dX4_press_79 : decode cX4_press 79 = .ok (.ireturn, 1) := by decide +kernel
theorem dX4_contact_0 : decode cX4_contact 0 = .ok (.aload_n 0, 1) := by decide +kernel
theorem dX4_contact_1 : decode cX4_contact 1 = .ok (.getfield 16, 3) := by decide +kernel
theorem dX4_contact_4 : decode cX4_contact 4 = .ok (.iload_n 1, 1) := by decide +kernel
theorem dX4_contact_5 : decode cX4_contact 5 = .ok (.invokevirtual 101, 3) := by decide +kernel
theorem dX4_contact_8 : decode cX4_contact 8 = .ok (.ifCond .eq 14, 3) := by decide +kernel
theorem dX4_contact_11 : decode cX4_contact 11 = .ok (.iload_n 2, 1) := by decide +kernel
theorem dX4_contact_12 : decode cX4_contact 12 = .ok (.iconst 0, 1) := by decide +kernel
theorem dX4_contact_13 : decode cX4_contact 13 = .ok (.sipush 999, 3) := by decide +kernel
theorem dX4_contact_16 : decode cX4_contact 16 = .ok (.invokestatic 54, 3) := by decide +kernel
theorem dX4_contact_19 : decode cX4_contact 19 = .ok (.ifCond .ne 5, 3) := by decide +kernel
theorem dX4_contact_22 : decode cX4_contact 22 = .ok (.iconst (-1), 1) := by decide +kernel
theorem dX4_contact_23 : decode cX4_contact 23 = .ok (.ireturn, 1) := by decide +kernel
theorem dX4_contact_24 : decode cX4_contact 24 = .ok (.aload_n 0, 1) := by decide +kernel
theorem dX4_contact_25 : decode cX4_contact 25 = .ok (.getfield 16, 3) := by decide +kernel
theorem dX4_contact_28 : decode cX4_contact 28 = .ok (.iload_n 1, 1) := by decide +kernel
theorem dX4_contact_29 : decode cX4_contact 29 = .ok (.iload_n 2, 1) := by decide +kernel
theorem dX4_contact_30 : decode cX4_contact 30 = .ok (.invokevirtual 135, 3) := by decide +kernel
theorem dX4_contact_33 : decode cX4_contact 33 = .ok (.ireturn, 1) := by decide +kernel
theorem dX4_alter_0 : decode cX4_alter 0 = .ok (.aload_n 0, 1) := by decide +kernel
theorem dX4_alter_1 : decode cX4_alter 1 = .ok (.getfield 16, 3) := by decide +kernel
theorem dX4_alter_4 : decode cX4_alter 4 = .ok (.iload_n 1, 1) := by decide +kernel
theorem dX4_alter_5 : decode cX4_alter 5 = .ok (.invokevirtual 101, 3) := by decide +kernel
theorem dX4_alter_8 : decode cX4_alter 8 = .ok (.ifCond .eq 11, 3) := by decide +kernel
theorem dX4_alter_11 : decode cX4_alter 11 = .ok (.iload_n 2, 1) := by decide +kernel
theorem dX4_alter_12 : decode cX4_alter 12 = .ok (.iload_n 3, 1) := by decide +kernel
theorem dX4_alter_13 : decode cX4_alter 13 = .ok (.invokestatic 139, 3) := by decide +kernel
theorem dX4_alter_16 : decode cX4_alter 16 = .ok (.ifCond .ne 5, 3) := by decide +kernel
theorem dX4_alter_19 : decode cX4_alter 19 = .ok (.iconst (-1), 1) := by decide +kernel
theorem dX4_alter_20 : decode cX4_alter 20 = .ok (.ireturn, 1) := by decide +kernel
theorem dX4_alter_21 : decode cX4_alter 21 = .ok (.aload_n 0, 1) := by decide +kernel
theorem dX4_alter_22 : decode cX4_alter 22 = .ok (.getfield 16, 3) := by decide +kernel
theorem dX4_alter_25 : decode cX4_alter 25 = .ok (.getfield 105, 3) := by decide +kernel
theorem dX4_alter_28 : decode cX4_alter 28 = .ok (.iload_n 1, 1) := by decide +kernel
theorem dX4_alter_29 : decode cX4_alter 29 = .ok (.aaload, 1) := by decide +kernel
theorem dX4_alter_30 : decode cX4_alter 30 = .ok (.iload_n 2, 1) := by decide +kernel
theorem dX4_alter_31 : decode cX4_alter 31 = .ok (.invokevirtual 109, 3) := by decide +kernel
theorem dX4_alter_34 : decode cX4_alter 34 = .ok (.istore 4, 2) := by decide +kernel
theorem dX4_alter_36 : decode cX4_alter 36 = .ok (.aload_n 0, 1) := by decide +kernel
theorem dX4_alter_37 : decode cX4_alter 37 = .ok (.getfield 16, 3) := by decide +kernel
theorem dX4_alter_40 : decode cX4_alter 40 = .ok (.getfield 105, 3) := by decide +kernel
theorem dX4_alter_43 : decode cX4_alter 43 = .ok (.iload_n 1, 1) := by decide +kernel
theorem dX4_alter_44 : decode cX4_alter 44 = .ok (.aaload, 1) := by decide +kernel
theorem dX4_alter_45 : decode cX4_alter 45 = .ok (.iload_n 2, 1) := by decide +kernel
theorem dX4_alter_46 : decode cX4_alter 46 = .ok (.iload_n 3, 1) := by decide +kernel
theorem dX4_alter_47 : decode cX4_alter 47 = .ok (.invokevirtual 143, 3) := by decide +kernel
theorem dX4_alter_50 : decode cX4_alter 50 = .ok (.iload 4, 2) := by decide +kernel
theorem dX4_alter_52 : decode cX4_alter 52 = .ok (.ireturn, 1) := by decide +kernel
theorem dX4_every_0 : decode cX4_every 0 = .ok (.iload_n 1, 1) := by decide +kernel
theorem dX4_every_1 : decode cX4_every 1 = .ok (.iconst 1, 1) := by decide +kernel
theorem dX4_every_2 : decode cX4_every 2 = .ok (.iconst 4, 1) := by decide +kernel
theorem dX4_every_3 : decode cX4_every 3 = .ok (.invokestatic 54, 3) := by decide +kernel
theorem dX4_every_6 : decode cX4_every 6 = .ok (.ifCond .ne 5, 3) := by decide +kernel
theorem dX4_every_9 : decode cX4_every 9 = .ok (.iconst (-1), 1) := by decide +kernel
theorem dX4_every_10 : decode cX4_every 10 = .ok (.ireturn, 1) := by decide +kernel
theorem dX4_every_11 : decode cX4_every 11 = .ok (.aload_n 0, 1) := by decide +kernel
theorem dX4_every_12 : decode cX4_every 12 = .ok (.getfield 16, 3) := by decide +kernel
theorem dX4_every_15 : decode cX4_every 15 = .ok (.getfield 88, 3) := by decide +kernel
theorem dX4_every_18 : decode cX4_every 18 = .ok (.istore_n 2, 1) := by decide +kernel
theorem dX4_every_19 : decode cX4_every 19 = .ok (.aload_n 0, 1) := by decide +kernel
theorem dX4_every_20 : decode cX4_every 20 = .ok (.getfield 16, 3) := by decide +kernel
theorem dX4_every_23 : decode cX4_every 23 = .ok (.iload_n 1, 1) := by decide +kernel
theorem dX4_every_24 : decode cX4_every 24 = .ok (.putfield 88, 3) := by decide +kernel
theorem dX4_every_27 : decode cX4_every 27 = .ok (.iload_n 2, 1) := by decide +kernel
theorem dX4_every_28 : decode cX4_every 28 = .ok (.ireturn, 1) := by decide +kernel
theorem dX4_strike_0 : decode cX4_strike 0 = .ok (.aload_n 0, 1) := by decide +kernel
theorem dX4_strike_1 : decode cX4_strike 1 = .ok (.iload_n 1, 1) := by decide +kernel
theorem dX4_strike_2 : decode cX4_strike 2 = .ok (.iload_n 2, 1) := by decide +kernel
theorem dX4_strike_3 : decode cX4_strike 3 = .ok (.iload_n 3, 1) := by decide +kernel
theorem dX4_strike_4 : decode cX4_strike 4 = .ok (.invokevirtual 147, 3) := by decide +kernel
theorem dX4_strike_7 : decode cX4_strike 7 = .ok (.ireturn, 1) := by decide +kernel
theorem dX4_drop_0 : decode cX4_drop 0 = .ok (.iload_n 1, 1) := by decide +kernel
theorem dX4_drop_1 : decode cX4_drop 1 = .ok (.iconst 0, 1) := by decide +kernel
theorem dX4_drop_2 : decode cX4_drop 2 = .ok (.aload_n 0, 1) := by decide +kernel
theorem dX4_drop_3 : decode cX4_drop 3 = .ok (.getfield 16, 3) := by decide +kernel
theorem dX4_drop_6 : decode cX4_drop 6 = .ok (.getfield 82, 3) := by decide +kernel
theorem dX4_drop_9 : decode cX4_drop 9 = .ok (.invokestatic 54, 3) := by decide +kernel
theorem dX4_drop_12 : decode cX4_drop 12 = .ok (.ifCond .ne 5, 3) := by decide +kernel
theorem dX4_drop_15 : decode cX4_drop 15 = .ok (.iconst (-1), 1) := by decide +kernel
theorem dX4_drop_16 : decode cX4_drop 16 = .ok (.ireturn, 1) := by decide +kernel
theorem dX4_drop_17 : decode cX4_drop 17 = .ok (.aload_n 0, 1) := by decide +kernel
theorem dX4_drop_18 : decode cX4_drop 18 = .ok (.getfield 16, 3) := by decide +kernel
theorem dX4_drop_21 : decode cX4_drop 21 = .ok (.getfield 82, 3) := by decide +kernel
theorem dX4_drop_24 : decode cX4_drop 24 = .ok (.istore_n 2, 1) := by decide +kernel
theorem dX4_drop_25 : decode cX4_drop 25 = .ok (.aload_n 0, 1) := by decide +kernel
theorem dX4_drop_26 : decode cX4_drop 26 = .ok (.getfield 16, 3) := by decide +kernel
theorem dX4_drop_29 : decode cX4_drop 29 = .ok (.iload_n 1, 1) := by decide +kernel
theorem dX4_drop_30 : decode cX4_drop 30 = .ok (.putfield 82, 3) := by decide +kernel
theorem dX4_drop_33 : decode cX4_drop 33 = .ok (.iload_n 2, 1) := by decide +kernel
theorem dX4_drop_34 : decode cX4_drop 34 = .ok (.ireturn, 1) := by decide +kernel
theorem dX4_putPress_0 : decode cX4_putPress 0 = .ok (.iload_n 1, 1) := by decide +kernel
theorem dX4_putPress_1 : decode cX4_putPress 1 = .ok (.iconst 0, 1) := by decide +kernel
theorem dX4_putPress_2 : decode cX4_putPress 2 = .ok (.bipush 99, 2) := by decide +kernel
theorem dX4_putPress_4 : decode cX4_putPress 4 = .ok (.invokestatic 54, 3) := by decide +kernel
theorem dX4_putPress_7 : decode cX4_putPress 7 = .ok (.ifCond .eq 23, 3) := by decide +kernel
theorem dX4_putPress_10 : decode cX4_putPress 10 = .ok (.aload_n 0, 1) := by decide +kernel
theorem dX4_putPress_11 : decode cX4_putPress 11 = .ok (.getfield 16, 3) := by decide +kernel
theorem dX4_putPress_14 : decode cX4_putPress 14 = .ok (.iload_n 2, 1) := by decide +kernel
theorem dX4_putPress_15 : decode cX4_putPress 15 = .ok (.invokevirtual 101, 3) := by decide +kernel
theorem dX4_putPress_18 : decode cX4_putPress 18 = .ok (.ifCond .eq 12, 3) := by decide +kernel
theorem dX4_putPress_21 : decode cX4_putPress 21 = .ok (.iload_n 3, 1) := by decide +kernel
theorem dX4_putPress_22 : decode cX4_putPress 22 = .ok (.iconst 0, 1) := by decide +kernel
theorem dX4_putPress_23 : decode cX4_putPress 23 = .ok (.iconst 1, 1) := by decide +kernel
theorem dX4_putPress_24 : decode cX4_putPress 24 = .ok (.invokestatic 54, 3) := by decide +kernel
theorem dX4_putPress_27 : decode cX4_putPress 27 = .ok (.ifCond .ne 5, 3) := by decide +kernel
theorem dX4_putPress_30 : decode cX4_putPress 30 = .ok (.iconst (-1), 1) := by decide +kernel
theorem dX4_putPress_31 : decode cX4_putPress 31 = .ok (.ireturn, 1) := by decide +kernel
theorem dX4_putPress_32 : decode cX4_putPress 32 = .ok (.aload_n 0, 1) := by decide +kernel
theorem dX4_putPress_33 : decode cX4_putPress 33 = .ok (.getfield 16, 3) := by decide +kernel
theorem dX4_putPress_36 : decode cX4_putPress 36 = .ok (.getfield 82, 3) := by decide +kernel
theorem dX4_putPress_39 : decode cX4_putPress 39 = .ok (.bipush 8, 2) := by decide +kernel
theorem dX4_putPress_41 : decode cX4_putPress 41 = .ok (.if_icmp .lt 6, 3) := by decide +kernel
theorem dX4_putPress_44 : decode cX4_putPress 44 = .ok (.bipush (-3), 2) := by decide +kernel
theorem dX4_putPress_46 : decode cX4_putPress 46 = .ok (.ireturn, 1) := by decide +kernel
theorem dX4_putPress_47 : decode cX4_putPress 47 = .ok (.aload_n 0, 1) := by decide +kernel
theorem dX4_putPress_48 : decode cX4_putPress 48 = .ok (.getfield 16, 3) := by decide +kernel
theorem dX4_putPress_51 : decode cX4_putPress 51 = .ok (.iload_n 1, 1) := by decide +kernel
theorem dX4_putPress_52 : decode cX4_putPress 52 = .ok (.iload_n 2, 1) := by decide +kernel
theorem dX4_putPress_53 : decode cX4_putPress 53 = .ok (.iload_n 3, 1) := by decide +kernel
theorem dX4_putPress_54 : decode cX4_putPress 54 = .ok (.invokevirtual 151, 3) := by decide +kernel
theorem dX4_putPress_57 : decode cX4_putPress 57 = .ok (.aload_n 0, 1) := by decide +kernel
theorem dX4_putPress_58 : decode cX4_putPress 58 = .ok (.getfield 16, 3) := by decide +kernel
theorem dX4_putPress_61 : decode cX4_putPress 61 = .ok (.getfield 82, 3) := by decide +kernel
theorem dX4_putPress_64 : decode cX4_putPress 64 = .ok (.ireturn, 1) := by decide +kernel
theorem dX4_ticks_0 : decode cX4_ticks 0 = .ok (.iload_n 1, 1) := by decide +kernel
theorem dX4_ticks_1 : decode cX4_ticks 1 = .ok (.iconst 0, 1) := by decide +kernel
theorem dX4_ticks_2 : decode cX4_ticks 2 = .ok (.bipush 100, 2) := by decide +kernel
theorem dX4_ticks_4 : decode cX4_ticks 4 = .ok (.invokestatic 54, 3) := by decide +kernel
theorem dX4_ticks_7 : decode cX4_ticks 7 = .ok (.ifCond .ne 5, 3) := by decide +kernel
theorem dX4_ticks_10 : decode cX4_ticks 10 = .ok (.iconst (-1), 1) := by decide +kernel
theorem dX4_ticks_11 : decode cX4_ticks 11 = .ok (.ireturn, 1) := by decide +kernel
theorem dX4_ticks_12 : decode cX4_ticks 12 = .ok (.aload_n 0, 1) := by decide +kernel
theorem dX4_ticks_13 : decode cX4_ticks 13 = .ok (.getfield 16, 3) := by decide +kernel
theorem dX4_ticks_16 : decode cX4_ticks 16 = .ok (.getfield 85, 3) := by decide +kernel
theorem dX4_ticks_19 : decode cX4_ticks 19 = .ok (.iload_n 1, 1) := by decide +kernel
theorem dX4_ticks_20 : decode cX4_ticks 20 = .ok (.iadd, 1) := by decide +kernel
theorem dX4_ticks_21 : decode cX4_ticks 21 = .ok (.sipush 999, 3) := by decide +kernel
theorem dX4_ticks_24 : decode cX4_ticks 24 = .ok (.if_icmp .le 6, 3) := by decide +kernel
theorem dX4_ticks_27 : decode cX4_ticks 27 = .ok (.bipush (-3), 2) := by decide +kernel
theorem dX4_ticks_29 : decode cX4_ticks 29 = .ok (.ireturn, 1) := by decide +kernel
theorem dX4_ticks_30 : decode cX4_ticks 30 = .ok (.aload_n 0, 1) := by decide +kernel
theorem dX4_ticks_31 : decode cX4_ticks 31 = .ok (.getfield 16, 3) := by decide +kernel
theorem dX4_ticks_34 : decode cX4_ticks 34 = .ok (.invokevirtual 155, 3) := by decide +kernel
theorem dX4_ticks_37 : decode cX4_ticks 37 = .ok (.aload_n 0, 1) := by decide +kernel
theorem dX4_ticks_38 : decode cX4_ticks 38 = .ok (.getfield 16, 3) := by decide +kernel
theorem dX4_ticks_41 : decode cX4_ticks 41 = .ok (.iload_n 1, 1) := by decide +kernel
theorem dX4_ticks_42 : decode cX4_ticks 42 = .ok (.invokevirtual 158, 3) := by decide +kernel
theorem dX4_ticks_45 : decode cX4_ticks 45 = .ok (.aload_n 0, 1) := by decide +kernel
theorem dX4_ticks_46 : decode cX4_ticks 46 = .ok (.getfield 16, 3) := by decide +kernel
theorem dX4_ticks_49 : decode cX4_ticks 49 = .ok (.invokevirtual 162, 3) := by decide +kernel
theorem dX4_ticks_52 : decode cX4_ticks 52 = .ok (.ireturn, 1) := by decide +kernel
theorem dX4_runs_0 : decode cX4_runs 0 = .ok (.iload_n 1, 1) := by decide +kernel
theorem dX4_runs_1 : decode cX4_runs 1 = .ok (.invokestatic 165, 3) := by decide +kernel
theorem dX4_runs_4 : decode cX4_runs 4 = .ok (.ifCond .eq 12, 3) := by decide +kernel
theorem dX4_runs_7 : decode cX4_runs 7 = .ok (.iload_n 2, 1) := by decide +kernel
theorem dX4_runs_8 : decode cX4_runs 8 = .ok (.iconst 0, 1) := by decide +kernel
theorem dX4_runs_9 : decode cX4_runs 9 = .ok (.iconst 3, 1) := by decide +kernel
theorem dX4_runs_10 : decode cX4_runs 10 = .ok (.invokestatic 54, 3) := by decide +kernel
theorem dX4_runs_13 : decode cX4_runs 13 = .ok (.ifCond .ne 5, 3) := by decide +kernel
theorem dX4_runs_16 : decode cX4_runs 16 = .ok (.iconst (-1), 1) := by decide +kernel
theorem dX4_runs_17 : decode cX4_runs 17 = .ok (.ireturn, 1) := by decide +kernel
theorem dX4_runs_18 : decode cX4_runs 18 = .ok (.aload_n 0, 1) := by decide +kernel
theorem dX4_runs_19 : decode cX4_runs 19 = .ok (.invokevirtual 168, 3) := by decide +kernel
theorem dX4_runs_22 : decode cX4_runs 22 = .ok (.astore_n 3, 1) := by decide +kernel
theorem dX4_runs_23 : decode cX4_runs 23 = .ok (.iload_n 2, 1) := by decide +kernel
theorem dX4_runs_24 : decode cX4_runs 24 = .ok (.iconst 3, 1) := by decide +kernel
theorem dX4_runs_25 : decode cX4_runs 25 = .ok (.if_icmp .ne 9, 3) := by decide +kernel
theorem dX4_runs_28 : decode cX4_runs 28 = .ok (.aload_n 3, 1) := by decide +kernel
theorem dX4_runs_29 : decode cX4_runs 29 = .ok (.iload_n 1, 1) := by decide +kernel
theorem dX4_runs_30 : decode cX4_runs 30 = .ok (.invokevirtual 172, 3) := by decide +kernel
theorem dX4_runs_33 : decode cX4_runs 33 = .ok (.ireturn, 1) := by decide +kernel
theorem dX4_runs_34 : decode cX4_runs 34 = .ok (.aload_n 3, 1) := by decide +kernel
theorem dX4_runs_35 : decode cX4_runs 35 = .ok (.iload_n 1, 1) := by decide +kernel
theorem dX4_runs_36 : decode cX4_runs 36 = .ok (.invokevirtual 158, 3) := by decide +kernel
theorem dX4_runs_39 : decode cX4_runs 39 = .ok (.iload_n 2, 1) := by decide +kernel
theorem dX4_runs_40 : decode cX4_runs 40 = .ok (.lookupswitch 38 #[(0, 28), (1, 33)], 28) := by decide +kernel
theorem dX4_runs_68 : decode cX4_runs 68 = .ok (.aload_n 3, 1) := by decide +kernel
theorem dX4_runs_69 : decode cX4_runs 69 = .ok (.invokevirtual 162, 3) := by decide +kernel
theorem dX4_runs_72 : decode cX4_runs 72 = .ok (.ireturn, 1) := by decide +kernel
theorem dX4_runs_73 : decode cX4_runs 73 = .ok (.aload_n 3, 1) := by decide +kernel
theorem dX4_runs_74 : decode cX4_runs 74 = .ok (.invokevirtual 91, 3) := by decide +kernel
theorem dX4_runs_77 : decode cX4_runs 77 = .ok (.ireturn, 1) := by decide +kernel
theorem dX4_runs_78 : decode cX4_runs 78 = .ok (.aload_n 3, 1) := by decide +kernel
theorem dX4_runs_79 : decode cX4_runs 79 = .ok (.invokevirtual 175, 3) := by decide +kernel
theorem dX4_runs_82 : decode cX4_runs 82 = .ok (.ireturn, 1) := by decide +kernel
theorem dX4_ahead_0 : decode cX4_ahead 0 = .ok (.aload_n 0, 1) := by decide +kernel
theorem dX4_ahead_1 : decode cX4_ahead 1 = .ok (.getfield 16, 3) := by decide +kernel
theorem dX4_ahead_4 : decode cX4_ahead 4 = .ok (.iload_n 1, 1) := by decide +kernel
theorem dX4_ahead_5 : decode cX4_ahead 5 = .ok (.invokevirtual 101, 3) := by decide +kernel
theorem dX4_ahead_8 : decode cX4_ahead 8 = .ok (.ifCond .eq 19, 3) := by decide +kernel
theorem dX4_ahead_11 : decode cX4_ahead 11 = .ok (.iload_n 2, 1) := by decide +kernel
theorem dX4_ahead_12 : decode cX4_ahead 12 = .ok (.invokestatic 165, 3) := by decide +kernel
theorem dX4_ahead_15 : decode cX4_ahead 15 = .ok (.ifCond .eq 12, 3) := by decide +kernel
theorem dX4_ahead_18 : decode cX4_ahead 18 = .ok (.iload_n 3, 1) := by decide +kernel
theorem dX4_ahead_19 : decode cX4_ahead 19 = .ok (.iconst 0, 1) := by decide +kernel
theorem dX4_ahead_20 : decode cX4_ahead 20 = .ok (.iconst 1, 1) := by decide +kernel
theorem dX4_ahead_21 : decode cX4_ahead 21 = .ok (.invokestatic 54, 3) := by decide +kernel
theorem dX4_ahead_24 : decode cX4_ahead 24 = .ok (.ifCond .ne 5, 3) := by decide +kernel
theorem dX4_ahead_27 : decode cX4_ahead 27 = .ok (.iconst (-1), 1) := by decide +kernel
theorem dX4_ahead_28 : decode cX4_ahead 28 = .ok (.ireturn, 1) := by decide +kernel
theorem dX4_ahead_29 : decode cX4_ahead 29 = .ok (.aload_n 0, 1) := by decide +kernel
theorem dX4_ahead_30 : decode cX4_ahead 30 = .ok (.invokevirtual 168, 3) := by decide +kernel
theorem dX4_ahead_33 : decode cX4_ahead 33 = .ok (.astore 4, 2) := by decide +kernel
theorem dX4_ahead_35 : decode cX4_ahead 35 = .ok (.aload 4, 2) := by decide +kernel
theorem dX4_ahead_37 : decode cX4_ahead 37 = .ok (.iload_n 2, 1) := by decide +kernel
theorem dX4_ahead_38 : decode cX4_ahead 38 = .ok (.invokevirtual 158, 3) := by decide +kernel
theorem dX4_ahead_41 : decode cX4_ahead 41 = .ok (.iload_n 3, 1) := by decide +kernel
theorem dX4_ahead_42 : decode cX4_ahead 42 = .ok (.ifCond .ne 16, 3) := by decide +kernel
theorem dX4_ahead_45 : decode cX4_ahead 45 = .ok (.aload 4, 2) := by decide +kernel
theorem dX4_ahead_47 : decode cX4_ahead 47 = .ok (.getfield 105, 3) := by decide +kernel
theorem dX4_ahead_50 : decode cX4_ahead 50 = .ok (.iload_n 1, 1) := by decide +kernel
theorem dX4_ahead_51 : decode cX4_ahead 51 = .ok (.aaload, 1) := by decide +kernel
theorem dX4_ahead_52 : decode cX4_ahead 52 = .ok (.getfield 114, 3) := by decide +kernel
theorem dX4_ahead_55 : decode cX4_ahead 55 = .ok (.goto 13, 3) := by decide +kernel
theorem dX4_ahead_58 : decode cX4_ahead 58 = .ok (.aload 4, 2) := by decide +kernel
theorem dX4_ahead_60 : decode cX4_ahead 60 = .ok (.getfield 105, 3) := by decide +kernel
theorem dX4_ahead_63 : decode cX4_ahead 63 = .ok (.iload_n 1, 1) := by decide +kernel
theorem dX4_ahead_64 : decode cX4_ahead 64 = .ok (.aaload, 1) := by decide +kernel
theorem dX4_ahead_65 : decode cX4_ahead 65 = .ok (.getfield 178, 3) := by decide +kernel
theorem dX4_ahead_68 : decode cX4_ahead 68 = .ok (.ireturn, 1) := by decide +kernel
theorem dX4_when_0 : decode cX4_when 0 = .ok (.aload_n 0, 1) := by decide +kernel
theorem dX4_when_1 : decode cX4_when 1 = .ok (.getfield 16, 3) := by decide +kernel
theorem dX4_when_4 : decode cX4_when 4 = .ok (.iload_n 1, 1) := by decide +kernel
theorem dX4_when_5 : decode cX4_when 5 = .ok (.invokevirtual 101, 3) := by decide +kernel
theorem dX4_when_8 : decode cX4_when 8 = .ok (.ifCond .eq 12, 3) := by decide +kernel
theorem dX4_when_11 : decode cX4_when 11 = .ok (.iload_n 2, 1) := by decide +kernel
theorem dX4_when_12 : decode cX4_when 12 = .ok (.iconst 0, 1) := by decide +kernel
theorem dX4_when_13 : decode cX4_when 13 = .ok (.iconst 1, 1) := by decide +kernel
theorem dX4_when_14 : decode cX4_when 14 = .ok (.invokestatic 54, 3) := by decide +kernel
theorem dX4_when_17 : decode cX4_when 17 = .ok (.ifCond .ne 5, 3) := by decide +kernel
theorem dX4_when_20 : decode cX4_when 20 = .ok (.iconst (-1), 1) := by decide +kernel
theorem dX4_when_21 : decode cX4_when 21 = .ok (.ireturn, 1) := by decide +kernel
theorem dX4_when_22 : decode cX4_when 22 = .ok (.aload_n 0, 1) := by decide +kernel
theorem dX4_when_23 : decode cX4_when 23 = .ok (.invokevirtual 168, 3) := by decide +kernel
theorem dX4_when_26 : decode cX4_when 26 = .ok (.astore_n 3, 1) := by decide +kernel
theorem dX4_when_27 : decode cX4_when 27 = .ok (.iconst 0, 1) := by decide +kernel
theorem dX4_when_28 : decode cX4_when 28 = .ok (.istore 4, 2) := by decide +kernel
theorem dX4_when_30 : decode cX4_when 30 = .ok (.iload 4, 2) := by decide +kernel
theorem dX4_when_32 : decode cX4_when 32 = .ok (.sipush 200, 3) := by decide +kernel
theorem dX4_when_35 : decode cX4_when 35 = .ok (.if_icmp .gt 30, 3) := by decide +kernel
theorem dX4_when_38 : decode cX4_when 38 = .ok (.aload_n 3, 1) := by decide +kernel
theorem dX4_when_39 : decode cX4_when 39 = .ok (.getfield 105, 3) := by decide +kernel
theorem dX4_when_42 : decode cX4_when 42 = .ok (.iload_n 1, 1) := by decide +kernel
theorem dX4_when_43 : decode cX4_when 43 = .ok (.aaload, 1) := by decide +kernel
theorem dX4_when_44 : decode cX4_when 44 = .ok (.getfield 114, 3) := by decide +kernel
theorem dX4_when_47 : decode cX4_when 47 = .ok (.iload_n 2, 1) := by decide +kernel
theorem dX4_when_48 : decode cX4_when 48 = .ok (.if_icmp .ne 6, 3) := by decide +kernel
theorem dX4_when_51 : decode cX4_when 51 = .ok (.iload 4, 2) := by decide +kernel
theorem dX4_when_53 : decode cX4_when 53 = .ok (.ireturn, 1) := by decide +kernel
theorem dX4_when_54 : decode cX4_when 54 = .ok (.aload_n 3, 1) := by decide +kernel
theorem dX4_when_55 : decode cX4_when 55 = .ok (.iconst 1, 1) := by decide +kernel
theorem dX4_when_56 : decode cX4_when 56 = .ok (.invokevirtual 158, 3) := by decide +kernel
theorem dX4_when_59 : decode cX4_when 59 = .ok (.iinc 4 1, 3) := by decide +kernel
theorem dX4_when_62 : decode cX4_when 62 = .ok (.goto (-32), 3) := by decide +kernel
theorem dX4_when_65 : decode cX4_when 65 = .ok (.bipush (-4), 2) := by decide +kernel
theorem dX4_when_67 : decode cX4_when 67 = .ok (.ireturn, 1) := by decide +kernel
theorem dX4_due_0 : decode cX4_due 0 = .ok (.iload_n 1, 1) := by decide +kernel
theorem dX4_due_1 : decode cX4_due 1 = .ok (.invokestatic 165, 3) := by decide +kernel
theorem dX4_due_4 : decode cX4_due 4 = .ok (.ifCond .eq 14, 3) := by decide +kernel
theorem dX4_due_7 : decode cX4_due 7 = .ok (.aload_n 0, 1) := by decide +kernel
theorem dX4_due_8 : decode cX4_due 8 = .ok (.getfield 16, 3) := by decide +kernel
theorem dX4_due_11 : decode cX4_due 11 = .ok (.iload_n 1, 1) := by decide +kernel
theorem dX4_due_12 : decode cX4_due 12 = .ok (.invokevirtual 181, 3) := by decide +kernel
theorem dX4_due_15 : decode cX4_due 15 = .ok (.goto 4, 3) := by decide +kernel
theorem dX4_due_18 : decode cX4_due 18 = .ok (.iconst (-1), 1) := by decide +kernel
theorem dX4_due_19 : decode cX4_due 19 = .ok (.ireturn, 1) := by decide +kernel
theorem dX4_need_0 : decode cX4_need 0 = .ok (.aload_n 0, 1) := by decide +kernel
theorem dX4_need_1 : decode cX4_need 1 = .ok (.getfield 16, 3) := by decide +kernel
theorem dX4_need_4 : decode cX4_need 4 = .ok (.iload_n 1, 1) := by decide +kernel
theorem dX4_need_5 : decode cX4_need 5 = .ok (.invokevirtual 101, 3) := by decide +kernel
theorem dX4_need_8 : decode cX4_need 8 = .ok (.ifCond .eq 20, 3) := by decide +kernel
theorem dX4_need_11 : decode cX4_need 11 = .ok (.iload_n 2, 1) := by decide +kernel
theorem dX4_need_12 : decode cX4_need 12 = .ok (.invokestatic 165, 3) := by decide +kernel
theorem dX4_need_15 : decode cX4_need 15 = .ok (.ifCond .eq 13, 3) := by decide +kernel
theorem dX4_need_18 : decode cX4_need 18 = .ok (.iload_n 3, 1) := by decide +kernel
theorem dX4_need_19 : decode cX4_need 19 = .ok (.iconst 0, 1) := by decide +kernel
theorem dX4_need_20 : decode cX4_need 20 = .ok (.bipush 20, 2) := by decide +kernel
theorem dX4_need_22 : decode cX4_need 22 = .ok (.invokestatic 54, 3) := by decide +kernel
theorem dX4_need_25 : decode cX4_need 25 = .ok (.ifCond .ne 5, 3) := by decide +kernel
theorem dX4_need_28 : decode cX4_need 28 = .ok (.iconst (-1), 1) := by decide +kernel
theorem dX4_need_29 : decode cX4_need 29 = .ok (.ireturn, 1) := by decide +kernel
theorem dX4_need_30 : decode cX4_need 30 = .ok (.iconst 1, 1) := by decide +kernel
theorem dX4_need_31 : decode cX4_need 31 = .ok (.istore 4, 2) := by decide +kernel
theorem dX4_need_33 : decode cX4_need 33 = .ok (.iload 4, 2) := by decide +kernel
theorem dX4_need_35 : decode cX4_need 35 = .ok (.bipush 9, 2) := by decide +kernel
theorem dX4_need_37 : decode cX4_need 37 = .ok (.if_icmp .gt 25, 3) := by decide +kernel
theorem dX4_need_40 : decode cX4_need 40 = .ok (.aload_n 0, 1) := by decide +kernel
theorem dX4_need_41 : decode cX4_need 41 = .ok (.iload_n 1, 1) := by decide +kernel
theorem dX4_need_42 : decode cX4_need 42 = .ok (.iconst 2, 1) := by decide +kernel
theorem dX4_need_43 : decode cX4_need 43 = .ok (.iload 4, 2) := by decide +kernel
theorem dX4_need_45 : decode cX4_need 45 = .ok (.iload_n 2, 1) := by decide +kernel
theorem dX4_need_46 : decode cX4_need 46 = .ok (.invokevirtual 184, 3) := by decide +kernel
theorem dX4_need_49 : decode cX4_need 49 = .ok (.iload_n 3, 1) := by decide +kernel
theorem dX4_need_50 : decode cX4_need 50 = .ok (.if_icmp .ne 6, 3) := by decide +kernel
theorem dX4_need_53 : decode cX4_need 53 = .ok (.iload 4, 2) := by decide +kernel
theorem dX4_need_55 : decode cX4_need 55 = .ok (.ireturn, 1) := by decide +kernel
theorem dX4_need_56 : decode cX4_need 56 = .ok (.iinc 4 1, 3) := by decide +kernel
theorem dX4_need_59 : decode cX4_need 59 = .ok (.goto (-26), 3) := by decide +kernel
theorem dX4_need_62 : decode cX4_need 62 = .ok (.bipush (-4), 2) := by decide +kernel
theorem dX4_need_64 : decode cX4_need 64 = .ok (.ireturn, 1) := by decide +kernel
theorem dX4_bear_0 : decode cX4_bear 0 = .ok (.aload_n 0, 1) := by decide +kernel
theorem dX4_bear_1 : decode cX4_bear 1 = .ok (.getfield 16, 3) := by decide +kernel
theorem dX4_bear_4 : decode cX4_bear 4 = .ok (.iload_n 1, 1) := by decide +kernel
theorem dX4_bear_5 : decode cX4_bear 5 = .ok (.invokevirtual 101, 3) := by decide +kernel
theorem dX4_bear_8 : decode cX4_bear 8 = .ok (.ifCond .eq 20, 3) := by decide +kernel
theorem dX4_bear_11 : decode cX4_bear 11 = .ok (.iload_n 2, 1) := by decide +kernel
theorem dX4_bear_12 : decode cX4_bear 12 = .ok (.invokestatic 165, 3) := by decide +kernel
theorem dX4_bear_15 : decode cX4_bear 15 = .ok (.ifCond .eq 13, 3) := by decide +kernel
theorem dX4_bear_18 : decode cX4_bear 18 = .ok (.iload_n 3, 1) := by decide +kernel
theorem dX4_bear_19 : decode cX4_bear 19 = .ok (.iconst 0, 1) := by decide +kernel
theorem dX4_bear_20 : decode cX4_bear 20 = .ok (.bipush 20, 2) := by decide +kernel
theorem dX4_bear_22 : decode cX4_bear 22 = .ok (.invokestatic 54, 3) := by decide +kernel
theorem dX4_bear_25 : decode cX4_bear 25 = .ok (.ifCond .ne 5, 3) := by decide +kernel
theorem dX4_bear_28 : decode cX4_bear 28 = .ok (.iconst (-1), 1) := by decide +kernel
theorem dX4_bear_29 : decode cX4_bear 29 = .ok (.ireturn, 1) := by decide +kernel
theorem dX4_bear_30 : decode cX4_bear 30 = .ok (.bipush 9, 2) := by decide +kernel
theorem dX4_bear_32 : decode cX4_bear 32 = .ok (.istore 4, 2) := by decide +kernel
theorem dX4_bear_34 : decode cX4_bear 34 = .ok (.iload 4, 2) := by decide +kernel
theorem dX4_bear_36 : decode cX4_bear 36 = .ok (.ifCond .lt 25, 3) := by decide +kernel
theorem dX4_bear_39 : decode cX4_bear 39 = .ok (.aload_n 0, 1) := by decide +kernel
theorem dX4_bear_40 : decode cX4_bear 40 = .ok (.iload_n 1, 1) := by decide +kernel
theorem dX4_bear_41 : decode cX4_bear 41 = .ok (.iconst 0, 1) := by decide +kernel
theorem dX4_bear_42 : decode cX4_bear 42 = .ok (.iload 4, 2) := by decide +kernel
theorem dX4_bear_44 : decode cX4_bear 44 = .ok (.iload_n 2, 1) := by decide +kernel
theorem dX4_bear_45 : decode cX4_bear 45 = .ok (.invokevirtual 184, 3) := by decide +kernel
theorem dX4_bear_48 : decode cX4_bear 48 = .ok (.iload_n 3, 1) := by decide +kernel
theorem dX4_bear_49 : decode cX4_bear 49 = .ok (.if_icmp .ne 6, 3) := by decide +kernel
theorem dX4_bear_52 : decode cX4_bear 52 = .ok (.iload 4, 2) := by decide +kernel
theorem dX4_bear_54 : decode cX4_bear 54 = .ok (.ireturn, 1) := by decide +kernel
theorem dX4_bear_55 : decode cX4_bear 55 = .ok (.iinc 4 (-1), 3) := by decide +kernel
theorem dX4_bear_58 : decode cX4_bear 58 = .ok (.goto (-24), 3) := by decide +kernel
theorem dX4_bear_61 : decode cX4_bear 61 = .ok (.bipush (-4), 2) := by decide +kernel
theorem dX4_bear_63 : decode cX4_bear 63 = .ok (.ireturn, 1) := by decide +kernel
theorem dX4_kind_0 : decode cX4_kind 0 = .ok (.aload_n 0, 1) := by decide +kernel
theorem dX4_kind_1 : decode cX4_kind 1 = .ok (.getfield 16, 3) := by decide +kernel
theorem dX4_kind_4 : decode cX4_kind 4 = .ok (.iload_n 1, 1) := by decide +kernel
theorem dX4_kind_5 : decode cX4_kind 5 = .ok (.invokevirtual 101, 3) := by decide +kernel
theorem dX4_kind_8 : decode cX4_kind 8 = .ok (.ifCond .eq 19, 3) := by decide +kernel
theorem dX4_kind_11 : decode cX4_kind 11 = .ok (.iload_n 2, 1) := by decide +kernel
theorem dX4_kind_12 : decode cX4_kind 12 = .ok (.invokestatic 165, 3) := by decide +kernel
theorem dX4_kind_15 : decode cX4_kind 15 = .ok (.ifCond .eq 12, 3) := by decide +kernel
theorem dX4_kind_18 : decode cX4_kind 18 = .ok (.iload_n 3, 1) := by decide +kernel
theorem dX4_kind_19 : decode cX4_kind 19 = .ok (.iconst 0, 1) := by decide +kernel
theorem dX4_kind_20 : decode cX4_kind 20 = .ok (.iconst 1, 1) := by decide +kernel
theorem dX4_kind_21 : decode cX4_kind 21 = .ok (.invokestatic 54, 3) := by decide +kernel
theorem dX4_kind_24 : decode cX4_kind 24 = .ok (.ifCond .ne 5, 3) := by decide +kernel
theorem dX4_kind_27 : decode cX4_kind 27 = .ok (.iconst (-1), 1) := by decide +kernel
theorem dX4_kind_28 : decode cX4_kind 28 = .ok (.ireturn, 1) := by decide +kernel
theorem dX4_kind_29 : decode cX4_kind 29 = .ok (.iconst 0, 1) := by decide +kernel
theorem dX4_kind_30 : decode cX4_kind 30 = .ok (.istore 4, 2) := by decide +kernel
theorem dX4_kind_32 : decode cX4_kind 32 = .ok (.ldc 188, 2) := by decide +kernel
theorem dX4_kind_34 : decode cX4_kind 34 = .ok (.istore 5, 2) := by decide +kernel
theorem dX4_kind_36 : decode cX4_kind 36 = .ok (.iconst 0, 1) := by decide +kernel
theorem dX4_kind_37 : decode cX4_kind 37 = .ok (.istore 6, 2) := by decide +kernel
theorem dX4_kind_39 : decode cX4_kind 39 = .ok (.iload 6, 2) := by decide +kernel
theorem dX4_kind_41 : decode cX4_kind 41 = .ok (.iconst 3, 1) := by decide +kernel
theorem dX4_kind_42 : decode cX4_kind 42 = .ok (.if_icmp .gt 38, 3) := by decide +kernel
theorem dX4_kind_45 : decode cX4_kind 45 = .ok (.aload_n 0, 1) := by decide +kernel
theorem dX4_kind_46 : decode cX4_kind 46 = .ok (.iload_n 1, 1) := by decide +kernel
theorem dX4_kind_47 : decode cX4_kind 47 = .ok (.iconst 1, 1) := by decide +kernel
theorem dX4_kind_48 : decode cX4_kind 48 = .ok (.iload 6, 2) := by decide +kernel
theorem dX4_kind_50 : decode cX4_kind 50 = .ok (.invokevirtual 189, 3) := by decide +kernel
theorem dX4_kind_53 : decode cX4_kind 53 = .ok (.iload_n 2, 1) := by decide +kernel
theorem dX4_kind_54 : decode cX4_kind 54 = .ok (.invokestatic 193, 3) := by decide +kernel
theorem dX4_kind_57 : decode cX4_kind 57 = .ok (.istore 7, 2) := by decide +kernel
theorem dX4_kind_59 : decode cX4_kind 59 = .ok (.iload 7, 2) := by decide +kernel
theorem dX4_kind_61 : decode cX4_kind 61 = .ok (.iload 5, 2) := by decide +kernel
theorem dX4_kind_63 : decode cX4_kind 63 = .ok (.if_icmp .ge 11, 3) := by decide +kernel
theorem dX4_kind_66 : decode cX4_kind 66 = .ok (.iload 7, 2) := by decide +kernel
theorem dX4_kind_68 : decode cX4_kind 68 = .ok (.istore 5, 2) := by decide +kernel
theorem dX4_kind_70 : decode cX4_kind 70 = .ok (.iload 6, 2) := by decide +kernel
theorem dX4_kind_72 : decode cX4_kind 72 = .ok (.istore 4, 2) := by decide +kernel
theorem dX4_kind_74 : decode cX4_kind 74 = .ok (.iinc 6 1, 3) := by decide +kernel
theorem dX4_kind_77 : decode cX4_kind 77 = .ok (.goto (-38), 3) := by decide +kernel
theorem dX4_kind_80 : decode cX4_kind 80 = .ok (.iload_n 3, 1) := by decide +kernel
theorem dX4_kind_81 : decode cX4_kind 81 = .ok (.ifCond .ne 8, 3) := by decide +kernel
theorem dX4_kind_84 : decode cX4_kind 84 = .ok (.iload 4, 2) := by decide +kernel
theorem dX4_kind_86 : decode cX4_kind 86 = .ok (.goto 5, 3) := by decide +kernel
theorem dX4_kind_89 : decode cX4_kind 89 = .ok (.iload 5, 2) := by decide +kernel
theorem dX4_kind_91 : decode cX4_kind 91 = .ok (.ireturn, 1) := by decide +kernel
theorem dX4_slow_0 : decode cX4_slow 0 = .ok (.iload_n 1, 1) := by decide +kernel
theorem dX4_slow_1 : decode cX4_slow 1 = .ok (.invokestatic 165, 3) := by decide +kernel
theorem dX4_slow_4 : decode cX4_slow 4 = .ok (.ifCond .eq 12, 3) := by decide +kernel
theorem dX4_slow_7 : decode cX4_slow 7 = .ok (.iload_n 2, 1) := by decide +kernel
theorem dX4_slow_8 : decode cX4_slow 8 = .ok (.iconst 0, 1) := by decide +kernel
theorem dX4_slow_9 : decode cX4_slow 9 = .ok (.iconst 1, 1) := by decide +kernel
theorem dX4_slow_10 : decode cX4_slow 10 = .ok (.invokestatic 54, 3) := by decide +kernel
theorem dX4_slow_13 : decode cX4_slow 13 = .ok (.ifCond .ne 5, 3) := by decide +kernel
theorem dX4_slow_16 : decode cX4_slow 16 = .ok (.iconst (-1), 1) := by decide +kernel
theorem dX4_slow_17 : decode cX4_slow 17 = .ok (.ireturn, 1) := by decide +kernel
theorem dX4_slow_18 : decode cX4_slow 18 = .ok (.iconst 4, 1) := by decide +kernel
theorem dX4_slow_19 : decode cX4_slow 19 = .ok (.istore_n 3, 1) := by decide +kernel
theorem dX4_slow_20 : decode cX4_slow 20 = .ok (.ldc 188, 2) := by decide +kernel
theorem dX4_slow_22 : decode cX4_slow 22 = .ok (.istore 4, 2) := by decide +kernel
theorem dX4_slow_24 : decode cX4_slow 24 = .ok (.iconst 4, 1) := by decide +kernel
theorem dX4_slow_25 : decode cX4_slow 25 = .ok (.istore 5, 2) := by decide +kernel
theorem dX4_slow_27 : decode cX4_slow 27 = .ok (.iload 5, 2) := by decide +kernel
theorem dX4_slow_29 : decode cX4_slow 29 = .ok (.iconst 1, 1) := by decide +kernel
theorem dX4_slow_30 : decode cX4_slow 30 = .ok (.if_icmp .lt 44, 3) := by decide +kernel
theorem dX4_slow_33 : decode cX4_slow 33 = .ok (.aload_n 0, 1) := by decide +kernel
theorem dX4_slow_34 : decode cX4_slow 34 = .ok (.invokevirtual 168, 3) := by decide +kernel
theorem dX4_slow_37 : decode cX4_slow 37 = .ok (.astore 6, 2) := by decide +kernel
theorem dX4_slow_39 : decode cX4_slow 39 = .ok (.aload 6, 2) := by decide +kernel
theorem dX4_slow_41 : decode cX4_slow 41 = .ok (.iload 5, 2) := by decide +kernel
theorem dX4_slow_43 : decode cX4_slow 43 = .ok (.putfield 88, 3) := by decide +kernel
theorem dX4_slow_46 : decode cX4_slow 46 = .ok (.aload 6, 2) := by decide +kernel
theorem dX4_slow_48 : decode cX4_slow 48 = .ok (.iload_n 1, 1) := by decide +kernel
theorem dX4_slow_49 : decode cX4_slow 49 = .ok (.invokestatic 193, 3) := by decide +kernel
theorem dX4_slow_52 : decode cX4_slow 52 = .ok (.istore 7, 2) := by decide +kernel
theorem dX4_slow_54 : decode cX4_slow 54 = .ok (.iload 7, 2) := by decide +kernel
theorem dX4_slow_56 : decode cX4_slow 56 = .ok (.iload 4, 2) := by decide +kernel
theorem dX4_slow_58 : decode cX4_slow 58 = .ok (.if_icmp .ge 10, 3) := by decide +kernel
theorem dX4_slow_61 : decode cX4_slow 61 = .ok (.iload 7, 2) := by decide +kernel
theorem dX4_slow_63 : decode cX4_slow 63 = .ok (.istore 4, 2) := by decide +kernel
theorem dX4_slow_65 : decode cX4_slow 65 = .ok (.iload 5, 2) := by decide +kernel
theorem dX4_slow_67 : decode cX4_slow 67 = .ok (.istore_n 3, 1) := by decide +kernel
theorem dX4_slow_68 : decode cX4_slow 68 = .ok (.iinc 5 (-1), 3) := by decide +kernel
theorem dX4_slow_71 : decode cX4_slow 71 = .ok (.goto (-44), 3) := by decide +kernel
theorem dX4_slow_74 : decode cX4_slow 74 = .ok (.iload_n 2, 1) := by decide +kernel
theorem dX4_slow_75 : decode cX4_slow 75 = .ok (.ifCond .ne 7, 3) := by decide +kernel
theorem dX4_slow_78 : decode cX4_slow 78 = .ok (.iload_n 3, 1) := by decide +kernel
theorem dX4_slow_79 : decode cX4_slow 79 = .ok (.goto 5, 3) := by decide +kernel
theorem dX4_slow_82 : decode cX4_slow 82 = .ok (.iload 4, 2) := by decide +kernel
theorem dX4_slow_84 : decode cX4_slow 84 = .ok (.ireturn, 1) := by decide +kernel
theorem dX4_lose_0 : decode cX4_lose 0 = .ok (.iload_n 1, 1) := by decide +kernel
theorem dX4_lose_1 : decode cX4_lose 1 = .ok (.invokestatic 165, 3) := by decide +kernel
theorem dX4_lose_4 : decode cX4_lose 4 = .ok (.ifCond .eq 12, 3) := by decide +kernel
theorem dX4_lose_7 : decode cX4_lose 7 = .ok (.iload_n 2, 1) := by decide +kernel
theorem dX4_lose_8 : decode cX4_lose 8 = .ok (.iconst 0, 1) := by decide +kernel
theorem dX4_lose_9 : decode cX4_lose 9 = .ok (.iconst 1, 1) := by decide +kernel
theorem dX4_lose_10 : decode cX4_lose 10 = .ok (.invokestatic 54, 3) := by decide +kernel
theorem dX4_lose_13 : decode cX4_lose 13 = .ok (.ifCond .ne 5, 3) := by decide +kernel
theorem dX4_lose_16 : decode cX4_lose 16 = .ok (.iconst (-1), 1) := by decide +kernel
theorem dX4_lose_17 : decode cX4_lose 17 = .ok (.ireturn, 1) := by decide +kernel
theorem dX4_lose_18 : decode cX4_lose 18 = .ok (.bipush (-4), 2) := by decide +kernel
theorem dX4_lose_20 : decode cX4_lose 20 = .ok (.istore_n 3, 1) := by decide +kernel
theorem dX4_lose_21 : decode cX4_lose 21 = .ok (.aload_n 0, 1) := by decide +kernel
theorem dX4_lose_22 : decode cX4_lose 22 = .ok (.invokevirtual 168, 3) := by decide +kernel
theorem dX4_lose_25 : decode cX4_lose 25 = .ok (.iload_n 1, 1) := by decide +kernel
theorem dX4_lose_26 : decode cX4_lose 26 = .ok (.invokestatic 197, 3) := by decide +kernel
theorem dX4_lose_29 : decode cX4_lose 29 = .ok (.istore 4, 2) := by decide +kernel
theorem dX4_lose_31 : decode cX4_lose 31 = .ok (.iconst 0, 1) := by decide +kernel
theorem dX4_lose_32 : decode cX4_lose 32 = .ok (.istore 5, 2) := by decide +kernel
theorem dX4_lose_34 : decode cX4_lose 34 = .ok (.iload 5, 2) := by decide +kernel
theorem dX4_lose_36 : decode cX4_lose 36 = .ok (.aload_n 0, 1) := by decide +kernel
theorem dX4_lose_37 : decode cX4_lose 37 = .ok (.getfield 16, 3) := by decide +kernel
theorem dX4_lose_40 : decode cX4_lose 40 = .ok (.getfield 82, 3) := by decide +kernel
theorem dX4_lose_43 : decode cX4_lose 43 = .ok (.if_icmp .ge 44, 3) := by decide +kernel
theorem dX4_lose_46 : decode cX4_lose 46 = .ok (.aload_n 0, 1) := by decide +kernel
theorem dX4_lose_47 : decode cX4_lose 47 = .ok (.invokevirtual 168, 3) := by decide +kernel
theorem dX4_lose_50 : decode cX4_lose 50 = .ok (.astore 6, 2) := by decide +kernel
theorem dX4_lose_52 : decode cX4_lose 52 = .ok (.aload 6, 2) := by decide +kernel
theorem dX4_lose_54 : decode cX4_lose 54 = .ok (.iload 5, 2) := by decide +kernel
theorem dX4_lose_56 : decode cX4_lose 56 = .ok (.invokevirtual 200, 3) := by decide +kernel
theorem dX4_lose_59 : decode cX4_lose 59 = .ok (.aload 6, 2) := by decide +kernel
theorem dX4_lose_61 : decode cX4_lose 61 = .ok (.iload_n 1, 1) := by decide +kernel
theorem dX4_lose_62 : decode cX4_lose 62 = .ok (.invokestatic 197, 3) := by decide +kernel
theorem dX4_lose_65 : decode cX4_lose 65 = .ok (.istore 7, 2) := by decide +kernel
theorem dX4_lose_67 : decode cX4_lose 67 = .ok (.iload 7, 2) := by decide +kernel
theorem dX4_lose_69 : decode cX4_lose 69 = .ok (.iload 4, 2) := by decide +kernel
theorem dX4_lose_71 : decode cX4_lose 71 = .ok (.if_icmp .le 10, 3) := by decide +kernel
theorem dX4_lose_74 : decode cX4_lose 74 = .ok (.iload 7, 2) := by decide +kernel
theorem dX4_lose_76 : decode cX4_lose 76 = .ok (.istore 4, 2) := by decide +kernel
theorem dX4_lose_78 : decode cX4_lose 78 = .ok (.iload 5, 2) := by decide +kernel
theorem dX4_lose_80 : decode cX4_lose 80 = .ok (.istore_n 3, 1) := by decide +kernel
theorem dX4_lose_81 : decode cX4_lose 81 = .ok (.iinc 5 1, 3) := by decide +kernel
theorem dX4_lose_84 : decode cX4_lose 84 = .ok (.goto (-50), 3) := by decide +kernel
theorem dX4_lose_87 : decode cX4_lose 87 = .ok (.iload_n 3, 1) := by decide +kernel
theorem dX4_lose_88 : decode cX4_lose 88 = .ok (.bipush (-4), 2) := by decide +kernel
theorem dX4_lose_90 : decode cX4_lose 90 = .ok (.if_icmp .ne 6, 3) := by decide +kernel
theorem dX4_lose_93 : decode cX4_lose 93 = .ok (.bipush (-4), 2) := by decide +kernel
theorem dX4_lose_95 : decode cX4_lose 95 = .ok (.ireturn, 1) := by decide +kernel
theorem dX4_lose_96 : decode cX4_lose 96 = .ok (.iload_n 2, 1) := by decide +kernel
theorem dX4_lose_97 : decode cX4_lose 97 = .ok (.ifCond .ne 7, 3) := by decide +kernel
theorem dX4_lose_100 : decode cX4_lose 100 = .ok (.iload_n 3, 1) := by decide +kernel
theorem dX4_lose_101 : decode cX4_lose 101 = .ok (.goto 5, 3) := by decide +kernel
theorem dX4_lose_104 : decode cX4_lose 104 = .ok (.iload 4, 2) := by decide +kernel
theorem dX4_lose_106 : decode cX4_lose 106 = .ok (.ireturn, 1) := by decide +kernel
theorem dX4_missOf_0 : decode cX4_missOf 0 = .ok (.aload_n 0, 1) := by decide +kernel
theorem dX4_missOf_1 : decode cX4_missOf 1 = .ok (.iload_n 1, 1) := by decide +kernel
theorem dX4_missOf_2 : decode cX4_missOf 2 = .ok (.invokevirtual 181, 3) := by decide +kernel
theorem dX4_missOf_5 : decode cX4_missOf 5 = .ok (.istore_n 2, 1) := by decide +kernel
theorem dX4_missOf_6 : decode cX4_missOf 6 = .ok (.aload_n 0, 1) := by decide +kernel
theorem dX4_missOf_7 : decode cX4_missOf 7 = .ok (.iload_n 1, 1) := by decide +kernel
theorem dX4_missOf_8 : decode cX4_missOf 8 = .ok (.invokestatic 197, 3) := by decide +kernel
theorem dX4_missOf_11 : decode cX4_missOf 11 = .ok (.iload_n 2, 1) := by decide +kernel
theorem dX4_missOf_12 : decode cX4_missOf 12 = .ok (.isub, 1) := by decide +kernel
theorem dX4_missOf_13 : decode cX4_missOf 13 = .ok (.invokestatic 203, 3) := by decide +kernel
theorem dX4_missOf_16 : decode cX4_missOf 16 = .ok (.ireturn, 1) := by decide +kernel
theorem dX4_strokesIn_0 : decode cX4_strokesIn 0 = .ok (.aload_n 0, 1) := by decide +kernel
theorem dX4_strokesIn_1 : decode cX4_strokesIn 1 = .ok (.iload_n 1, 1) := by decide +kernel
theorem dX4_strokesIn_2 : decode cX4_strokesIn 2 = .ok (.invokevirtual 158, 3) := by decide +kernel
theorem dX4_strokesIn_5 : decode cX4_strokesIn 5 = .ok (.aload_n 0, 1) := by decide +kernel
theorem dX4_strokesIn_6 : decode cX4_strokesIn 6 = .ok (.invokevirtual 162, 3) := by decide +kernel
theorem dX4_strokesIn_9 : decode cX4_strokesIn 9 = .ok (.ireturn, 1) := by decide +kernel
theorem dX4_strokesOfOne_0 : decode cX4_strokesOfOne 0 = .ok (.aload_n 0, 1) := by decide +kernel
theorem dX4_strokesOfOne_1 : decode cX4_strokesOfOne 1 = .ok (.iload_n 1, 1) := by decide +kernel
theorem dX4_strokesOfOne_2 : decode cX4_strokesOfOne 2 = .ok (.iload_n 2, 1) := by decide +kernel
theorem dX4_strokesOfOne_3 : decode cX4_strokesOfOne 3 = .ok (.iload_n 3, 1) := by decide +kernel
theorem dX4_strokesOfOne_4 : decode cX4_strokesOfOne 4 = .ok (.invokevirtual 189, 3) := by decide +kernel
theorem dX4_strokesOfOne_7 : decode cX4_strokesOfOne 7 = .ok (.astore 5, 2) := by decide +kernel
theorem dX4_strokesOfOne_9 : decode cX4_strokesOfOne 9 = .ok (.aload 5, 2) := by decide +kernel
theorem dX4_strokesOfOne_11 : decode cX4_strokesOfOne 11 = .ok (.iload 4, 2) := by decide +kernel
theorem dX4_strokesOfOne_13 : decode cX4_strokesOfOne 13 = .ok (.invokevirtual 158, 3) := by decide +kernel
theorem dX4_strokesOfOne_16 : decode cX4_strokesOfOne 16 = .ok (.aload 5, 2) := by decide +kernel
theorem dX4_strokesOfOne_18 : decode cX4_strokesOfOne 18 = .ok (.getfield 105, 3) := by decide +kernel
theorem dX4_strokesOfOne_21 : decode cX4_strokesOfOne 21 = .ok (.iload_n 1, 1) := by decide +kernel
theorem dX4_strokesOfOne_22 : decode cX4_strokesOfOne 22 = .ok (.aaload, 1) := by decide +kernel
theorem dX4_strokesOfOne_23 : decode cX4_strokesOfOne 23 = .ok (.getfield 178, 3) := by decide +kernel
theorem dX4_strokesOfOne_26 : decode cX4_strokesOfOne 26 = .ok (.ireturn, 1) := by decide +kernel
theorem dX4_luck_0 : decode cX4_luck 0 = .ok (.aload_n 0, 1) := by decide +kernel
theorem dX4_luck_1 : decode cX4_luck 1 = .ok (.getfield 16, 3) := by decide +kernel
theorem dX4_luck_4 : decode cX4_luck 4 = .ok (.iload_n 2, 1) := by decide +kernel
theorem dX4_luck_5 : decode cX4_luck 5 = .ok (.invokevirtual 101, 3) := by decide +kernel
theorem dX4_luck_8 : decode cX4_luck 8 = .ok (.ifCond .eq 21, 3) := by decide +kernel
theorem dX4_luck_11 : decode cX4_luck 11 = .ok (.iload_n 1, 1) := by decide +kernel
theorem dX4_luck_12 : decode cX4_luck 12 = .ok (.iload_n 3, 1) := by decide +kernel
theorem dX4_luck_13 : decode cX4_luck 13 = .ok (.invokestatic 208, 3) := by decide +kernel
theorem dX4_luck_16 : decode cX4_luck 16 = .ok (.ifCond .eq 13, 3) := by decide +kernel
theorem dX4_luck_19 : decode cX4_luck 19 = .ok (.iload 4, 2) := by decide +kernel
theorem dX4_luck_21 : decode cX4_luck 21 = .ok (.iconst 0, 1) := by decide +kernel
theorem dX4_luck_22 : decode cX4_luck 22 = .ok (.iconst 1, 1) := by decide +kernel
theorem dX4_luck_23 : decode cX4_luck 23 = .ok (.invokestatic 54, 3) := by decide +kernel
theorem dX4_luck_26 : decode cX4_luck 26 = .ok (.ifCond .ne 7, 3) := by decide +kernel
theorem dX4_luck_29 : decode cX4_luck 29 = .ok (.ldc2_w 211, 3) := by decide +kernel
theorem dX4_luck_32 : decode cX4_luck 32 = .ok (.lreturn, 1) := by decide +kernel
theorem dX4_luck_33 : decode cX4_luck 33 = .ok (.lconst 0, 1) := by decide +kernel
theorem dX4_luck_34 : decode cX4_luck 34 = .ok (.lstore 5, 2) := by decide +kernel
theorem dX4_luck_36 : decode cX4_luck 36 = .ok (.aload_n 0, 1) := by decide +kernel
theorem dX4_luck_37 : decode cX4_luck 37 = .ok (.iload_n 3, 1) := by decide +kernel
theorem dX4_luck_38 : decode cX4_luck 38 = .ok (.invokevirtual 213, 3) := by decide +kernel
theorem dX4_luck_41 : decode cX4_luck 41 = .ok (.iconst 0, 1) := by decide +kernel
theorem dX4_luck_42 : decode cX4_luck 42 = .ok (.istore 7, 2) := by decide +kernel
theorem dX4_luck_44 : decode cX4_luck 44 = .ok (.iload 7, 2) := by decide +kernel
theorem dX4_luck_46 : decode cX4_luck 46 = .ok (.iconst 1, 1) := by decide +kernel
theorem dX4_luck_47 : decode cX4_luck 47 = .ok (.iload_n 3, 1) := by decide +kernel
theorem dX4_luck_48 : decode cX4_luck 48 = .ok (.ishl, 1) := by decide +kernel
theorem dX4_luck_49 : decode cX4_luck 49 = .ok (.if_icmp .ge 51, 3) := by decide +kernel
theorem dX4_luck_52 : decode cX4_luck 52 = .ok (.iload 7, 2) := by decide +kernel
theorem dX4_luck_54 : decode cX4_luck 54 = .ok (.iload_n 1, 1) := by decide +kernel
theorem dX4_luck_55 : decode cX4_luck 55 = .ok (.iload_n 3, 1) := by decide +kernel
theorem dX4_luck_56 : decode cX4_luck 56 = .ok (.invokestatic 216, 3) := by decide +kernel
theorem dX4_luck_59 : decode cX4_luck 59 = .ok (.lstore 8, 2) := by decide +kernel
theorem dX4_luck_61 : decode cX4_luck 61 = .ok (.lload 8, 2) := by decide +kernel
theorem dX4_luck_63 : decode cX4_luck 63 = .ok (.lconst 0, 1) := by decide +kernel
theorem dX4_luck_64 : decode cX4_luck 64 = .ok (.lcmp, 1) := by decide +kernel
theorem dX4_luck_65 : decode cX4_luck 65 = .ok (.ifCond .le 29, 3) := by decide +kernel
theorem dX4_luck_68 : decode cX4_luck 68 = .ok (.aload_n 0, 1) := by decide +kernel
theorem dX4_luck_69 : decode cX4_luck 69 = .ok (.iload 7, 2) := by decide +kernel
theorem dX4_luck_71 : decode cX4_luck 71 = .ok (.iload_n 3, 1) := by decide +kernel
theorem dX4_luck_72 : decode cX4_luck 72 = .ok (.invokevirtual 220, 3) := by decide +kernel
theorem dX4_luck_75 : decode cX4_luck 75 = .ok (.getfield 105, 3) := by decide +kernel
theorem dX4_luck_78 : decode cX4_luck 78 = .ok (.iload_n 2, 1) := by decide +kernel
theorem dX4_luck_79 : decode cX4_luck 79 = .ok (.aaload, 1) := by decide +kernel
theorem dX4_luck_80 : decode cX4_luck 80 = .ok (.getfield 114, 3) := by decide +kernel
theorem dX4_luck_83 : decode cX4_luck 83 = .ok (.iconst 1, 1) := by decide +kernel
theorem dX4_luck_84 : decode cX4_luck 84 = .ok (.if_icmp .ne 10, 3) := by decide +kernel
theorem dX4_luck_87 : decode cX4_luck 87 = .ok (.lload 5, 2) := by decide +kernel
theorem dX4_luck_89 : decode cX4_luck 89 = .ok (.lload 8, 2) := by decide +kernel
theorem dX4_luck_91 : decode cX4_luck 91 = .ok (.ladd, 1) := by decide +kernel
theorem dX4_luck_92 : decode cX4_luck 92 = .ok (.lstore 5, 2) := by decide +kernel
theorem dX4_luck_94 : decode cX4_luck 94 = .ok (.iinc 7 1, 3) := by decide +kernel
theorem dX4_luck_97 : decode cX4_luck 97 = .ok (.goto (-53), 3) := by decide +kernel
theorem dX4_luck_100 : decode cX4_luck 100 = .ok (.lload 5, 2) := by decide +kernel
theorem dX4_luck_102 : decode cX4_luck 102 = .ok (.bipush 10, 2) := by decide +kernel
theorem dX4_luck_104 : decode cX4_luck 104 = .ok (.iload_n 3, 1) := by decide +kernel
theorem dX4_luck_105 : decode cX4_luck 105 = .ok (.invokestatic 224, 3) := by decide +kernel
theorem dX4_luck_108 : decode cX4_luck 108 = .ok (.iload 4, 2) := by decide +kernel
theorem dX4_luck_110 : decode cX4_luck 110 = .ok (.invokestatic 228, 3) := by decide +kernel
theorem dX4_luck_113 : decode cX4_luck 113 = .ok (.lreturn, 1) := by decide +kernel
theorem dX4_mean_0 : decode cX4_mean 0 = .ok (.iload_n 1, 1) := by decide +kernel
theorem dX4_mean_1 : decode cX4_mean 1 = .ok (.iload_n 2, 1) := by decide +kernel
theorem dX4_mean_2 : decode cX4_mean 2 = .ok (.invokestatic 208, 3) := by decide +kernel
theorem dX4_mean_5 : decode cX4_mean 5 = .ok (.ifCond .eq 12, 3) := by decide +kernel
theorem dX4_mean_8 : decode cX4_mean 8 = .ok (.iload_n 3, 1) := by decide +kernel
theorem dX4_mean_9 : decode cX4_mean 9 = .ok (.iconst 0, 1) := by decide +kernel
theorem dX4_mean_10 : decode cX4_mean 10 = .ok (.iconst 1, 1) := by decide +kernel
theorem dX4_mean_11 : decode cX4_mean 11 = .ok (.invokestatic 54, 3) := by decide +kernel
theorem dX4_mean_14 : decode cX4_mean 14 = .ok (.ifCond .ne 7, 3) := by decide +kernel
theorem dX4_mean_17 : decode cX4_mean 17 = .ok (.ldc2_w 211, 3) := by decide +kernel
theorem dX4_mean_20 : decode cX4_mean 20 = .ok (.lreturn, 1) := by decide +kernel
theorem dX4_mean_21 : decode cX4_mean 21 = .ok (.lconst 0, 1) := by decide +kernel
theorem dX4_mean_22 : decode cX4_mean 22 = .ok (.lstore 4, 2) := by decide +kernel
theorem dX4_mean_24 : decode cX4_mean 24 = .ok (.aload_n 0, 1) := by decide +kernel
theorem dX4_mean_25 : decode cX4_mean 25 = .ok (.iload_n 2, 1) := by decide +kernel
theorem dX4_mean_26 : decode cX4_mean 26 = .ok (.invokevirtual 213, 3) := by decide +kernel
theorem dX4_mean_29 : decode cX4_mean 29 = .ok (.iconst 0, 1) := by decide +kernel
theorem dX4_mean_30 : decode cX4_mean 30 = .ok (.istore 6, 2) := by decide +kernel
theorem dX4_mean_32 : decode cX4_mean 32 = .ok (.iload 6, 2) := by decide +kernel
theorem dX4_mean_34 : decode cX4_mean 34 = .ok (.iconst 1, 1) := by decide +kernel
theorem dX4_mean_35 : decode cX4_mean 35 = .ok (.iload_n 2, 1) := by decide +kernel
theorem dX4_mean_36 : decode cX4_mean 36 = .ok (.ishl, 1) := by decide +kernel
theorem dX4_mean_37 : decode cX4_mean 37 = .ok (.if_icmp .ge 44, 3) := by decide +kernel
theorem dX4_mean_40 : decode cX4_mean 40 = .ok (.iload 6, 2) := by decide +kernel
theorem dX4_mean_42 : decode cX4_mean 42 = .ok (.iload_n 1, 1) := by decide +kernel
theorem dX4_mean_43 : decode cX4_mean 43 = .ok (.iload_n 2, 1) := by decide +kernel
theorem dX4_mean_44 : decode cX4_mean 44 = .ok (.invokestatic 216, 3) := by decide +kernel
theorem dX4_mean_47 : decode cX4_mean 47 = .ok (.lstore 7, 2) := by decide +kernel
theorem dX4_mean_49 : decode cX4_mean 49 = .ok (.lload 7, 2) := by decide +kernel
theorem dX4_mean_51 : decode cX4_mean 51 = .ok (.lconst 0, 1) := by decide +kernel
theorem dX4_mean_52 : decode cX4_mean 52 = .ok (.lcmp, 1) := by decide +kernel
theorem dX4_mean_53 : decode cX4_mean 53 = .ok (.ifCond .le 22, 3) := by decide +kernel
theorem dX4_mean_56 : decode cX4_mean 56 = .ok (.lload 4, 2) := by decide +kernel
theorem dX4_mean_58 : decode cX4_mean 58 = .ok (.lload 7, 2) := by decide +kernel
theorem dX4_mean_60 : decode cX4_mean 60 = .ok (.aload_n 0, 1) := by decide +kernel
theorem dX4_mean_61 : decode cX4_mean 61 = .ok (.iload 6, 2) := by decide +kernel
theorem dX4_mean_63 : decode cX4_mean 63 = .ok (.iload_n 2, 1) := by decide +kernel
theorem dX4_mean_64 : decode cX4_mean 64 = .ok (.invokevirtual 220, 3) := by decide +kernel
theorem dX4_mean_67 : decode cX4_mean 67 = .ok (.invokevirtual 162, 3) := by decide +kernel
theorem dX4_mean_70 : decode cX4_mean 70 = .ok (.i2l, 1) := by decide +kernel
theorem dX4_mean_71 : decode cX4_mean 71 = .ok (.lmul, 1) := by decide +kernel
theorem dX4_mean_72 : decode cX4_mean 72 = .ok (.ladd, 1) := by decide +kernel
theorem dX4_mean_73 : decode cX4_mean 73 = .ok (.lstore 4, 2) := by decide +kernel
theorem dX4_mean_75 : decode cX4_mean 75 = .ok (.iinc 6 1, 3) := by decide +kernel
theorem dX4_mean_78 : decode cX4_mean 78 = .ok (.goto (-46), 3) := by decide +kernel
theorem dX4_mean_81 : decode cX4_mean 81 = .ok (.lload 4, 2) := by decide +kernel
theorem dX4_mean_83 : decode cX4_mean 83 = .ok (.bipush 10, 2) := by decide +kernel
theorem dX4_mean_85 : decode cX4_mean 85 = .ok (.iload_n 2, 1) := by decide +kernel
theorem dX4_mean_86 : decode cX4_mean 86 = .ok (.invokestatic 224, 3) := by decide +kernel
theorem dX4_mean_89 : decode cX4_mean 89 = .ok (.iload_n 3, 1) := by decide +kernel
theorem dX4_mean_90 : decode cX4_mean 90 = .ok (.invokestatic 228, 3) := by decide +kernel
theorem dX4_mean_93 : decode cX4_mean 93 = .ok (.lreturn, 1) := by decide +kernel
theorem dX4_isNoise_0 : decode cX4_isNoise 0 = .ok (.iload_n 0, 1) := by decide +kernel
theorem dX4_isNoise_1 : decode cX4_isNoise 1 = .ok (.iconst 0, 1) := by decide +kernel
theorem dX4_isNoise_2 : decode cX4_isNoise 2 = .ok (.bipush 10, 2) := by decide +kernel
theorem dX4_isNoise_4 : decode cX4_isNoise 4 = .ok (.invokestatic 54, 3) := by decide +kernel
theorem dX4_isNoise_7 : decode cX4_isNoise 7 = .ok (.ifCond .eq 17, 3) := by decide +kernel
theorem dX4_isNoise_10 : decode cX4_isNoise 10 = .ok (.iload_n 1, 1) := by decide +kernel
theorem dX4_isNoise_11 : decode cX4_isNoise 11 = .ok (.iconst 0, 1) := by decide +kernel
theorem dX4_isNoise_12 : decode cX4_isNoise 12 = .ok (.bipush 8, 2) := by decide +kernel
theorem dX4_isNoise_14 : decode cX4_isNoise 14 = .ok (.invokestatic 54, 3) := by decide +kernel
theorem dX4_isNoise_17 : decode cX4_isNoise 17 = .ok (.ifCond .eq 7, 3) := by decide +kernel
theorem dX4_isNoise_20 : decode cX4_isNoise 20 = .ok (.iconst 1, 1) := by decide +kernel
theorem dX4_isNoise_21 : decode cX4_isNoise 21 = .ok (.goto 4, 3) := by decide +kernel
theorem dX4_isNoise_24 : decode cX4_isNoise 24 = .ok (.iconst 0, 1) := by decide +kernel
theorem dX4_isNoise_25 : decode cX4_isNoise 25 = .ok (.ireturn, 1) := by decide +kernel
theorem dX4_listenQuietly_0 : decode cX4_listenQuietly 0 = .ok (.aload_n 0, 1) := by decide +kernel
theorem dX4_listenQuietly_1 : decode cX4_listenQuietly 1 = .ok (.invokevirtual 168, 3) := by decide +kernel
theorem dX4_listenQuietly_4 : decode cX4_listenQuietly 4 = .ok (.astore_n 2, 1) := by decide +kernel
theorem dX4_listenQuietly_5 : decode cX4_listenQuietly 5 = .ok (.iconst 0, 1) := by decide +kernel
theorem dX4_listenQuietly_6 : decode cX4_listenQuietly 6 = .ok (.istore_n 3, 1) := by decide +kernel
theorem dX4_listenQuietly_7 : decode cX4_listenQuietly 7 = .ok (.iload_n 3, 1) := by decide +kernel
theorem dX4_listenQuietly_8 : decode cX4_listenQuietly 8 = .ok (.iload_n 1, 1) := by decide +kernel
theorem dX4_listenQuietly_9 : decode cX4_listenQuietly 9 = .ok (.if_icmp .ge 30, 3) := by decide +kernel
theorem dX4_listenQuietly_12 : decode cX4_listenQuietly 12 = .ok (.iload_n 3, 1) := by decide +kernel
theorem dX4_listenQuietly_13 : decode cX4_listenQuietly 13 = .ok (.bipush 8, 2) := by decide +kernel
theorem dX4_listenQuietly_15 : decode cX4_listenQuietly 15 = .ok (.if_icmp .ge 24, 3) := by decide +kernel
theorem dX4_listenQuietly_18 : decode cX4_listenQuietly 18 = .ok (.aload_n 0, 1) := by decide +kernel
theorem dX4_listenQuietly_19 : decode cX4_listenQuietly 19 = .ok (.getfield 47, 3) := by decide +kernel
theorem dX4_listenQuietly_22 : decode cX4_listenQuietly 22 = .ok (.iload_n 3, 1) := by decide +kernel
theorem dX4_listenQuietly_23 : decode cX4_listenQuietly 23 = .ok (.aload_n 2, 1) := by decide +kernel
theorem dX4_listenQuietly_24 : decode cX4_listenQuietly 24 = .ok (.invokevirtual 95, 3) := by decide +kernel
theorem dX4_listenQuietly_27 : decode cX4_listenQuietly 27 = .ok (.iastore, 1) := by decide +kernel
theorem dX4_listenQuietly_28 : decode cX4_listenQuietly 28 = .ok (.aload_n 2, 1) := by decide +kernel
theorem dX4_listenQuietly_29 : decode cX4_listenQuietly 29 = .ok (.iconst 1, 1) := by decide +kernel
theorem dX4_listenQuietly_30 : decode cX4_listenQuietly 30 = .ok (.invokevirtual 158, 3) := by decide +kernel
theorem dX4_listenQuietly_33 : decode cX4_listenQuietly 33 = .ok (.iinc 3 1, 3) := by decide +kernel
theorem dX4_listenQuietly_36 : decode cX4_listenQuietly 36 = .ok (.goto (-29), 3) := by decide +kernel
theorem dX4_listenQuietly_39 : decode cX4_listenQuietly 39 = .ok (.return_, 1) := by decide +kernel
theorem dX4_runNoisily_0 : decode cX4_runNoisily 0 = .ok (.aload_n 0, 1) := by decide +kernel
theorem dX4_runNoisily_1 : decode cX4_runNoisily 1 = .ok (.getfield 20, 3) := by decide +kernel
theorem dX4_runNoisily_4 : decode cX4_runNoisily 4 = .ok (.aload_n 0, 1) := by decide +kernel
theorem dX4_runNoisily_5 : decode cX4_runNoisily 5 = .ok (.getfield 16, 3) := by decide +kernel
theorem dX4_runNoisily_8 : decode cX4_runNoisily 8 = .ok (.invokevirtual 232, 3) := by decide +kernel
theorem dX4_runNoisily_11 : decode cX4_runNoisily 11 = .ok (.aload_n 0, 1) := by decide +kernel
theorem dX4_runNoisily_12 : decode cX4_runNoisily 12 = .ok (.getfield 20, 3) := by decide +kernel
theorem dX4_runNoisily_15 : decode cX4_runNoisily 15 = .ok (.invokevirtual 155, 3) := by decide +kernel
theorem dX4_runNoisily_18 : decode cX4_runNoisily 18 = .ok (.iconst 0, 1) := by decide +kernel
theorem dX4_runNoisily_19 : decode cX4_runNoisily 19 = .ok (.istore_n 3, 1) := by decide +kernel
theorem dX4_runNoisily_20 : decode cX4_runNoisily 20 = .ok (.iload_n 3, 1) := by decide +kernel
theorem dX4_runNoisily_21 : decode cX4_runNoisily 21 = .ok (.iload_n 2, 1) := by decide +kernel
theorem dX4_runNoisily_22 : decode cX4_runNoisily 22 = .ok (.if_icmp .ge 60, 3) := by decide +kernel
theorem dX4_runNoisily_25 : decode cX4_runNoisily 25 = .ok (.iload_n 3, 1) := by decide +kernel
theorem dX4_runNoisily_26 : decode cX4_runNoisily 26 = .ok (.bipush 8, 2) := by decide +kernel
theorem dX4_runNoisily_28 : decode cX4_runNoisily 28 = .ok (.if_icmp .ge 54, 3) := by decide +kernel
theorem dX4_runNoisily_31 : decode cX4_runNoisily 31 = .ok (.iload_n 1, 1) := by decide +kernel
theorem dX4_runNoisily_32 : decode cX4_runNoisily 32 = .ok (.iload_n 3, 1) := by decide +kernel
theorem dX4_runNoisily_33 : decode cX4_runNoisily 33 = .ok (.ishr, 1) := by decide +kernel
theorem dX4_runNoisily_34 : decode cX4_runNoisily 34 = .ok (.iconst 1, 1) := by decide +kernel
theorem dX4_runNoisily_35 : decode cX4_runNoisily 35 = .ok (.iand, 1) := by decide +kernel
theorem dX4_runNoisily_36 : decode cX4_runNoisily 36 = .ok (.iconst 1, 1) := by decide +kernel
theorem dX4_runNoisily_37 : decode cX4_runNoisily 37 = .ok (.if_icmp .ne 7, 3) := by decide +kernel
theorem dX4_runNoisily_40 : decode cX4_runNoisily 40 = .ok (.iconst 1, 1) := by decide +kernel
theorem dX4_runNoisily_41 : decode cX4_runNoisily 41 = .ok (.goto 4, 3) := by decide +kernel
theorem dX4_runNoisily_44 : decode cX4_runNoisily 44 = .ok (.iconst 0, 1) := by decide +kernel
theorem dX4_runNoisily_45 : decode cX4_runNoisily 45 = .ok (.istore 4, 2) := by decide +kernel
theorem dX4_runNoisily_47 : decode cX4_runNoisily 47 = .ok (.aload_n 0, 1) := by decide +kernel
theorem dX4_runNoisily_48 : decode cX4_runNoisily 48 = .ok (.getfield 20, 3) := by decide +kernel
theorem dX4_runNoisily_51 : decode cX4_runNoisily 51 = .ok (.iload 4, 2) := by decide +kernel
theorem dX4_runNoisily_53 : decode cX4_runNoisily 53 = .ok (.ifCond .eq 14, 3) := by decide +kernel
theorem dX4_runNoisily_56 : decode cX4_runNoisily 56 = .ok (.aload_n 0, 1) := by decide +kernel
theorem dX4_runNoisily_57 : decode cX4_runNoisily 57 = .ok (.getfield 47, 3) := by decide +kernel
theorem dX4_runNoisily_60 : decode cX4_runNoisily 60 = .ok (.iload_n 3, 1) := by decide +kernel
theorem dX4_runNoisily_61 : decode cX4_runNoisily 61 = .ok (.iaload, 1) := by decide +kernel
theorem dX4_runNoisily_62 : decode cX4_runNoisily 62 = .ok (.iconst (-1), 1) := by decide +kernel
theorem dX4_runNoisily_63 : decode cX4_runNoisily 63 = .ok (.ixor, 1) := by decide +kernel
theorem dX4_runNoisily_64 : decode cX4_runNoisily 64 = .ok (.goto 9, 3) := by decide +kernel
theorem dX4_runNoisily_67 : decode cX4_runNoisily 67 = .ok (.aload_n 0, 1) := by decide +kernel
theorem dX4_runNoisily_68 : decode cX4_runNoisily 68 = .ok (.getfield 47, 3) := by decide +kernel
theorem dX4_runNoisily_71 : decode cX4_runNoisily 71 = .ok (.iload_n 3, 1) := by decide +kernel
theorem dX4_runNoisily_72 : decode cX4_runNoisily 72 = .ok (.iaload, 1) := by decide +kernel
theorem dX4_runNoisily_73 : decode cX4_runNoisily 73 = .ok (.invokevirtual 235, 3) := by decide +kernel
theorem dX4_runNoisily_76 : decode cX4_runNoisily 76 = .ok (.iinc 3 1, 3) := by decide +kernel
theorem dX4_runNoisily_79 : decode cX4_runNoisily 79 = .ok (.goto (-59), 3) := by decide +kernel
theorem dX4_runNoisily_82 : decode cX4_runNoisily 82 = .ok (.aload_n 0, 1) := by decide +kernel
theorem dX4_runNoisily_83 : decode cX4_runNoisily 83 = .ok (.getfield 20, 3) := by decide +kernel
theorem dX4_runNoisily_86 : decode cX4_runNoisily 86 = .ok (.areturn, 1) := by decide +kernel
theorem dX4_weightOf_0 : decode cX4_weightOf 0 = .ok (.iload_n 0, 1) := by decide +kernel
theorem dX4_weightOf_1 : decode cX4_weightOf 1 = .ok (.invokestatic 238, 3) := by decide +kernel
theorem dX4_weightOf_4 : decode cX4_weightOf 4 = .ok (.istore_n 3, 1) := by decide +kernel
theorem dX4_weightOf_5 : decode cX4_weightOf 5 = .ok (.iload_n 1, 1) := by decide +kernel
theorem dX4_weightOf_6 : decode cX4_weightOf 6 = .ok (.iload_n 3, 1) := by decide +kernel
theorem dX4_weightOf_7 : decode cX4_weightOf 7 = .ok (.invokestatic 224, 3) := by decide +kernel
theorem dX4_weightOf_10 : decode cX4_weightOf 10 = .ok (.bipush 10, 2) := by decide +kernel
theorem dX4_weightOf_12 : decode cX4_weightOf 12 = .ok (.iload_n 1, 1) := by decide +kernel
theorem dX4_weightOf_13 : decode cX4_weightOf 13 = .ok (.isub, 1) := by decide +kernel
theorem dX4_weightOf_14 : decode cX4_weightOf 14 = .ok (.iload_n 2, 1) := by decide +kernel
theorem dX4_weightOf_15 : decode cX4_weightOf 15 = .ok (.iload_n 3, 1) := by decide +kernel
theorem dX4_weightOf_16 : decode cX4_weightOf 16 = .ok (.isub, 1) := by decide +kernel
theorem dX4_weightOf_17 : decode cX4_weightOf 17 = .ok (.invokestatic 224, 3) := by decide +kernel
theorem dX4_weightOf_20 : decode cX4_weightOf 20 = .ok (.lmul, 1) := by decide +kernel
theorem dX4_weightOf_21 : decode cX4_weightOf 21 = .ok (.lreturn, 1) := by decide +kernel
theorem dX4_power_0 : decode cX4_power 0 = .ok (.lconst 1, 1) := by decide +kernel
theorem dX4_power_1 : decode cX4_power 1 = .ok (.lstore_n 2, 1) := by decide +kernel
theorem dX4_power_2 : decode cX4_power 2 = .ok (.iconst 0, 1) := by decide +kernel
theorem dX4_power_3 : decode cX4_power 3 = .ok (.istore 4, 2) := by decide +kernel
theorem dX4_power_5 : decode cX4_power 5 = .ok (.iload 4, 2) := by decide +kernel
theorem dX4_power_7 : decode cX4_power 7 = .ok (.iload_n 1, 1) := by decide +kernel
theorem dX4_power_8 : decode cX4_power 8 = .ok (.if_icmp .ge 14, 3) := by decide +kernel
theorem dX4_power_11 : decode cX4_power 11 = .ok (.lload_n 2, 1) := by decide +kernel
theorem dX4_power_12 : decode cX4_power 12 = .ok (.iload_n 0, 1) := by decide +kernel
theorem dX4_power_13 : decode cX4_power 13 = .ok (.i2l, 1) := by decide +kernel
theorem dX4_power_14 : decode cX4_power 14 = .ok (.lmul, 1) := by decide +kernel
theorem dX4_power_15 : decode cX4_power 15 = .ok (.lstore_n 2, 1) := by decide +kernel
theorem dX4_power_16 : decode cX4_power 16 = .ok (.iinc 4 1, 3) := by decide +kernel
theorem dX4_power_19 : decode cX4_power 19 = .ok (.goto (-14), 3) := by decide +kernel
theorem dX4_power_22 : decode cX4_power 22 = .ok (.lload_n 2, 1) := by decide +kernel
theorem dX4_power_23 : decode cX4_power 23 = .ok (.lreturn, 1) := by decide +kernel
theorem dX4_partOfFraction_0 : decode cX4_partOfFraction 0 = .ok (.lload_n 0, 1) := by decide +kernel
theorem dX4_partOfFraction_1 : decode cX4_partOfFraction 1 = .ok (.lload_n 2, 1) := by decide +kernel
theorem dX4_partOfFraction_2 : decode cX4_partOfFraction 2 = .ok (.invokestatic 243, 3) := by decide +kernel
theorem dX4_partOfFraction_5 : decode cX4_partOfFraction 5 = .ok (.lstore 5, 2) := by decide +kernel
theorem dX4_partOfFraction_7 : decode cX4_partOfFraction 7 = .ok (.iload 4, 2) := by decide +kernel
theorem dX4_partOfFraction_9 : decode cX4_partOfFraction 9 = .ok (.ifCond .ne 7, 3) := by decide +kernel
theorem dX4_partOfFraction_12 : decode cX4_partOfFraction 12 = .ok (.lload_n 0, 1) := by decide +kernel
theorem dX4_partOfFraction_13 : decode cX4_partOfFraction 13 = .ok (.goto 4, 3) := by decide +kernel
theorem dX4_partOfFraction_16 : decode cX4_partOfFraction 16 = .ok (.lload_n 2, 1) := by decide +kernel
theorem dX4_partOfFraction_17 : decode cX4_partOfFraction 17 = .ok (.lstore 7, 2) := by decide +kernel
theorem dX4_partOfFraction_19 : decode cX4_partOfFraction 19 = .ok (.lload 5, 2) := by decide +kernel
theorem dX4_partOfFraction_21 : decode cX4_partOfFraction 21 = .ok (.lconst 0, 1) := by decide +kernel
theorem dX4_partOfFraction_22 : decode cX4_partOfFraction 22 = .ok (.lcmp, 1) := by decide +kernel
theorem dX4_partOfFraction_23 : decode cX4_partOfFraction 23 = .ok (.ifCond .le 11, 3) := by decide +kernel
theorem dX4_partOfFraction_26 : decode cX4_partOfFraction 26 = .ok (.lload 7, 2) := by decide +kernel
theorem dX4_partOfFraction_28 : decode cX4_partOfFraction 28 = .ok (.lload 5, 2) := by decide +kernel
theorem dX4_partOfFraction_30 : decode cX4_partOfFraction 30 = .ok (.ldiv, 1) := by decide +kernel
theorem dX4_partOfFraction_31 : decode cX4_partOfFraction 31 = .ok (.goto 5, 3) := by decide +kernel
theorem dX4_partOfFraction_34 : decode cX4_partOfFraction 34 = .ok (.lload 7, 2) := by decide +kernel
theorem dX4_partOfFraction_36 : decode cX4_partOfFraction 36 = .ok (.lreturn, 1) := by decide +kernel
theorem dX4_commonDivisor_0 : decode cX4_commonDivisor 0 = .ok (.lload_n 0, 1) := by decide +kernel
theorem dX4_commonDivisor_1 : decode cX4_commonDivisor 1 = .ok (.lstore 4, 2) := by decide +kernel
theorem dX4_commonDivisor_3 : decode cX4_commonDivisor 3 = .ok (.lload_n 2, 1) := by decide +kernel
theorem dX4_commonDivisor_4 : decode cX4_commonDivisor 4 = .ok (.lstore 6, 2) := by decide +kernel
theorem dX4_commonDivisor_6 : decode cX4_commonDivisor 6 = .ok (.iconst 0, 1) := by decide +kernel
theorem dX4_commonDivisor_7 : decode cX4_commonDivisor 7 = .ok (.istore 8, 2) := by decide +kernel
theorem dX4_commonDivisor_9 : decode cX4_commonDivisor 9 = .ok (.iload 8, 2) := by decide +kernel
theorem dX4_commonDivisor_11 : decode cX4_commonDivisor 11 = .ok (.bipush 100, 2) := by decide +kernel
theorem dX4_commonDivisor_13 : decode cX4_commonDivisor 13 = .ok (.if_icmp .ge 31, 3) := by decide +kernel
theorem dX4_commonDivisor_16 : decode cX4_commonDivisor 16 = .ok (.lload 6, 2) := by decide +kernel
theorem dX4_commonDivisor_18 : decode cX4_commonDivisor 18 = .ok (.lconst 0, 1) := by decide +kernel
theorem dX4_commonDivisor_19 : decode cX4_commonDivisor 19 = .ok (.lcmp, 1) := by decide +kernel
theorem dX4_commonDivisor_20 : decode cX4_commonDivisor 20 = .ok (.ifCond .eq 24, 3) := by decide +kernel
theorem dX4_commonDivisor_23 : decode cX4_commonDivisor 23 = .ok (.lload 4, 2) := by decide +kernel
theorem dX4_commonDivisor_25 : decode cX4_commonDivisor 25 = .ok (.lload 6, 2) := by decide +kernel
theorem dX4_commonDivisor_27 : decode cX4_commonDivisor 27 = .ok (.lrem, 1) := by decide +kernel
theorem dX4_commonDivisor_28 : decode cX4_commonDivisor 28 = .ok (.lstore 9, 2) := by decide +kernel
theorem dX4_commonDivisor_30 : decode cX4_commonDivisor 30 = .ok (.lload 6, 2) := by decide +kernel
theorem dX4_commonDivisor_32 : decode cX4_commonDivisor 32 = .ok (.lstore 4, 2) := by decide +kernel
theorem dX4_commonDivisor_34 : decode cX4_commonDivisor 34 = .ok (.lload 9, 2) := by decide +kernel
theorem dX4_commonDivisor_36 : decode cX4_commonDivisor 36 = .ok (.lstore 6, 2) := by decide +kernel
theorem dX4_commonDivisor_38 : decode cX4_commonDivisor 38 = .ok (.iinc 8 1, 3) := by decide +kernel
theorem dX4_commonDivisor_41 : decode cX4_commonDivisor 41 = .ok (.goto (-32), 3) := by decide +kernel
theorem dX4_commonDivisor_44 : decode cX4_commonDivisor 44 = .ok (.lload 4, 2) := by decide +kernel
theorem dX4_commonDivisor_46 : decode cX4_commonDivisor 46 = .ok (.lreturn, 1) := by decide +kernel
theorem dX4_see_0 : decode cX4_see 0 = .ok (.iload_n 1, 1) := by decide +kernel
theorem dX4_see_1 : decode cX4_see 1 = .ok (.iconst 0, 1) := by decide +kernel
theorem dX4_see_2 : decode cX4_see 2 = .ok (.bipush 40, 2) := by decide +kernel
theorem dX4_see_4 : decode cX4_see 4 = .ok (.invokestatic 54, 3) := by decide +kernel
theorem dX4_see_7 : decode cX4_see 7 = .ok (.ifCond .eq 23, 3) := by decide +kernel
theorem dX4_see_10 : decode cX4_see 10 = .ok (.aload_n 0, 1) := by decide +kernel
theorem dX4_see_11 : decode cX4_see 11 = .ok (.getfield 16, 3) := by decide +kernel
theorem dX4_see_14 : decode cX4_see 14 = .ok (.iload_n 2, 1) := by decide +kernel
theorem dX4_see_15 : decode cX4_see 15 = .ok (.invokevirtual 101, 3) := by decide +kernel
theorem dX4_see_18 : decode cX4_see 18 = .ok (.ifCond .eq 12, 3) := by decide +kernel
theorem dX4_see_21 : decode cX4_see 21 = .ok (.iload_n 3, 1) := by decide +kernel
theorem dX4_see_22 : decode cX4_see 22 = .ok (.iconst 0, 1) := by decide +kernel
theorem dX4_see_23 : decode cX4_see 23 = .ok (.iconst 1, 1) := by decide +kernel
theorem dX4_see_24 : decode cX4_see 24 = .ok (.invokestatic 54, 3) := by decide +kernel
theorem dX4_see_27 : decode cX4_see 27 = .ok (.ifCond .ne 5, 3) := by decide +kernel
theorem dX4_see_30 : decode cX4_see 30 = .ok (.iconst (-1), 1) := by decide +kernel
theorem dX4_see_31 : decode cX4_see 31 = .ok (.ireturn, 1) := by decide +kernel
theorem dX4_see_32 : decode cX4_see 32 = .ok (.aload_n 0, 1) := by decide +kernel
theorem dX4_see_33 : decode cX4_see 33 = .ok (.getfield 16, 3) := by decide +kernel
theorem dX4_see_36 : decode cX4_see 36 = .ok (.getfield 247, 3) := by decide +kernel
theorem dX4_see_39 : decode cX4_see 39 = .ok (.bipush 6, 2) := by decide +kernel
theorem dX4_see_41 : decode cX4_see 41 = .ok (.if_icmp .lt 6, 3) := by decide +kernel
theorem dX4_see_44 : decode cX4_see 44 = .ok (.bipush (-3), 2) := by decide +kernel
theorem dX4_see_46 : decode cX4_see 46 = .ok (.ireturn, 1) := by decide +kernel
theorem dX4_see_47 : decode cX4_see 47 = .ok (.aload_n 0, 1) := by decide +kernel
theorem dX4_see_48 : decode cX4_see 48 = .ok (.getfield 16, 3) := by decide +kernel
theorem dX4_see_51 : decode cX4_see 51 = .ok (.iload_n 1, 1) := by decide +kernel
theorem dX4_see_52 : decode cX4_see 52 = .ok (.iload_n 2, 1) := by decide +kernel
theorem dX4_see_53 : decode cX4_see 53 = .ok (.iload_n 3, 1) := by decide +kernel
theorem dX4_see_54 : decode cX4_see 54 = .ok (.invokevirtual 250, 3) := by decide +kernel
theorem dX4_see_57 : decode cX4_see 57 = .ok (.aload_n 0, 1) := by decide +kernel
theorem dX4_see_58 : decode cX4_see 58 = .ok (.getfield 16, 3) := by decide +kernel
theorem dX4_see_61 : decode cX4_see 61 = .ok (.getfield 247, 3) := by decide +kernel
theorem dX4_see_64 : decode cX4_see 64 = .ok (.ireturn, 1) := by decide +kernel
theorem dX4_forget_0 : decode cX4_forget 0 = .ok (.iload_n 1, 1) := by decide +kernel
theorem dX4_forget_1 : decode cX4_forget 1 = .ok (.iconst 0, 1) := by decide +kernel
theorem dX4_forget_2 : decode cX4_forget 2 = .ok (.aload_n 0, 1) := by decide +kernel
theorem dX4_forget_3 : decode cX4_forget 3 = .ok (.getfield 16, 3) := by decide +kernel
theorem dX4_forget_6 : decode cX4_forget 6 = .ok (.getfield 247, 3) := by decide +kernel
theorem dX4_forget_9 : decode cX4_forget 9 = .ok (.invokestatic 54, 3) := by decide +kernel
theorem dX4_forget_12 : decode cX4_forget 12 = .ok (.ifCond .ne 5, 3) := by decide +kernel
theorem dX4_forget_15 : decode cX4_forget 15 = .ok (.iconst (-1), 1) := by decide +kernel
theorem dX4_forget_16 : decode cX4_forget 16 = .ok (.ireturn, 1) := by decide +kernel
theorem dX4_forget_17 : decode cX4_forget 17 = .ok (.aload_n 0, 1) := by decide +kernel
theorem dX4_forget_18 : decode cX4_forget 18 = .ok (.getfield 16, 3) := by decide +kernel
theorem dX4_forget_21 : decode cX4_forget 21 = .ok (.getfield 247, 3) := by decide +kernel
theorem dX4_forget_24 : decode cX4_forget 24 = .ok (.istore_n 2, 1) := by decide +kernel
theorem dX4_forget_25 : decode cX4_forget 25 = .ok (.aload_n 0, 1) := by decide +kernel
theorem dX4_forget_26 : decode cX4_forget 26 = .ok (.getfield 16, 3) := by decide +kernel
theorem dX4_forget_29 : decode cX4_forget 29 = .ok (.iload_n 1, 1) := by decide +kernel
theorem dX4_forget_30 : decode cX4_forget 30 = .ok (.putfield 247, 3) := by decide +kernel
theorem dX4_forget_33 : decode cX4_forget 33 = .ok (.iload_n 2, 1) := by decide +kernel
theorem dX4_forget_34 : decode cX4_forget 34 = .ok (.ireturn, 1) := by decide +kernel
theorem dX4_kinds_0 : decode cX4_kinds 0 = .ok (.aload_n 0, 1) := by decide +kernel
theorem dX4_kinds_1 : decode cX4_kinds 1 = .ok (.getfield 16, 3) := by decide +kernel
theorem dX4_kinds_4 : decode cX4_kinds 4 = .ok (.iload_n 1, 1) := by decide +kernel
theorem dX4_kinds_5 : decode cX4_kinds 5 = .ok (.invokevirtual 101, 3) := by decide +kernel
theorem dX4_kinds_8 : decode cX4_kinds 8 = .ok (.ifCond .eq 12, 3) := by decide +kernel
theorem dX4_kinds_11 : decode cX4_kinds 11 = .ok (.aload_n 0, 1) := by decide +kernel
theorem dX4_kinds_12 : decode cX4_kinds 12 = .ok (.iload_n 1, 1) := by decide +kernel
theorem dX4_kinds_13 : decode cX4_kinds 13 = .ok (.iconst 1, 1) := by decide +kernel
theorem dX4_kinds_14 : decode cX4_kinds 14 = .ok (.invokevirtual 253, 3) := by decide +kernel
theorem dX4_kinds_17 : decode cX4_kinds 17 = .ok (.goto 4, 3) := by decide +kernel
theorem dX4_kinds_20 : decode cX4_kinds 20 = .ok (.iconst (-1), 1) := by decide +kernel
theorem dX4_kinds_21 : decode cX4_kinds 21 = .ok (.ireturn, 1) := by decide +kernel
theorem dX4_numbers_0 : decode cX4_numbers 0 = .ok (.aload_n 0, 1) := by decide +kernel
theorem dX4_numbers_1 : decode cX4_numbers 1 = .ok (.getfield 16, 3) := by decide +kernel
theorem dX4_numbers_4 : decode cX4_numbers 4 = .ok (.iload_n 1, 1) := by decide +kernel
theorem dX4_numbers_5 : decode cX4_numbers 5 = .ok (.invokevirtual 101, 3) := by decide +kernel
theorem dX4_numbers_8 : decode cX4_numbers 8 = .ok (.ifCond .eq 12, 3) := by decide +kernel
theorem dX4_numbers_11 : decode cX4_numbers 11 = .ok (.aload_n 0, 1) := by decide +kernel
theorem dX4_numbers_12 : decode cX4_numbers 12 = .ok (.iload_n 1, 1) := by decide +kernel
theorem dX4_numbers_13 : decode cX4_numbers 13 = .ok (.iconst 2, 1) := by decide +kernel
theorem dX4_numbers_14 : decode cX4_numbers 14 = .ok (.invokevirtual 253, 3) := by decide +kernel
theorem dX4_numbers_17 : decode cX4_numbers 17 = .ok (.goto 4, 3) := by decide +kernel
theorem dX4_numbers_20 : decode cX4_numbers 20 = .ok (.iconst (-1), 1) := by decide +kernel
theorem dX4_numbers_21 : decode cX4_numbers 21 = .ok (.ireturn, 1) := by decide +kernel
theorem dX4_bounces_0 : decode cX4_bounces 0 = .ok (.aload_n 0, 1) := by decide +kernel
theorem dX4_bounces_1 : decode cX4_bounces 1 = .ok (.getfield 16, 3) := by decide +kernel
theorem dX4_bounces_4 : decode cX4_bounces 4 = .ok (.iload_n 1, 1) := by decide +kernel
theorem dX4_bounces_5 : decode cX4_bounces 5 = .ok (.invokevirtual 101, 3) := by decide +kernel
theorem dX4_bounces_8 : decode cX4_bounces 8 = .ok (.ifCond .eq 12, 3) := by decide +kernel
theorem dX4_bounces_11 : decode cX4_bounces 11 = .ok (.aload_n 0, 1) := by decide +kernel
theorem dX4_bounces_12 : decode cX4_bounces 12 = .ok (.iload_n 1, 1) := by decide +kernel
theorem dX4_bounces_13 : decode cX4_bounces 13 = .ok (.iconst 0, 1) := by decide +kernel
theorem dX4_bounces_14 : decode cX4_bounces 14 = .ok (.invokevirtual 253, 3) := by decide +kernel
theorem dX4_bounces_17 : decode cX4_bounces 17 = .ok (.goto 4, 3) := by decide +kernel
theorem dX4_bounces_20 : decode cX4_bounces 20 = .ok (.iconst (-1), 1) := by decide +kernel
theorem dX4_bounces_21 : decode cX4_bounces 21 = .ok (.ireturn, 1) := by decide +kernel
theorem dX4_ask_0 : decode cX4_ask 0 = .ok (.aload_n 0, 1) := by decide +kernel
theorem dX4_ask_1 : decode cX4_ask 1 = .ok (.getfield 16, 3) := by decide +kernel
theorem dX4_ask_4 : decode cX4_ask 4 = .ok (.iload_n 1, 1) := by decide +kernel
theorem dX4_ask_5 : decode cX4_ask 5 = .ok (.invokevirtual 101, 3) := by decide +kernel
theorem dX4_ask_8 : decode cX4_ask 8 = .ok (.ifCond .eq 12, 3) := by decide +kernel
theorem dX4_ask_11 : decode cX4_ask 11 = .ok (.iload_n 2, 1) := by decide +kernel
theorem dX4_ask_12 : decode cX4_ask 12 = .ok (.iconst 0, 1) := by decide +kernel
theorem dX4_ask_13 : decode cX4_ask 13 = .ok (.iconst 1, 1) := by decide +kernel
theorem dX4_ask_14 : decode cX4_ask 14 = .ok (.invokestatic 54, 3) := by decide +kernel
theorem dX4_ask_17 : decode cX4_ask 17 = .ok (.ifCond .ne 5, 3) := by decide +kernel
theorem dX4_ask_20 : decode cX4_ask 20 = .ok (.iconst (-1), 1) := by decide +kernel
theorem dX4_ask_21 : decode cX4_ask 21 = .ok (.ireturn, 1) := by decide +kernel
theorem dX4_ask_22 : decode cX4_ask 22 = .ok (.aload_n 0, 1) := by decide +kernel
theorem dX4_ask_23 : decode cX4_ask 23 = .ok (.iload_n 1, 1) := by decide +kernel
theorem dX4_ask_24 : decode cX4_ask 24 = .ok (.iconst 2, 1) := by decide +kernel
theorem dX4_ask_25 : decode cX4_ask 25 = .ok (.invokevirtual 253, 3) := by decide +kernel
theorem dX4_ask_28 : decode cX4_ask 28 = .ok (.istore_n 3, 1) := by decide +kernel
theorem dX4_ask_29 : decode cX4_ask 29 = .ok (.iload_n 3, 1) := by decide +kernel
theorem dX4_ask_30 : decode cX4_ask 30 = .ok (.invokestatic 238, 3) := by decide +kernel
theorem dX4_ask_33 : decode cX4_ask 33 = .ok (.istore 4, 2) := by decide +kernel
theorem dX4_ask_35 : decode cX4_ask 35 = .ok (.aload_n 0, 1) := by decide +kernel
theorem dX4_ask_36 : decode cX4_ask 36 = .ok (.iload_n 1, 1) := by decide +kernel
theorem dX4_ask_37 : decode cX4_ask 37 = .ok (.iload_n 3, 1) := by decide +kernel
theorem dX4_ask_38 : decode cX4_ask 38 = .ok (.invokevirtual 256, 3) := by decide +kernel
theorem dX4_ask_41 : decode cX4_ask 41 = .ok (.bipush (-4), 2) := by decide +kernel
theorem dX4_ask_43 : decode cX4_ask 43 = .ok (.istore 5, 2) := by decide +kernel
theorem dX4_ask_45 : decode cX4_ask 45 = .ok (.iload 4, 2) := by decide +kernel
theorem dX4_ask_47 : decode cX4_ask 47 = .ok (.istore 6, 2) := by decide +kernel
theorem dX4_ask_49 : decode cX4_ask 49 = .ok (.iconst 0, 1) := by decide +kernel
theorem dX4_ask_50 : decode cX4_ask 50 = .ok (.istore 7, 2) := by decide +kernel
theorem dX4_ask_52 : decode cX4_ask 52 = .ok (.iload 7, 2) := by decide +kernel
theorem dX4_ask_54 : decode cX4_ask 54 = .ok (.bipush 40, 2) := by decide +kernel
theorem dX4_ask_56 : decode cX4_ask 56 = .ok (.if_icmp .gt 46, 3) := by decide +kernel
theorem dX4_ask_59 : decode cX4_ask 59 = .ok (.aload_n 0, 1) := by decide +kernel
theorem dX4_ask_60 : decode cX4_ask 60 = .ok (.getfield 51, 3) := by decide +kernel
theorem dX4_ask_63 : decode cX4_ask 63 = .ok (.iload 7, 2) := by decide +kernel
theorem dX4_ask_65 : decode cX4_ask 65 = .ok (.iaload, 1) := by decide +kernel
theorem dX4_ask_66 : decode cX4_ask 66 = .ok (.iload 4, 2) := by decide +kernel
theorem dX4_ask_68 : decode cX4_ask 68 = .ok (.aload_n 0, 1) := by decide +kernel
theorem dX4_ask_69 : decode cX4_ask 69 = .ok (.getfield 51, 3) := by decide +kernel
theorem dX4_ask_72 : decode cX4_ask 72 = .ok (.iload 7, 2) := by decide +kernel
theorem dX4_ask_74 : decode cX4_ask 74 = .ok (.iaload, 1) := by decide +kernel
theorem dX4_ask_75 : decode cX4_ask 75 = .ok (.isub, 1) := by decide +kernel
theorem dX4_ask_76 : decode cX4_ask 76 = .ok (.invokestatic 259, 3) := by decide +kernel
theorem dX4_ask_79 : decode cX4_ask 79 = .ok (.istore 8, 2) := by decide +kernel
theorem dX4_ask_81 : decode cX4_ask 81 = .ok (.iload 8, 2) := by decide +kernel
theorem dX4_ask_83 : decode cX4_ask 83 = .ok (.iload 6, 2) := by decide +kernel
theorem dX4_ask_85 : decode cX4_ask 85 = .ok (.if_icmp .ge 11, 3) := by decide +kernel
theorem dX4_ask_88 : decode cX4_ask 88 = .ok (.iload 8, 2) := by decide +kernel
theorem dX4_ask_90 : decode cX4_ask 90 = .ok (.istore 6, 2) := by decide +kernel
theorem dX4_ask_92 : decode cX4_ask 92 = .ok (.iload 7, 2) := by decide +kernel
theorem dX4_ask_94 : decode cX4_ask 94 = .ok (.istore 5, 2) := by decide +kernel
theorem dX4_ask_96 : decode cX4_ask 96 = .ok (.iinc 7 1, 3) := by decide +kernel
theorem dX4_ask_99 : decode cX4_ask 99 = .ok (.goto (-47), 3) := by decide +kernel
theorem dX4_ask_102 : decode cX4_ask 102 = .ok (.iload 5, 2) := by decide +kernel
theorem dX4_ask_104 : decode cX4_ask 104 = .ok (.bipush (-4), 2) := by decide +kernel
theorem dX4_ask_106 : decode cX4_ask 106 = .ok (.if_icmp .ne 6, 3) := by decide +kernel
theorem dX4_ask_109 : decode cX4_ask 109 = .ok (.bipush (-4), 2) := by decide +kernel
theorem dX4_ask_111 : decode cX4_ask 111 = .ok (.ireturn, 1) := by decide +kernel
theorem dX4_ask_112 : decode cX4_ask 112 = .ok (.iload_n 2, 1) := by decide +kernel
theorem dX4_ask_113 : decode cX4_ask 113 = .ok (.ifCond .ne 8, 3) := by decide +kernel
theorem dX4_ask_116 : decode cX4_ask 116 = .ok (.iload 5, 2) := by decide +kernel
theorem dX4_ask_118 : decode cX4_ask 118 = .ok (.goto 5, 3) := by decide +kernel
theorem dX4_ask_121 : decode cX4_ask 121 = .ok (.iload 6, 2) := by decide +kernel
theorem dX4_ask_123 : decode cX4_ask 123 = .ok (.ireturn, 1) := by decide +kernel
theorem dX4_fitting_0 : decode cX4_fitting 0 = .ok (.iconst 0, 1) := by decide +kernel
theorem dX4_fitting_1 : decode cX4_fitting 1 = .ok (.istore_n 3, 1) := by decide +kernel
theorem dX4_fitting_2 : decode cX4_fitting 2 = .ok (.iconst 0, 1) := by decide +kernel
theorem dX4_fitting_3 : decode cX4_fitting 3 = .ok (.istore 4, 2) := by decide +kernel
theorem dX4_fitting_5 : decode cX4_fitting 5 = .ok (.iload 4, 2) := by decide +kernel
theorem dX4_fitting_7 : decode cX4_fitting 7 = .ok (.bipush 9, 2) := by decide +kernel
theorem dX4_fitting_9 : decode cX4_fitting 9 = .ok (.if_icmp .gt 39, 3) := by decide +kernel
theorem dX4_fitting_12 : decode cX4_fitting 12 = .ok (.iload_n 2, 1) := by decide +kernel
theorem dX4_fitting_13 : decode cX4_fitting 13 = .ok (.iload 4, 2) := by decide +kernel
theorem dX4_fitting_15 : decode cX4_fitting 15 = .ok (.invokestatic 139, 3) := by decide +kernel
theorem dX4_fitting_18 : decode cX4_fitting 18 = .ok (.ifCond .eq 24, 3) := by decide +kernel
theorem dX4_fitting_21 : decode cX4_fitting 21 = .ok (.aload_n 0, 1) := by decide +kernel
theorem dX4_fitting_22 : decode cX4_fitting 22 = .ok (.iload_n 1, 1) := by decide +kernel
theorem dX4_fitting_23 : decode cX4_fitting 23 = .ok (.iload_n 2, 1) := by decide +kernel
theorem dX4_fitting_24 : decode cX4_fitting 24 = .ok (.iload 4, 2) := by decide +kernel
theorem dX4_fitting_26 : decode cX4_fitting 26 = .ok (.invokevirtual 189, 3) := by decide +kernel
theorem dX4_fitting_29 : decode cX4_fitting 29 = .ok (.invokevirtual 262, 3) := by decide +kernel
theorem dX4_fitting_32 : decode cX4_fitting 32 = .ok (.ifCond .eq 10, 3) := by decide +kernel
theorem dX4_fitting_35 : decode cX4_fitting 35 = .ok (.iload_n 3, 1) := by decide +kernel
theorem dX4_fitting_36 : decode cX4_fitting 36 = .ok (.iconst 1, 1) := by decide +kernel
theorem dX4_fitting_37 : decode cX4_fitting 37 = .ok (.iload 4, 2) := by decide +kernel
theorem dX4_fitting_39 : decode cX4_fitting 39 = .ok (.ishl, 1) := by decide +kernel
theorem dX4_fitting_40 : decode cX4_fitting 40 = .ok (.ior, 1) := by decide +kernel
theorem dX4_fitting_41 : decode cX4_fitting 41 = .ok (.istore_n 3, 1) := by decide +kernel
theorem dX4_fitting_42 : decode cX4_fitting 42 = .ok (.iinc 4 1, 3) := by decide +kernel
theorem dX4_fitting_45 : decode cX4_fitting 45 = .ok (.goto (-40), 3) := by decide +kernel
theorem dX4_fitting_48 : decode cX4_fitting 48 = .ok (.iload_n 3, 1) := by decide +kernel
theorem dX4_fitting_49 : decode cX4_fitting 49 = .ok (.ireturn, 1) := by decide +kernel
theorem dX4_countSayers_0 : decode cX4_countSayers 0 = .ok (.iconst 0, 1) := by decide +kernel
theorem dX4_countSayers_1 : decode cX4_countSayers 1 = .ok (.istore_n 3, 1) := by decide +kernel
theorem dX4_countSayers_2 : decode cX4_countSayers 2 = .ok (.iload_n 3, 1) := by decide +kernel
theorem dX4_countSayers_3 : decode cX4_countSayers 3 = .ok (.bipush 40, 2) := by decide +kernel
theorem dX4_countSayers_5 : decode cX4_countSayers 5 = .ok (.if_icmp .gt 16, 3) := by decide +kernel
theorem dX4_countSayers_8 : decode cX4_countSayers 8 = .ok (.aload_n 0, 1) := by decide +kernel
theorem dX4_countSayers_9 : decode cX4_countSayers 9 = .ok (.getfield 51, 3) := by decide +kernel
theorem dX4_countSayers_12 : decode cX4_countSayers 12 = .ok (.iload_n 3, 1) := by decide +kernel
theorem dX4_countSayers_13 : decode cX4_countSayers 13 = .ok (.iconst 0, 1) := by decide +kernel
theorem dX4_countSayers_14 : decode cX4_countSayers 14 = .ok (.iastore, 1) := by decide +kernel
theorem dX4_countSayers_15 : decode cX4_countSayers 15 = .ok (.iinc 3 1, 3) := by decide +kernel
theorem dX4_countSayers_18 : decode cX4_countSayers 18 = .ok (.goto (-16), 3) := by decide +kernel
theorem dX4_countSayers_21 : decode cX4_countSayers 21 = .ok (.iconst 1, 1) := by decide +kernel
theorem dX4_countSayers_22 : decode cX4_countSayers 22 = .ok (.istore_n 3, 1) := by decide +kernel
theorem dX4_countSayers_23 : decode cX4_countSayers 23 = .ok (.iload_n 3, 1) := by decide +kernel
theorem dX4_countSayers_24 : decode cX4_countSayers 24 = .ok (.bipush 9, 2) := by decide +kernel
theorem dX4_countSayers_26 : decode cX4_countSayers 26 = .ok (.if_icmp .gt 30, 3) := by decide +kernel
theorem dX4_countSayers_29 : decode cX4_countSayers 29 = .ok (.iload_n 2, 1) := by decide +kernel
theorem dX4_countSayers_30 : decode cX4_countSayers 30 = .ok (.iload_n 3, 1) := by decide +kernel
theorem dX4_countSayers_31 : decode cX4_countSayers 31 = .ok (.ishr, 1) := by decide +kernel
theorem dX4_countSayers_32 : decode cX4_countSayers 32 = .ok (.iconst 1, 1) := by decide +kernel
theorem dX4_countSayers_33 : decode cX4_countSayers 33 = .ok (.iand, 1) := by decide +kernel
theorem dX4_countSayers_34 : decode cX4_countSayers 34 = .ok (.iconst 1, 1) := by decide +kernel
theorem dX4_countSayers_35 : decode cX4_countSayers 35 = .ok (.if_icmp .ne 15, 3) := by decide +kernel
theorem dX4_countSayers_38 : decode cX4_countSayers 38 = .ok (.aload_n 0, 1) := by decide +kernel
theorem dX4_countSayers_39 : decode cX4_countSayers 39 = .ok (.aload_n 0, 1) := by decide +kernel
theorem dX4_countSayers_40 : decode cX4_countSayers 40 = .ok (.iload_n 1, 1) := by decide +kernel
theorem dX4_countSayers_41 : decode cX4_countSayers 41 = .ok (.iconst 2, 1) := by decide +kernel
theorem dX4_countSayers_42 : decode cX4_countSayers 42 = .ok (.iload_n 3, 1) := by decide +kernel
theorem dX4_countSayers_43 : decode cX4_countSayers 43 = .ok (.invokevirtual 189, 3) := by decide +kernel
theorem dX4_countSayers_46 : decode cX4_countSayers 46 = .ok (.iload_n 1, 1) := by decide +kernel
theorem dX4_countSayers_47 : decode cX4_countSayers 47 = .ok (.invokevirtual 266, 3) := by decide +kernel
theorem dX4_countSayers_50 : decode cX4_countSayers 50 = .ok (.iinc 3 1, 3) := by decide +kernel
theorem dX4_countSayers_53 : decode cX4_countSayers 53 = .ok (.goto (-30), 3) := by decide +kernel
theorem dX4_countSayers_56 : decode cX4_countSayers 56 = .ok (.return_, 1) := by decide +kernel
theorem dX4_addSayings_0 : decode cX4_addSayings 0 = .ok (.iconst 0, 1) := by decide +kernel
theorem dX4_addSayings_1 : decode cX4_addSayings 1 = .ok (.istore_n 3, 1) := by decide +kernel
theorem dX4_addSayings_2 : decode cX4_addSayings 2 = .ok (.iload_n 3, 1) := by decide +kernel
theorem dX4_addSayings_3 : decode cX4_addSayings 3 = .ok (.bipush 40, 2) := by decide +kernel
theorem dX4_addSayings_5 : decode cX4_addSayings 5 = .ok (.if_icmp .gt 32, 3) := by decide +kernel
theorem dX4_addSayings_8 : decode cX4_addSayings 8 = .ok (.aload_n 0, 1) := by decide +kernel
theorem dX4_addSayings_9 : decode cX4_addSayings 9 = .ok (.getfield 51, 3) := by decide +kernel
theorem dX4_addSayings_12 : decode cX4_addSayings 12 = .ok (.iload_n 3, 1) := by decide +kernel
theorem dX4_addSayings_13 : decode cX4_addSayings 13 = .ok (.dup2, 1) := by decide +kernel
theorem dX4_addSayings_14 : decode cX4_addSayings 14 = .ok (.iaload, 1) := by decide +kernel
theorem dX4_addSayings_15 : decode cX4_addSayings 15 = .ok (.aload_n 1, 1) := by decide +kernel
theorem dX4_addSayings_16 : decode cX4_addSayings 16 = .ok (.getfield 105, 3) := by decide +kernel
theorem dX4_addSayings_19 : decode cX4_addSayings 19 = .ok (.iload_n 2, 1) := by decide +kernel
theorem dX4_addSayings_20 : decode cX4_addSayings 20 = .ok (.aaload, 1) := by decide +kernel
theorem dX4_addSayings_21 : decode cX4_addSayings 21 = .ok (.getfield 114, 3) := by decide +kernel
theorem dX4_addSayings_24 : decode cX4_addSayings 24 = .ok (.iadd, 1) := by decide +kernel
theorem dX4_addSayings_25 : decode cX4_addSayings 25 = .ok (.iastore, 1) := by decide +kernel
theorem dX4_addSayings_26 : decode cX4_addSayings 26 = .ok (.aload_n 1, 1) := by decide +kernel
theorem dX4_addSayings_27 : decode cX4_addSayings 27 = .ok (.iconst 1, 1) := by decide +kernel
theorem dX4_addSayings_28 : decode cX4_addSayings 28 = .ok (.invokevirtual 158, 3) := by decide +kernel
theorem dX4_addSayings_31 : decode cX4_addSayings 31 = .ok (.iinc 3 1, 3) := by decide +kernel
theorem dX4_addSayings_34 : decode cX4_addSayings 34 = .ok (.goto (-32), 3) := by decide +kernel
theorem dX4_addSayings_37 : decode cX4_addSayings 37 = .ok (.return_, 1) := by decide +kernel
theorem dX4_drift_0 : decode cX4_drift 0 = .ok (.iload_n 2, 1) := by decide +kernel
theorem dX4_drift_1 : decode cX4_drift 1 = .ok (.iconst 1, 1) := by decide +kernel
theorem dX4_drift_2 : decode cX4_drift 2 = .ok (.sipush 200, 3) := by decide +kernel
theorem dX4_drift_5 : decode cX4_drift 5 = .ok (.invokestatic 54, 3) := by decide +kernel
theorem dX4_drift_8 : decode cX4_drift 8 = .ok (.ifCond .eq 12, 3) := by decide +kernel
theorem dX4_drift_11 : decode cX4_drift 11 = .ok (.iload_n 3, 1) := by decide +kernel
theorem dX4_drift_12 : decode cX4_drift 12 = .ok (.iconst 0, 1) := by decide +kernel
theorem dX4_drift_13 : decode cX4_drift 13 = .ok (.iconst 1, 1) := by decide +kernel
theorem dX4_drift_14 : decode cX4_drift 14 = .ok (.invokestatic 54, 3) := by decide +kernel
theorem dX4_drift_17 : decode cX4_drift 17 = .ok (.ifCond .ne 5, 3) := by decide +kernel
theorem dX4_drift_20 : decode cX4_drift 20 = .ok (.iconst (-1), 1) := by decide +kernel
theorem dX4_drift_21 : decode cX4_drift 21 = .ok (.ireturn, 1) := by decide +kernel
theorem dX4_drift_22 : decode cX4_drift 22 = .ok (.aload_n 0, 1) := by decide +kernel
theorem dX4_drift_23 : decode cX4_drift 23 = .ok (.getfield 16, 3) := by decide +kernel
theorem dX4_drift_26 : decode cX4_drift 26 = .ok (.getfield 79, 3) := by decide +kernel
theorem dX4_drift_29 : decode cX4_drift 29 = .ok (.ifCond .ne 6, 3) := by decide +kernel
theorem dX4_drift_32 : decode cX4_drift 32 = .ok (.bipush (-2), 2) := by decide +kernel
theorem dX4_drift_34 : decode cX4_drift 34 = .ok (.ireturn, 1) := by decide +kernel
theorem dX4_drift_35 : decode cX4_drift 35 = .ok (.aload_n 0, 1) := by decide +kernel
theorem dX4_drift_36 : decode cX4_drift 36 = .ok (.invokevirtual 168, 3) := by decide +kernel
theorem dX4_drift_39 : decode cX4_drift 39 = .ok (.astore 4, 2) := by decide +kernel
theorem dX4_drift_41 : decode cX4_drift 41 = .ok (.iload_n 1, 1) := by decide +kernel
theorem dX4_drift_42 : decode cX4_drift 42 = .ok (.istore 5, 2) := by decide +kernel
theorem dX4_drift_44 : decode cX4_drift 44 = .ok (.iconst 0, 1) := by decide +kernel
theorem dX4_drift_45 : decode cX4_drift 45 = .ok (.istore 6, 2) := by decide +kernel
theorem dX4_drift_47 : decode cX4_drift 47 = .ok (.iload 6, 2) := by decide +kernel
theorem dX4_drift_49 : decode cX4_drift 49 = .ok (.iload_n 2, 1) := by decide +kernel
theorem dX4_drift_50 : decode cX4_drift 50 = .ok (.if_icmp .ge 35, 3) := by decide +kernel
theorem dX4_drift_53 : decode cX4_drift 53 = .ok (.iload 5, 2) := by decide +kernel
theorem dX4_drift_55 : decode cX4_drift 55 = .ok (.ldc_w 270, 3) := by decide +kernel
theorem dX4_drift_58 : decode cX4_drift 58 = .ok (.imul, 1) := by decide +kernel
theorem dX4_drift_59 : decode cX4_drift 59 = .ok (.sipush 12345, 3) := by decide +kernel
theorem dX4_drift_62 : decode cX4_drift 62 = .ok (.iadd, 1) := by decide +kernel
theorem dX4_drift_63 : decode cX4_drift 63 = .ok (.istore 5, 2) := by decide +kernel
theorem dX4_drift_65 : decode cX4_drift 65 = .ok (.aload 4, 2) := by decide +kernel
theorem dX4_drift_67 : decode cX4_drift 67 = .ok (.iload 5, 2) := by decide +kernel
theorem dX4_drift_69 : decode cX4_drift 69 = .ok (.bipush 16, 2) := by decide +kernel
theorem dX4_drift_71 : decode cX4_drift 71 = .ok (.ishr, 1) := by decide +kernel
theorem dX4_drift_72 : decode cX4_drift 72 = .ok (.sipush 32767, 3) := by decide +kernel
theorem dX4_drift_75 : decode cX4_drift 75 = .ok (.iand, 1) := by decide +kernel
theorem dX4_drift_76 : decode cX4_drift 76 = .ok (.invokevirtual 235, 3) := by decide +kernel
theorem dX4_drift_79 : decode cX4_drift 79 = .ok (.iinc 6 1, 3) := by decide +kernel
theorem dX4_drift_82 : decode cX4_drift 82 = .ok (.goto (-35), 3) := by decide +kernel
theorem dX4_drift_85 : decode cX4_drift 85 = .ok (.iload_n 3, 1) := by decide +kernel
theorem dX4_drift_86 : decode cX4_drift 86 = .ok (.ifCond .ne 11, 3) := by decide +kernel
theorem dX4_drift_89 : decode cX4_drift 89 = .ok (.aload 4, 2) := by decide +kernel
theorem dX4_drift_91 : decode cX4_drift 91 = .ok (.invokevirtual 162, 3) := by decide +kernel
theorem dX4_drift_94 : decode cX4_drift 94 = .ok (.goto 8, 3) := by decide +kernel
theorem dX4_drift_97 : decode cX4_drift 97 = .ok (.aload 4, 2) := by decide +kernel
theorem dX4_drift_99 : decode cX4_drift 99 = .ok (.invokevirtual 91, 3) := by decide +kernel
theorem dX4_drift_102 : decode cX4_drift 102 = .ok (.ireturn, 1) := by decide +kernel
theorem dX4_keep_0 : decode cX4_keep 0 = .ok (.iload_n 1, 1) := by decide +kernel
theorem dX4_keep_1 : decode cX4_keep 1 = .ok (.iconst 0, 1) := by decide +kernel
theorem dX4_keep_2 : decode cX4_keep 2 = .ok (.iconst 1, 1) := by decide +kernel
theorem dX4_keep_3 : decode cX4_keep 3 = .ok (.invokestatic 54, 3) := by decide +kernel
theorem dX4_keep_6 : decode cX4_keep 6 = .ok (.ifCond .ne 5, 3) := by decide +kernel
theorem dX4_keep_9 : decode cX4_keep 9 = .ok (.iconst (-1), 1) := by decide +kernel
theorem dX4_keep_10 : decode cX4_keep 10 = .ok (.ireturn, 1) := by decide +kernel
theorem dX4_keep_11 : decode cX4_keep 11 = .ok (.aload_n 0, 1) := by decide +kernel
theorem dX4_keep_12 : decode cX4_keep 12 = .ok (.getfield 27, 3) := by decide +kernel
theorem dX4_keep_15 : decode cX4_keep 15 = .ok (.iload_n 1, 1) := by decide +kernel
theorem dX4_keep_16 : decode cX4_keep 16 = .ok (.baload, 1) := by decide +kernel
theorem dX4_keep_17 : decode cX4_keep 17 = .ok (.ifCond .eq 7, 3) := by decide +kernel
theorem dX4_keep_20 : decode cX4_keep 20 = .ok (.iconst 1, 1) := by decide +kernel
theorem dX4_keep_21 : decode cX4_keep 21 = .ok (.goto 4, 3) := by decide +kernel
theorem dX4_keep_24 : decode cX4_keep 24 = .ok (.iconst 0, 1) := by decide +kernel
theorem dX4_keep_25 : decode cX4_keep 25 = .ok (.istore_n 2, 1) := by decide +kernel
theorem dX4_keep_26 : decode cX4_keep 26 = .ok (.aload_n 0, 1) := by decide +kernel
theorem dX4_keep_27 : decode cX4_keep 27 = .ok (.getfield 23, 3) := by decide +kernel
theorem dX4_keep_30 : decode cX4_keep 30 = .ok (.iload_n 1, 1) := by decide +kernel
theorem dX4_keep_31 : decode cX4_keep 31 = .ok (.aaload, 1) := by decide +kernel
theorem dX4_keep_32 : decode cX4_keep 32 = .ok (.aload_n 0, 1) := by decide +kernel
theorem dX4_keep_33 : decode cX4_keep 33 = .ok (.getfield 16, 3) := by decide +kernel
theorem dX4_keep_36 : decode cX4_keep 36 = .ok (.invokevirtual 75, 3) := by decide +kernel
theorem dX4_keep_39 : decode cX4_keep 39 = .ok (.aload_n 0, 1) := by decide +kernel
theorem dX4_keep_40 : decode cX4_keep 40 = .ok (.getfield 27, 3) := by decide +kernel
theorem dX4_keep_43 : decode cX4_keep 43 = .ok (.iload_n 1, 1) := by decide +kernel
theorem dX4_keep_44 : decode cX4_keep 44 = .ok (.iconst 1, 1) := by decide +kernel
theorem dX4_keep_45 : decode cX4_keep 45 = .ok (.bastore, 1) := by decide +kernel
theorem dX4_keep_46 : decode cX4_keep 46 = .ok (.iload_n 2, 1) := by decide +kernel
theorem dX4_keep_47 : decode cX4_keep 47 = .ok (.ireturn, 1) := by decide +kernel
theorem dX4_back_0 : decode cX4_back 0 = .ok (.iload_n 1, 1) := by decide +kernel
theorem dX4_back_1 : decode cX4_back 1 = .ok (.iconst 0, 1) := by decide +kernel
theorem dX4_back_2 : decode cX4_back 2 = .ok (.iconst 1, 1) := by decide +kernel
theorem dX4_back_3 : decode cX4_back 3 = .ok (.invokestatic 54, 3) := by decide +kernel
theorem dX4_back_6 : decode cX4_back 6 = .ok (.ifCond .ne 5, 3) := by decide +kernel
theorem dX4_back_9 : decode cX4_back 9 = .ok (.iconst (-1), 1) := by decide +kernel
theorem dX4_back_10 : decode cX4_back 10 = .ok (.ireturn, 1) := by decide +kernel
theorem dX4_back_11 : decode cX4_back 11 = .ok (.aload_n 0, 1) := by decide +kernel
theorem dX4_back_12 : decode cX4_back 12 = .ok (.getfield 27, 3) := by decide +kernel
theorem dX4_back_15 : decode cX4_back 15 = .ok (.iload_n 1, 1) := by decide +kernel
theorem dX4_back_16 : decode cX4_back 16 = .ok (.baload, 1) := by decide +kernel
theorem dX4_back_17 : decode cX4_back 17 = .ok (.ifCond .ne 6, 3) := by decide +kernel
theorem dX4_back_20 : decode cX4_back 20 = .ok (.bipush (-2), 2) := by decide +kernel
theorem dX4_back_22 : decode cX4_back 22 = .ok (.ireturn, 1) := by decide +kernel
theorem dX4_back_23 : decode cX4_back 23 = .ok (.aload_n 0, 1) := by decide +kernel
theorem dX4_back_24 : decode cX4_back 24 = .ok (.getfield 16, 3) := by decide +kernel
theorem dX4_back_27 : decode cX4_back 27 = .ok (.aload_n 0, 1) := by decide +kernel
theorem dX4_back_28 : decode cX4_back 28 = .ok (.getfield 23, 3) := by decide +kernel
theorem dX4_back_31 : decode cX4_back 31 = .ok (.iload_n 1, 1) := by decide +kernel
theorem dX4_back_32 : decode cX4_back 32 = .ok (.aaload, 1) := by decide +kernel
theorem dX4_back_33 : decode cX4_back 33 = .ok (.invokevirtual 75, 3) := by decide +kernel
theorem dX4_back_36 : decode cX4_back 36 = .ok (.aload_n 0, 1) := by decide +kernel
theorem dX4_back_37 : decode cX4_back 37 = .ok (.getfield 16, 3) := by decide +kernel
theorem dX4_back_40 : decode cX4_back 40 = .ok (.getfield 85, 3) := by decide +kernel
theorem dX4_back_43 : decode cX4_back 43 = .ok (.ireturn, 1) := by decide +kernel
theorem dX4_sheet_0 : decode cX4_sheet 0 = .ok (.iload_n 1, 1) := by decide +kernel
theorem dX4_sheet_1 : decode cX4_sheet 1 = .ok (.invokestatic 271, 3) := by decide +kernel
theorem dX4_sheet_4 : decode cX4_sheet 4 = .ok (.ifCond .eq 16, 3) := by decide +kernel
theorem dX4_sheet_7 : decode cX4_sheet 7 = .ok (.iload_n 2, 1) := by decide +kernel
theorem dX4_sheet_8 : decode cX4_sheet 8 = .ok (.invokestatic 274, 3) := by decide +kernel
theorem dX4_sheet_11 : decode cX4_sheet 11 = .ok (.ifCond .eq 9, 3) := by decide +kernel
theorem dX4_sheet_14 : decode cX4_sheet 14 = .ok (.iload_n 3, 1) := by decide +kernel
theorem dX4_sheet_15 : decode cX4_sheet 15 = .ok (.bipush 40, 2) := by decide +kernel
theorem dX4_sheet_17 : decode cX4_sheet 17 = .ok (.if_icmp .le 5, 3) := by decide +kernel
theorem dX4_sheet_20 : decode cX4_sheet 20 = .ok (.iconst (-1), 1) := by decide +kernel
theorem dX4_sheet_21 : decode cX4_sheet 21 = .ok (.ireturn, 1) := by decide +kernel
theorem dX4_sheet_22 : decode cX4_sheet 22 = .ok (.iload_n 3, 1) := by decide +kernel
theorem dX4_sheet_23 : decode cX4_sheet 23 = .ok (.ifCond .ge 6, 3) := by decide +kernel
theorem dX4_sheet_26 : decode cX4_sheet 26 = .ok (.bipush (-14), 2) := by decide +kernel
theorem dX4_sheet_28 : decode cX4_sheet 28 = .ok (.ireturn, 1) := by decide +kernel
theorem dX4_sheet_29 : decode cX4_sheet 29 = .ok (.aload_n 0, 1) := by decide +kernel
theorem dX4_sheet_30 : decode cX4_sheet 30 = .ok (.getfield 33, 3) := by decide +kernel
theorem dX4_sheet_33 : decode cX4_sheet 33 = .ok (.iload_n 1, 1) := by decide +kernel
theorem dX4_sheet_34 : decode cX4_sheet 34 = .ok (.aaload, 1) := by decide +kernel
theorem dX4_sheet_35 : decode cX4_sheet 35 = .ok (.iload_n 2, 1) := by decide +kernel
theorem dX4_sheet_36 : decode cX4_sheet 36 = .ok (.iload_n 3, 1) := by decide +kernel
theorem dX4_sheet_37 : decode cX4_sheet 37 = .ok (.invokevirtual 277, 3) := by decide +kernel
theorem dX4_sheet_40 : decode cX4_sheet 40 = .ok (.iconst 1, 1) := by decide +kernel
theorem dX4_sheet_41 : decode cX4_sheet 41 = .ok (.ireturn, 1) := by decide +kernel
theorem dX4_lay_0 : decode cX4_lay 0 = .ok (.iload_n 1, 1) := by decide +kernel
theorem dX4_lay_1 : decode cX4_lay 1 = .ok (.invokestatic 271, 3) := by decide +kernel
theorem dX4_lay_4 : decode cX4_lay 4 = .ok (.ifCond .ne 5, 3) := by decide +kernel
theorem dX4_lay_7 : decode cX4_lay 7 = .ok (.iconst (-1), 1) := by decide +kernel
theorem dX4_lay_8 : decode cX4_lay 8 = .ok (.ireturn, 1) := by decide +kernel
theorem dX4_lay_9 : decode cX4_lay 9 = .ok (.aload_n 0, 1) := by decide +kernel
theorem dX4_lay_10 : decode cX4_lay 10 = .ok (.getfield 33, 3) := by decide +kernel
theorem dX4_lay_13 : decode cX4_lay 13 = .ok (.iload_n 1, 1) := by decide +kernel
theorem dX4_lay_14 : decode cX4_lay 14 = .ok (.aaload, 1) := by decide +kernel
theorem dX4_lay_15 : decode cX4_lay 15 = .ok (.iload_n 2, 1) := by decide +kernel
theorem dX4_lay_16 : decode cX4_lay 16 = .ok (.invokevirtual 280, 3) := by decide +kernel
theorem dX4_lay_19 : decode cX4_lay 19 = .ok (.istore 4, 2) := by decide +kernel
theorem dX4_lay_21 : decode cX4_lay 21 = .ok (.iload 4, 2) := by decide +kernel
theorem dX4_lay_23 : decode cX4_lay 23 = .ok (.ifCond .eq 9, 3) := by decide +kernel
theorem dX4_lay_26 : decode cX4_lay 26 = .ok (.bipush (-10), 2) := by decide +kernel
theorem dX4_lay_28 : decode cX4_lay 28 = .ok (.iload 4, 2) := by decide +kernel
theorem dX4_lay_30 : decode cX4_lay 30 = .ok (.isub, 1) := by decide +kernel
theorem dX4_lay_31 : decode cX4_lay 31 = .ok (.ireturn, 1) := by decide +kernel
theorem dX4_lay_32 : decode cX4_lay 32 = .ok (.aload_n 0, 1) := by decide +kernel
theorem dX4_lay_33 : decode cX4_lay 33 = .ok (.getfield 33, 3) := by decide +kernel
theorem dX4_lay_36 : decode cX4_lay 36 = .ok (.iload_n 1, 1) := by decide +kernel
theorem dX4_lay_37 : decode cX4_lay 37 = .ok (.aaload, 1) := by decide +kernel
theorem dX4_lay_38 : decode cX4_lay 38 = .ok (.iload_n 2, 1) := by decide +kernel
theorem dX4_lay_39 : decode cX4_lay 39 = .ok (.iload_n 3, 1) := by decide +kernel
theorem dX4_lay_40 : decode cX4_lay 40 = .ok (.invokevirtual 283, 3) := by decide +kernel
theorem dX4_lay_43 : decode cX4_lay 43 = .ok (.iconst 1, 1) := by decide +kernel
theorem dX4_lay_44 : decode cX4_lay 44 = .ok (.ireturn, 1) := by decide +kernel
theorem dX4_read_0 : decode cX4_read 0 = .ok (.iload_n 1, 1) := by decide +kernel
theorem dX4_read_1 : decode cX4_read 1 = .ok (.invokestatic 271, 3) := by decide +kernel
theorem dX4_read_4 : decode cX4_read 4 = .ok (.ifCond .eq 21, 3) := by decide +kernel
theorem dX4_read_7 : decode cX4_read 7 = .ok (.iload_n 2, 1) := by decide +kernel
theorem dX4_read_8 : decode cX4_read 8 = .ok (.invokestatic 274, 3) := by decide +kernel
theorem dX4_read_11 : decode cX4_read 11 = .ok (.ifCond .eq 14, 3) := by decide +kernel
theorem dX4_read_14 : decode cX4_read 14 = .ok (.iload 4, 2) := by decide +kernel
theorem dX4_read_16 : decode cX4_read 16 = .ok (.iconst 0, 1) := by decide +kernel
theorem dX4_read_17 : decode cX4_read 17 = .ok (.bipush 13, 2) := by decide +kernel
theorem dX4_read_19 : decode cX4_read 19 = .ok (.invokestatic 54, 3) := by decide +kernel
theorem dX4_read_22 : decode cX4_read 22 = .ok (.ifCond .ne 5, 3) := by decide +kernel
theorem dX4_read_25 : decode cX4_read 25 = .ok (.iconst (-1), 1) := by decide +kernel
theorem dX4_read_26 : decode cX4_read 26 = .ok (.ireturn, 1) := by decide +kernel
theorem dX4_read_27 : decode cX4_read 27 = .ok (.aload_n 0, 1) := by decide +kernel
theorem dX4_read_28 : decode cX4_read 28 = .ok (.getfield 33, 3) := by decide +kernel
theorem dX4_read_31 : decode cX4_read 31 = .ok (.iload_n 1, 1) := by decide +kernel
theorem dX4_read_32 : decode cX4_read 32 = .ok (.aaload, 1) := by decide +kernel
theorem dX4_read_33 : decode cX4_read 33 = .ok (.astore 5, 2) := by decide +kernel
theorem dX4_read_35 : decode cX4_read 35 = .ok (.aload_n 0, 1) := by decide +kernel
theorem dX4_read_36 : decode cX4_read 36 = .ok (.getfield 16, 3) := by decide +kernel
theorem dX4_read_39 : decode cX4_read 39 = .ok (.getfield 82, 3) := by decide +kernel
theorem dX4_read_42 : decode cX4_read 42 = .ok (.istore 6, 2) := by decide +kernel
theorem dX4_read_44 : decode cX4_read 44 = .ok (.iconst 0, 1) := by decide +kernel
theorem dX4_read_45 : decode cX4_read 45 = .ok (.istore 7, 2) := by decide +kernel
theorem dX4_read_47 : decode cX4_read 47 = .ok (.iconst 0, 1) := by decide +kernel
theorem dX4_read_48 : decode cX4_read 48 = .ok (.istore 8, 2) := by decide +kernel
theorem dX4_read_50 : decode cX4_read 50 = .ok (.iconst 0, 1) := by decide +kernel
theorem dX4_read_51 : decode cX4_read 51 = .ok (.istore 9, 2) := by decide +kernel
theorem dX4_read_53 : decode cX4_read 53 = .ok (.iload 9, 2) := by decide +kernel
theorem dX4_read_55 : decode cX4_read 55 = .ok (.iload 4, 2) := by decide +kernel
theorem dX4_read_57 : decode cX4_read 57 = .ok (.if_icmp .ge 87, 3) := by decide +kernel
theorem dX4_read_60 : decode cX4_read 60 = .ok (.iload 7, 2) := by decide +kernel
theorem dX4_read_62 : decode cX4_read 62 = .ok (.ifCond .ne 82, 3) := by decide +kernel
theorem dX4_read_65 : decode cX4_read 65 = .ok (.iload_n 3, 1) := by decide +kernel
theorem dX4_read_66 : decode cX4_read 66 = .ok (.iconst 3, 1) := by decide +kernel
theorem dX4_read_67 : decode cX4_read 67 = .ok (.iload 9, 2) := by decide +kernel
theorem dX4_read_69 : decode cX4_read 69 = .ok (.imul, 1) := by decide +kernel
theorem dX4_read_70 : decode cX4_read 70 = .ok (.iadd, 1) := by decide +kernel
theorem dX4_read_71 : decode cX4_read 71 = .ok (.istore 10, 2) := by decide +kernel
theorem dX4_read_73 : decode cX4_read 73 = .ok (.aload 5, 2) := by decide +kernel
theorem dX4_read_75 : decode cX4_read 75 = .ok (.iload_n 2, 1) := by decide +kernel
theorem dX4_read_76 : decode cX4_read 76 = .ok (.iload 10, 2) := by decide +kernel
theorem dX4_read_78 : decode cX4_read 78 = .ok (.invokevirtual 286, 3) := by decide +kernel
theorem dX4_read_81 : decode cX4_read 81 = .ok (.istore 7, 2) := by decide +kernel
theorem dX4_read_83 : decode cX4_read 83 = .ok (.iload 7, 2) := by decide +kernel
theorem dX4_read_85 : decode cX4_read 85 = .ok (.ifCond .ne 53, 3) := by decide +kernel
theorem dX4_read_88 : decode cX4_read 88 = .ok (.aload_n 0, 1) := by decide +kernel
theorem dX4_read_89 : decode cX4_read 89 = .ok (.aload 5, 2) := by decide +kernel
theorem dX4_read_91 : decode cX4_read 91 = .ok (.iload 10, 2) := by decide +kernel
theorem dX4_read_93 : decode cX4_read 93 = .ok (.invokevirtual 289, 3) := by decide +kernel
theorem dX4_read_96 : decode cX4_read 96 = .ok (.aload 5, 2) := by decide +kernel
theorem dX4_read_98 : decode cX4_read 98 = .ok (.iload 10, 2) := by decide +kernel
theorem dX4_read_100 : decode cX4_read 100 = .ok (.iconst 1, 1) := by decide +kernel
theorem dX4_read_101 : decode cX4_read 101 = .ok (.iadd, 1) := by decide +kernel
theorem dX4_read_102 : decode cX4_read 102 = .ok (.invokevirtual 289, 3) := by decide +kernel
theorem dX4_read_105 : decode cX4_read 105 = .ok (.aload 5, 2) := by decide +kernel
theorem dX4_read_107 : decode cX4_read 107 = .ok (.iload 10, 2) := by decide +kernel
theorem dX4_read_109 : decode cX4_read 109 = .ok (.iconst 2, 1) := by decide +kernel
theorem dX4_read_110 : decode cX4_read 110 = .ok (.iadd, 1) := by decide +kernel
theorem dX4_read_111 : decode cX4_read 111 = .ok (.invokevirtual 289, 3) := by decide +kernel
theorem dX4_read_114 : decode cX4_read 114 = .ok (.invokevirtual 147, 3) := by decide +kernel
theorem dX4_read_117 : decode cX4_read 117 = .ok (.ifCond .ge 18, 3) := by decide +kernel
theorem dX4_read_120 : decode cX4_read 120 = .ok (.aload_n 0, 1) := by decide +kernel
theorem dX4_read_121 : decode cX4_read 121 = .ok (.getfield 16, 3) := by decide +kernel
theorem dX4_read_124 : decode cX4_read 124 = .ok (.iload 6, 2) := by decide +kernel
theorem dX4_read_126 : decode cX4_read 126 = .ok (.putfield 82, 3) := by decide +kernel
theorem dX4_read_129 : decode cX4_read 129 = .ok (.bipush (-20), 2) := by decide +kernel
theorem dX4_read_131 : decode cX4_read 131 = .ok (.iload 9, 2) := by decide +kernel
theorem dX4_read_133 : decode cX4_read 133 = .ok (.isub, 1) := by decide +kernel
theorem dX4_read_134 : decode cX4_read 134 = .ok (.ireturn, 1) := by decide +kernel
theorem dX4_read_135 : decode cX4_read 135 = .ok (.iinc 8 1, 3) := by decide +kernel
theorem dX4_read_138 : decode cX4_read 138 = .ok (.iinc 9 1, 3) := by decide +kernel
theorem dX4_read_141 : decode cX4_read 141 = .ok (.goto (-88), 3) := by decide +kernel
theorem dX4_read_144 : decode cX4_read 144 = .ok (.aload_n 0, 1) := by decide +kernel
theorem dX4_read_145 : decode cX4_read 145 = .ok (.iload 7, 2) := by decide +kernel
theorem dX4_read_147 : decode cX4_read 147 = .ok (.putfield 292, 3) := by decide +kernel
theorem dX4_read_150 : decode cX4_read 150 = .ok (.iload 8, 2) := by decide +kernel
theorem dX4_read_152 : decode cX4_read 152 = .ok (.ireturn, 1) := by decide +kernel
theorem dX4_torn_0 : decode cX4_torn 0 = .ok (.aload_n 0, 1) := by decide +kernel
theorem dX4_torn_1 : decode cX4_torn 1 = .ok (.getfield 292, 3) := by decide +kernel
theorem dX4_torn_4 : decode cX4_torn 4 = .ok (.ireturn, 1) := by decide +kernel
theorem dX4_count_0 : decode cX4_count 0 = .ok (.iload_n 1, 1) := by decide +kernel
theorem dX4_count_1 : decode cX4_count 1 = .ok (.tableswitch 127 0 5 #[39, 47, 77, 82, 109, 118], 39) := by decide +kernel
theorem dX4_count_40 : decode cX4_count 40 = .ok (.aload_n 0, 1) := by decide +kernel
theorem dX4_count_41 : decode cX4_count 41 = .ok (.getfield 16, 3) := by decide +kernel
theorem dX4_count_44 : decode cX4_count 44 = .ok (.getfield 247, 3) := by decide +kernel
theorem dX4_count_47 : decode cX4_count 47 = .ok (.ireturn, 1) := by decide +kernel
theorem dX4_count_48 : decode cX4_count 48 = .ok (.aload_n 0, 1) := by decide +kernel
theorem dX4_count_49 : decode cX4_count 49 = .ok (.getfield 27, 3) := by decide +kernel
theorem dX4_count_52 : decode cX4_count 52 = .ok (.iconst 0, 1) := by decide +kernel
theorem dX4_count_53 : decode cX4_count 53 = .ok (.baload, 1) := by decide +kernel
theorem dX4_count_54 : decode cX4_count 54 = .ok (.ifCond .eq 7, 3) := by decide +kernel
theorem dX4_count_57 : decode cX4_count 57 = .ok (.iconst 1, 1) := by decide +kernel
theorem dX4_count_58 : decode cX4_count 58 = .ok (.goto 4, 3) := by decide +kernel
theorem dX4_count_61 : decode cX4_count 61 = .ok (.iconst 0, 1) := by decide +kernel
theorem dX4_count_62 : decode cX4_count 62 = .ok (.aload_n 0, 1) := by decide +kernel
theorem dX4_count_63 : decode cX4_count 63 = .ok (.getfield 27, 3) := by decide +kernel
theorem dX4_count_66 : decode cX4_count 66 = .ok (.iconst 1, 1) := by decide +kernel
theorem dX4_count_67 : decode cX4_count 67 = .ok (.baload, 1) := by decide +kernel
theorem dX4_count_68 : decode cX4_count 68 = .ok (.ifCond .eq 7, 3) := by decide +kernel
theorem dX4_count_71 : decode cX4_count 71 = .ok (.iconst 1, 1) := by decide +kernel
theorem dX4_count_72 : decode cX4_count 72 = .ok (.goto 4, 3) := by decide +kernel
theorem dX4_count_75 : decode cX4_count 75 = .ok (.iconst 0, 1) := by decide +kernel
theorem dX4_count_76 : decode cX4_count 76 = .ok (.iadd, 1) := by decide +kernel
theorem dX4_count_77 : decode cX4_count 77 = .ok (.ireturn, 1) := by decide +kernel
theorem dX4_count_78 : decode cX4_count 78 = .ok (.aload_n 0, 1) := by decide +kernel
theorem dX4_count_79 : decode cX4_count 79 = .ok (.getfield 58, 3) := by decide +kernel
theorem dX4_count_82 : decode cX4_count 82 = .ok (.ireturn, 1) := by decide +kernel
