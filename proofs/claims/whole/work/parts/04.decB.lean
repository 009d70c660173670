theorem dX7_init_0 : decode cX7_init 0 = .ok (.aload_n 0, 1) := by decide +kernel
theorem dX7_init_1 : decode cX7_init 1 = .ok (.invokespecial 1, 3) := by decide +kernel
theorem dX7_init_4 : decode cX7_init 4 = .ok (.aload_n 0, 1) := by decide +kernel
theorem dX7_init_5 : decode cX7_init 5 = .ok (.new 7, 3) := by decide +kernel
theorem dX7_init_8 : decode cX7_init 8 = .ok (.dup, 1) := by decide +kernel
theorem dX7_init_9 : decode cX7_init 9 = .ok (.invokespecial 9, 3) := by decide +kernel
theorem dX7_init_12 : decode cX7_init 12 = .ok (.putfield 10, 3) := by decide +kernel
theorem dX7_init_15 : decode cX7_init 15 = .ok (.aload_n 0, 1) := by decide +kernel
theorem dX7_init_16 : decode cX7_init 16 = .ok (.new 7, 3) := by decide +kernel
theorem dX7_init_19 : decode cX7_init 19 = .ok (.dup, 1) := by decide +kernel
theorem dX7_init_20 : decode cX7_init 20 = .ok (.invokespecial 9, 3) := by decide +kernel
theorem dX7_init_23 : decode cX7_init 23 = .ok (.putfield 16, 3) := by decide +kernel
theorem dX7_init_26 : decode cX7_init 26 = .ok (.aload_n 0, 1) := by decide +kernel
theorem dX7_init_27 : decode cX7_init 27 = .ok (.iconst 2, 1) := by decide +kernel
theorem dX7_init_28 : decode cX7_init 28 = .ok (.anewarray 7, 3) := by decide +kernel
theorem dX7_init_31 : decode cX7_init 31 = .ok (.putfield 19, 3) := by decide +kernel
theorem dX7_init_34 : decode cX7_init 34 = .ok (.aload_n 0, 1) := by decide +kernel
theorem dX7_init_35 : decode cX7_init 35 = .ok (.iconst 2, 1) := by decide +kernel
theorem dX7_init_36 : decode cX7_init 36 = .ok (.newarray .boolean, 2) := by decide +kernel
theorem dX7_init_38 : decode cX7_init 38 = .ok (.putfield 23, 3) := by decide +kernel
theorem dX7_init_41 : decode cX7_init 41 = .ok (.aload_n 0, 1) := by decide +kernel
theorem dX7_init_42 : decode cX7_init 42 = .ok (.new 27, 3) := by decide +kernel
theorem dX7_init_45 : decode cX7_init 45 = .ok (.dup, 1) := by decide +kernel
theorem dX7_init_46 : decode cX7_init 46 = .ok (.invokespecial 29, 3) := by decide +kernel
theorem dX7_init_49 : decode cX7_init 49 = .ok (.putfield 30, 3) := by decide +kernel
theorem dX7_init_52 : decode cX7_init 52 = .ok (.aload_n 0, 1) := by decide +kernel
theorem dX7_init_53 : decode cX7_init 53 = .ok (.new 34, 3) := by decide +kernel
theorem dX7_init_56 : decode cX7_init 56 = .ok (.dup, 1) := by decide +kernel
theorem dX7_init_57 : decode cX7_init 57 = .ok (.invokespecial 36, 3) := by decide +kernel
theorem dX7_init_60 : decode cX7_init 60 = .ok (.putfield 37, 3) := by decide +kernel
theorem dX7_init_63 : decode cX7_init 63 = .ok (.aload_n 0, 1) := by decide +kernel
theorem dX7_init_64 : decode cX7_init 64 = .ok (.new 41, 3) := by decide +kernel
theorem dX7_init_67 : decode cX7_init 67 = .ok (.dup, 1) := by decide +kernel
theorem dX7_init_68 : decode cX7_init 68 = .ok (.invokespecial 43, 3) := by decide +kernel
theorem dX7_init_71 : decode cX7_init 71 = .ok (.putfield 44, 3) := by decide +kernel
theorem dX7_init_74 : decode cX7_init 74 = .ok (.aload_n 0, 1) := by decide +kernel
theorem dX7_init_75 : decode cX7_init 75 = .ok (.new 48, 3) := by decide +kernel
theorem dX7_init_78 : decode cX7_init 78 = .ok (.dup, 1) := by decide +kernel
theorem dX7_init_79 : decode cX7_init 79 = .ok (.invokespecial 50, 3) := by decide +kernel
theorem dX7_init_82 : decode cX7_init 82 = .ok (.putfield 51, 3) := by decide +kernel
theorem dX7_init_85 : decode cX7_init 85 = .ok (.aload_n 0, 1) := by decide +kernel
theorem dX7_init_86 : decode cX7_init 86 = .ok (.iconst 4, 1) := by decide +kernel
theorem dX7_init_87 : decode cX7_init 87 = .ok (.anewarray 55, 3) := by decide +kernel
theorem dX7_init_90 : decode cX7_init 90 = .ok (.putfield 57, 3) := by decide +kernel
theorem dX7_init_93 : decode cX7_init 93 = .ok (.iconst 0, 1) := by decide +kernel
theorem dX7_init_94 : decode cX7_init 94 = .ok (.istore_n 1, 1) := by decide +kernel
theorem dX7_init_95 : decode cX7_init 95 = .ok (.iload_n 1, 1) := by decide +kernel
theorem dX7_init_96 : decode cX7_init 96 = .ok (.iconst 2, 1) := by decide +kernel
theorem dX7_init_97 : decode cX7_init 97 = .ok (.if_icmp .ge 22, 3) := by decide +kernel
theorem dX7_init_100 : decode cX7_init 100 = .ok (.aload_n 0, 1) := by decide +kernel
theorem dX7_init_101 : decode cX7_init 101 = .ok (.getfield 19, 3) := by decide +kernel
theorem dX7_init_104 : decode cX7_init 104 = .ok (.iload_n 1, 1) := by decide +kernel
theorem dX7_init_105 : decode cX7_init 105 = .ok (.new 7, 3) := by decide +kernel
theorem dX7_init_108 : decode cX7_init 108 = .ok (.dup, 1) := by decide +kernel
theorem dX7_init_109 : decode cX7_init 109 = .ok (.invokespecial 9, 3) := by decide +kernel
theorem dX7_init_112 : decode cX7_init 112 = .ok (.aastore, 1) := by decide +kernel
theorem dX7_init_113 : decode cX7_init 113 = .ok (.iinc 1 1, 3) := by decide +kernel
theorem dX7_init_116 : decode cX7_init 116 = .ok (.goto (-21), 3) := by decide +kernel
theorem dX7_init_119 : decode cX7_init 119 = .ok (.iconst 0, 1) := by decide +kernel
theorem dX7_init_120 : decode cX7_init 120 = .ok (.istore_n 1, 1) := by decide +kernel
theorem dX7_init_121 : decode cX7_init 121 = .ok (.iload_n 1, 1) := by decide +kernel
theorem dX7_init_122 : decode cX7_init 122 = .ok (.iconst 4, 1) := by decide +kernel
theorem dX7_init_123 : decode cX7_init 123 = .ok (.if_icmp .ge 22, 3) := by decide +kernel
theorem dX7_init_126 : decode cX7_init 126 = .ok (.aload_n 0, 1) := by decide +kernel
theorem dX7_init_127 : decode cX7_init 127 = .ok (.getfield 57, 3) := by decide +kernel
theorem dX7_init_130 : decode cX7_init 130 = .ok (.iload_n 1, 1) := by decide +kernel
theorem dX7_init_131 : decode cX7_init 131 = .ok (.new 55, 3) := by decide +kernel
theorem dX7_init_134 : decode cX7_init 134 = .ok (.dup, 1) := by decide +kernel
theorem dX7_init_135 : decode cX7_init 135 = .ok (.invokespecial 61, 3) := by decide +kernel
theorem dX7_init_138 : decode cX7_init 138 = .ok (.aastore, 1) := by decide +kernel
theorem dX7_init_139 : decode cX7_init 139 = .ok (.iinc 1 1, 3) := by decide +kernel
theorem dX7_init_142 : decode cX7_init 142 = .ok (.goto (-21), 3) := by decide +kernel
theorem dX7_init_145 : decode cX7_init 145 = .ok (.return_, 1) := by decide +kernel
theorem dX7_feed_0 : decode cX7_feed 0 = .ok (.iload_n 1, 1) := by decide +kernel
theorem dX7_feed_1 : decode cX7_feed 1 = .ok (.ifCond .lt 9, 3) := by decide +kernel
theorem dX7_feed_4 : decode cX7_feed 4 = .ok (.iload_n 1, 1) := by decide +kernel
theorem dX7_feed_5 : decode cX7_feed 5 = .ok (.bipush 127, 2) := by decide +kernel
theorem dX7_feed_7 : decode cX7_feed 7 = .ok (.if_icmp .le 5, 3) := by decide +kernel
theorem dX7_feed_10 : decode cX7_feed 10 = .ok (.iconst (-1), 1) := by decide +kernel
theorem dX7_feed_11 : decode cX7_feed 11 = .ok (.ireturn, 1) := by decide +kernel
theorem dX7_feed_12 : decode cX7_feed 12 = .ok (.aload_n 0, 1) := by decide +kernel
theorem dX7_feed_13 : decode cX7_feed 13 = .ok (.getfield 30, 3) := by decide +kernel
theorem dX7_feed_16 : decode cX7_feed 16 = .ok (.getfield 62, 3) := by decide +kernel
theorem dX7_feed_19 : decode cX7_feed 19 = .ok (.getfield 66, 3) := by decide +kernel
theorem dX7_feed_22 : decode cX7_feed 22 = .ok (.sipush 160, 3) := by decide +kernel
theorem dX7_feed_25 : decode cX7_feed 25 = .ok (.if_icmp .lt 6, 3) := by decide +kernel
theorem dX7_feed_28 : decode cX7_feed 28 = .ok (.bipush (-3), 2) := by decide +kernel
theorem dX7_feed_30 : decode cX7_feed 30 = .ok (.ireturn, 1) := by decide +kernel
theorem dX7_feed_31 : decode cX7_feed 31 = .ok (.aload_n 0, 1) := by decide +kernel
theorem dX7_feed_32 : decode cX7_feed 32 = .ok (.getfield 30, 3) := by decide +kernel
theorem dX7_feed_35 : decode cX7_feed 35 = .ok (.getfield 62, 3) := by decide +kernel
theorem dX7_feed_38 : decode cX7_feed 38 = .ok (.iload_n 1, 1) := by decide +kernel
theorem dX7_feed_39 : decode cX7_feed 39 = .ok (.invokevirtual 72, 3) := by decide +kernel
theorem dX7_feed_42 : decode cX7_feed 42 = .ok (.aload_n 0, 1) := by decide +kernel
theorem dX7_feed_43 : decode cX7_feed 43 = .ok (.getfield 30, 3) := by decide +kernel
theorem dX7_feed_46 : decode cX7_feed 46 = .ok (.getfield 62, 3) := by decide +kernel
theorem dX7_feed_49 : decode cX7_feed 49 = .ok (.getfield 66, 3) := by decide +kernel
theorem dX7_feed_52 : decode cX7_feed 52 = .ok (.ireturn, 1) := by decide +kernel
theorem dX7_end_0 : decode cX7_end 0 = .ok (.iload_n 1, 1) := by decide +kernel
theorem dX7_end_1 : decode cX7_end 1 = .ok (.ifCond .lt 17, 3) := by decide +kernel
theorem dX7_end_4 : decode cX7_end 4 = .ok (.iload_n 1, 1) := by decide +kernel
theorem dX7_end_5 : decode cX7_end 5 = .ok (.aload_n 0, 1) := by decide +kernel
theorem dX7_end_6 : decode cX7_end 6 = .ok (.getfield 30, 3) := by decide +kernel
theorem dX7_end_9 : decode cX7_end 9 = .ok (.getfield 62, 3) := by decide +kernel
theorem dX7_end_12 : decode cX7_end 12 = .ok (.getfield 66, 3) := by decide +kernel
theorem dX7_end_15 : decode cX7_end 15 = .ok (.if_icmp .le 5, 3) := by decide +kernel
theorem dX7_end_18 : decode cX7_end 18 = .ok (.iconst (-1), 1) := by decide +kernel
theorem dX7_end_19 : decode cX7_end 19 = .ok (.ireturn, 1) := by decide +kernel
theorem dX7_end_20 : decode cX7_end 20 = .ok (.aload_n 0, 1) := by decide +kernel
theorem dX7_end_21 : decode cX7_end 21 = .ok (.getfield 30, 3) := by decide +kernel
theorem dX7_end_24 : decode cX7_end 24 = .ok (.getfield 62, 3) := by decide +kernel
theorem dX7_end_27 : decode cX7_end 27 = .ok (.getfield 66, 3) := by decide +kernel
theorem dX7_end_30 : decode cX7_end 30 = .ok (.istore_n 2, 1) := by decide +kernel
theorem dX7_end_31 : decode cX7_end 31 = .ok (.aload_n 0, 1) := by decide +kernel
theorem dX7_end_32 : decode cX7_end 32 = .ok (.getfield 30, 3) := by decide +kernel
theorem dX7_end_35 : decode cX7_end 35 = .ok (.getfield 62, 3) := by decide +kernel
theorem dX7_end_38 : decode cX7_end 38 = .ok (.iload_n 1, 1) := by decide +kernel
theorem dX7_end_39 : decode cX7_end 39 = .ok (.putfield 66, 3) := by decide +kernel
theorem dX7_end_42 : decode cX7_end 42 = .ok (.iload_n 2, 1) := by decide +kernel
theorem dX7_end_43 : decode cX7_end 43 = .ok (.ireturn, 1) := by decide +kernel
theorem dX7_text_0 : decode cX7_text 0 = .ok (.aload_n 0, 1) := by decide +kernel
theorem dX7_text_1 : decode cX7_text 1 = .ok (.getfield 30, 3) := by decide +kernel
theorem dX7_text_4 : decode cX7_text 4 = .ok (.invokevirtual 76, 3) := by decide +kernel
theorem dX7_text_7 : decode cX7_text 7 = .ok (.aload_n 0, 1) := by decide +kernel
theorem dX7_text_8 : decode cX7_text 8 = .ok (.getfield 30, 3) := by decide +kernel
theorem dX7_text_11 : decode cX7_text 11 = .ok (.getfield 62, 3) := by decide +kernel
theorem dX7_text_14 : decode cX7_text 14 = .ok (.iconst 0, 1) := by decide +kernel
theorem dX7_text_15 : decode cX7_text 15 = .ok (.putfield 66, 3) := by decide +kernel
theorem dX7_text_18 : decode cX7_text 18 = .ok (.aload_n 0, 1) := by decide +kernel
theorem dX7_text_19 : decode cX7_text 19 = .ok (.getfield 30, 3) := by decide +kernel
theorem dX7_text_22 : decode cX7_text 22 = .ok (.getfield 79, 3) := by decide +kernel
theorem dX7_text_25 : decode cX7_text 25 = .ok (.ifCond .eq 14, 3) := by decide +kernel
theorem dX7_text_28 : decode cX7_text 28 = .ok (.bipush (-10), 2) := by decide +kernel
theorem dX7_text_30 : decode cX7_text 30 = .ok (.aload_n 0, 1) := by decide +kernel
theorem dX7_text_31 : decode cX7_text 31 = .ok (.getfield 30, 3) := by decide +kernel
theorem dX7_text_34 : decode cX7_text 34 = .ok (.getfield 82, 3) := by decide +kernel
theorem dX7_text_37 : decode cX7_text 37 = .ok (.isub, 1) := by decide +kernel
theorem dX7_text_38 : decode cX7_text 38 = .ok (.ireturn, 1) := by decide +kernel
theorem dX7_text_39 : decode cX7_text 39 = .ok (.aload_n 0, 1) := by decide +kernel
theorem dX7_text_40 : decode cX7_text 40 = .ok (.getfield 10, 3) := by decide +kernel
theorem dX7_text_43 : decode cX7_text 43 = .ok (.aload_n 0, 1) := by decide +kernel
theorem dX7_text_44 : decode cX7_text 44 = .ok (.getfield 30, 3) := by decide +kernel
theorem dX7_text_47 : decode cX7_text 47 = .ok (.getfield 85, 3) := by decide +kernel
theorem dX7_text_50 : decode cX7_text 50 = .ok (.invokevirtual 88, 3) := by decide +kernel
theorem dX7_text_53 : decode cX7_text 53 = .ok (.aload_n 0, 1) := by decide +kernel
theorem dX7_text_54 : decode cX7_text 54 = .ok (.getfield 37, 3) := by decide +kernel
theorem dX7_text_57 : decode cX7_text 57 = .ok (.iconst 0, 1) := by decide +kernel
theorem dX7_text_58 : decode cX7_text 58 = .ok (.putfield 92, 3) := by decide +kernel
theorem dX7_text_61 : decode cX7_text 61 = .ok (.iconst 0, 1) := by decide +kernel
theorem dX7_text_62 : decode cX7_text 62 = .ok (.istore_n 1, 1) := by decide +kernel
theorem dX7_text_63 : decode cX7_text 63 = .ok (.iload_n 1, 1) := by decide +kernel
theorem dX7_text_64 : decode cX7_text 64 = .ok (.iconst 2, 1) := by decide +kernel
theorem dX7_text_65 : decode cX7_text 65 = .ok (.if_icmp .ge 16, 3) := by decide +kernel
theorem dX7_text_68 : decode cX7_text 68 = .ok (.aload_n 0, 1) := by decide +kernel
theorem dX7_text_69 : decode cX7_text 69 = .ok (.getfield 23, 3) := by decide +kernel
theorem dX7_text_72 : decode cX7_text 72 = .ok (.iload_n 1, 1) := by decide +kernel
theorem dX7_text_73 : decode cX7_text 73 = .ok (.iconst 0, 1) := by decide +kernel
theorem dX7_text_74 : decode cX7_text 74 = .ok (.bastore, 1) := by decide +kernel
theorem dX7_text_75 : decode cX7_text 75 = .ok (.iinc 1 1, 3) := by decide +kernel
theorem dX7_text_78 : decode cX7_text 78 = .ok (.goto (-15), 3) := by decide +kernel
theorem dX7_text_81 : decode cX7_text 81 = .ok (.aload_n 0, 1) := by decide +kernel
theorem dX7_text_82 : decode cX7_text 82 = .ok (.getfield 30, 3) := by decide +kernel
theorem dX7_text_85 : decode cX7_text 85 = .ok (.getfield 95, 3) := by decide +kernel
theorem dX7_text_88 : decode cX7_text 88 = .ok (.ireturn, 1) := by decide +kernel
theorem dX7_fault_0 : decode cX7_fault 0 = .ok (.aload_n 0, 1) := by decide +kernel
theorem dX7_fault_1 : decode cX7_fault 1 = .ok (.getfield 30, 3) := by decide +kernel
theorem dX7_fault_4 : decode cX7_fault 4 = .ok (.getfield 79, 3) := by decide +kernel
theorem dX7_fault_7 : decode cX7_fault 7 = .ok (.ireturn, 1) := by decide +kernel
theorem dX7_rule_0 : decode cX7_rule 0 = .ok (.iload_n 1, 1) := by decide +kernel
theorem dX7_rule_1 : decode cX7_rule 1 = .ok (.tableswitch 119 0 6 #[43, 51, 59, 67, 75, 83, 101], 43) := by decide +kernel
theorem dX7_rule_44 : decode cX7_rule 44 = .ok (.aload_n 0, 1) := by decide +kernel
theorem dX7_rule_45 : decode cX7_rule 45 = .ok (.getfield 10, 3) := by decide +kernel
theorem dX7_rule_48 : decode cX7_rule 48 = .ok (.getfield 98, 3) := by decide +kernel
theorem dX7_rule_51 : decode cX7_rule 51 = .ok (.ireturn, 1) := by decide +kernel
theorem dX7_rule_52 : decode cX7_rule 52 = .ok (.aload_n 0, 1) := by decide +kernel
theorem dX7_rule_53 : decode cX7_rule 53 = .ok (.getfield 10, 3) := by decide +kernel
theorem dX7_rule_56 : decode cX7_rule 56 = .ok (.getfield 101, 3) := by decide +kernel
theorem dX7_rule_59 : decode cX7_rule 59 = .ok (.ireturn, 1) := by decide +kernel
theorem dX7_rule_60 : decode cX7_rule 60 = .ok (.aload_n 0, 1) := by decide +kernel
theorem dX7_rule_61 : decode cX7_rule 61 = .ok (.getfield 10, 3) := by decide +kernel
theorem dX7_rule_64 : decode cX7_rule 64 = .ok (.getfield 104, 3) := by decide +kernel
theorem dX7_rule_67 : decode cX7_rule 67 = .ok (.ireturn, 1) := by decide +kernel
theorem dX7_rule_68 : decode cX7_rule 68 = .ok (.aload_n 0, 1) := by decide +kernel
theorem dX7_rule_69 : decode cX7_rule 69 = .ok (.getfield 10, 3) := by decide +kernel
theorem dX7_rule_72 : decode cX7_rule 72 = .ok (.getfield 107, 3) := by decide +kernel
theorem dX7_rule_75 : decode cX7_rule 75 = .ok (.ireturn, 1) := by decide +kernel
theorem dX7_rule_76 : decode cX7_rule 76 = .ok (.aload_n 0, 1) := by decide +kernel
theorem dX7_rule_77 : decode cX7_rule 77 = .ok (.getfield 10, 3) := by decide +kernel
theorem dX7_rule_80 : decode cX7_rule 80 = .ok (.getfield 110, 3) := by decide +kernel
theorem dX7_rule_83 : decode cX7_rule 83 = .ok (.ireturn, 1) := by decide +kernel
theorem dX7_rule_84 : decode cX7_rule 84 = .ok (.aload_n 0, 1) := by decide +kernel
theorem dX7_rule_85 : decode cX7_rule 85 = .ok (.getfield 10, 3) := by decide +kernel
theorem dX7_rule_88 : decode cX7_rule 88 = .ok (.aload_n 0, 1) := by decide +kernel
theorem dX7_rule_89 : decode cX7_rule 89 = .ok (.getfield 10, 3) := by decide +kernel
theorem dX7_rule_92 : decode cX7_rule 92 = .ok (.getfield 110, 3) := by decide +kernel
theorem dX7_rule_95 : decode cX7_rule 95 = .ok (.invokevirtual 113, 3) := by decide +kernel
theorem dX7_rule_98 : decode cX7_rule 98 = .ok (.invokestatic 117, 3) := by decide +kernel
theorem dX7_rule_101 : decode cX7_rule 101 = .ok (.ireturn, 1) := by decide +kernel
theorem dX7_rule_102 : decode cX7_rule 102 = .ok (.aload_n 0, 1) := by decide +kernel
theorem dX7_rule_103 : decode cX7_rule 103 = .ok (.getfield 10, 3) := by decide +kernel
theorem dX7_rule_106 : decode cX7_rule 106 = .ok (.aload_n 0, 1) := by decide +kernel
theorem dX7_rule_107 : decode cX7_rule 107 = .ok (.getfield 10, 3) := by decide +kernel
theorem dX7_rule_110 : decode cX7_rule 110 = .ok (.getfield 110, 3) := by decide +kernel
theorem dX7_rule_113 : decode cX7_rule 113 = .ok (.invokevirtual 121, 3) := by decide +kernel
theorem dX7_rule_116 : decode cX7_rule 116 = .ok (.invokestatic 117, 3) := by decide +kernel
theorem dX7_rule_119 : decode cX7_rule 119 = .ok (.ireturn, 1) := by decide +kernel
theorem dX7_rule_120 : decode cX7_rule 120 = .ok (.iconst (-1), 1) := by decide +kernel
theorem dX7_rule_121 : decode cX7_rule 121 = .ok (.ireturn, 1) := by decide +kernel
theorem dX7_thing_0 : decode cX7_thing 0 = .ok (.aload_n 0, 1) := by decide +kernel
theorem dX7_thing_1 : decode cX7_thing 1 = .ok (.getfield 10, 3) := by decide +kernel
theorem dX7_thing_4 : decode cX7_thing 4 = .ok (.iload_n 1, 1) := by decide +kernel
theorem dX7_thing_5 : decode cX7_thing 5 = .ok (.invokevirtual 124, 3) := by decide +kernel
theorem dX7_thing_8 : decode cX7_thing 8 = .ok (.ifCond .ne 5, 3) := by decide +kernel
theorem dX7_thing_11 : decode cX7_thing 11 = .ok (.iconst (-1), 1) := by decide +kernel
theorem dX7_thing_12 : decode cX7_thing 12 = .ok (.ireturn, 1) := by decide +kernel
theorem dX7_thing_13 : decode cX7_thing 13 = .ok (.iload_n 2, 1) := by decide +kernel
theorem dX7_thing_14 : decode cX7_thing 14 = .ok (.tableswitch 95 0 4 #[34, 44, 54, 64, 79], 34) := by decide +kernel
theorem dX7_thing_48 : decode cX7_thing 48 = .ok (.aload_n 0, 1) := by decide +kernel
theorem dX7_thing_49 : decode cX7_thing 49 = .ok (.getfield 10, 3) := by decide +kernel
theorem dX7_thing_52 : decode cX7_thing 52 = .ok (.getfield 127, 3) := by decide +kernel
theorem dX7_thing_55 : decode cX7_thing 55 = .ok (.iload_n 1, 1) := by decide +kernel
theorem dX7_thing_56 : decode cX7_thing 56 = .ok (.iaload, 1) := by decide +kernel
theorem dX7_thing_57 : decode cX7_thing 57 = .ok (.ireturn, 1) := by decide +kernel
theorem dX7_thing_58 : decode cX7_thing 58 = .ok (.aload_n 0, 1) := by decide +kernel
theorem dX7_thing_59 : decode cX7_thing 59 = .ok (.getfield 10, 3) := by decide +kernel
theorem dX7_thing_62 : decode cX7_thing 62 = .ok (.getfield 131, 3) := by decide +kernel
theorem dX7_thing_65 : decode cX7_thing 65 = .ok (.iload_n 1, 1) := by decide +kernel
theorem dX7_thing_66 : decode cX7_thing 66 = .ok (.iaload, 1) := by decide +kernel
theorem dX7_thing_67 : decode cX7_thing 67 = .ok (.ireturn, 1) := by decide +kernel
theorem dX7_thing_68 : decode cX7_thing 68 = .ok (.aload_n 0, 1) := by decide +kernel
theorem dX7_thing_69 : decode cX7_thing 69 = .ok (.getfield 10, 3) := by decide +kernel
theorem dX7_thing_72 : decode cX7_thing 72 = .ok (.getfield 134, 3) := by decide +kernel
theorem dX7_thing_75 : decode cX7_thing 75 = .ok (.iload_n 1, 1) := by decide +kernel
theorem dX7_thing_76 : decode cX7_thing 76 = .ok (.iaload, 1) := by decide +kernel
theorem dX7_thing_77 : decode cX7_thing 77 = .ok (.ireturn, 1) := by decide +kernel
theorem dX7_thing_78 : decode cX7_thing 78 = .ok (.aload_n 0, 1) := by decide +kernel
theorem dX7_thing_79 : decode cX7_thing 79 = .ok (.getfield 10, 3) := by decide +kernel
theorem dX7_thing_82 : decode cX7_thing 82 = .ok (.getfield 110, 3) := by decide +kernel
theorem dX7_thing_85 : decode cX7_thing 85 = .ok (.iload_n 1, 1) := by decide +kernel
theorem dX7_thing_86 : decode cX7_thing 86 = .ok (.invokestatic 137, 3) := by decide +kernel
theorem dX7_thing_89 : decode cX7_thing 89 = .ok (.invokestatic 117, 3) := by decide +kernel
theorem dX7_thing_92 : decode cX7_thing 92 = .ok (.ireturn, 1) := by decide +kernel
theorem dX7_thing_93 : decode cX7_thing 93 = .ok (.aload_n 0, 1) := by decide +kernel
theorem dX7_thing_94 : decode cX7_thing 94 = .ok (.getfield 10, 3) := by decide +kernel
theorem dX7_thing_97 : decode cX7_thing 97 = .ok (.iload_n 1, 1) := by decide +kernel
theorem dX7_thing_98 : decode cX7_thing 98 = .ok (.aload_n 0, 1) := by decide +kernel
theorem dX7_thing_99 : decode cX7_thing 99 = .ok (.getfield 10, 3) := by decide +kernel
theorem dX7_thing_102 : decode cX7_thing 102 = .ok (.getfield 110, 3) := by decide +kernel
theorem dX7_thing_105 : decode cX7_thing 105 = .ok (.invokevirtual 141, 3) := by decide +kernel
theorem dX7_thing_108 : decode cX7_thing 108 = .ok (.ireturn, 1) := by decide +kernel
theorem dX7_thing_109 : decode cX7_thing 109 = .ok (.iconst (-1), 1) := by decide +kernel
theorem dX7_thing_110 : decode cX7_thing 110 = .ok (.ireturn, 1) := by decide +kernel
theorem dX7_guest_0 : decode cX7_guest 0 = .ok (.aload_n 0, 1) := by decide +kernel
theorem dX7_guest_1 : decode cX7_guest 1 = .ok (.getfield 10, 3) := by decide +kernel
theorem dX7_guest_4 : decode cX7_guest 4 = .ok (.iload_n 1, 1) := by decide +kernel
theorem dX7_guest_5 : decode cX7_guest 5 = .ok (.invokevirtual 145, 3) := by decide +kernel
theorem dX7_guest_8 : decode cX7_guest 8 = .ok (.ifCond .eq 10, 3) := by decide +kernel
theorem dX7_guest_11 : decode cX7_guest 11 = .ok (.iload_n 2, 1) := by decide +kernel
theorem dX7_guest_12 : decode cX7_guest 12 = .ok (.invokestatic 148, 3) := by decide +kernel
theorem dX7_guest_15 : decode cX7_guest 15 = .ok (.ifCond .ne 5, 3) := by decide +kernel
theorem dX7_guest_18 : decode cX7_guest 18 = .ok (.iconst (-1), 1) := by decide +kernel
theorem dX7_guest_19 : decode cX7_guest 19 = .ok (.ireturn, 1) := by decide +kernel
theorem dX7_guest_20 : decode cX7_guest 20 = .ok (.iload_n 2, 1) := by decide +kernel
theorem dX7_guest_21 : decode cX7_guest 21 = .ok (.ifCond .ne 15, 3) := by decide +kernel
theorem dX7_guest_24 : decode cX7_guest 24 = .ok (.aload_n 0, 1) := by decide +kernel
theorem dX7_guest_25 : decode cX7_guest 25 = .ok (.getfield 10, 3) := by decide +kernel
theorem dX7_guest_28 : decode cX7_guest 28 = .ok (.getfield 151, 3) := by decide +kernel
theorem dX7_guest_31 : decode cX7_guest 31 = .ok (.iload_n 1, 1) := by decide +kernel
theorem dX7_guest_32 : decode cX7_guest 32 = .ok (.iaload, 1) := by decide +kernel
theorem dX7_guest_33 : decode cX7_guest 33 = .ok (.goto 12, 3) := by decide +kernel
theorem dX7_guest_36 : decode cX7_guest 36 = .ok (.aload_n 0, 1) := by decide +kernel
theorem dX7_guest_37 : decode cX7_guest 37 = .ok (.getfield 10, 3) := by decide +kernel
theorem dX7_guest_40 : decode cX7_guest 40 = .ok (.getfield 154, 3) := by decide +kernel
theorem dX7_guest_43 : decode cX7_guest 43 = .ok (.iload_n 1, 1) := by decide +kernel
theorem dX7_guest_44 : decode cX7_guest 44 = .ok (.iaload, 1) := by decide +kernel
theorem dX7_guest_45 : decode cX7_guest 45 = .ok (.ireturn, 1) := by decide +kernel
theorem dX7_ban_0 : decode cX7_ban 0 = .ok (.aload_n 0, 1) := by decide +kernel
theorem dX7_ban_1 : decode cX7_ban 1 = .ok (.getfield 10, 3) := by decide +kernel
theorem dX7_ban_4 : decode cX7_ban 4 = .ok (.iload_n 1, 1) := by decide +kernel
theorem dX7_ban_5 : decode cX7_ban 5 = .ok (.invokevirtual 157, 3) := by decide +kernel
theorem dX7_ban_8 : decode cX7_ban 8 = .ok (.ifCond .ne 5, 3) := by decide +kernel
theorem dX7_ban_11 : decode cX7_ban 11 = .ok (.iconst (-1), 1) := by decide +kernel
theorem dX7_ban_12 : decode cX7_ban 12 = .ok (.ireturn, 1) := by decide +kernel
theorem dX7_ban_13 : decode cX7_ban 13 = .ok (.iload_n 2, 1) := by decide +kernel
theorem dX7_ban_14 : decode cX7_ban 14 = .ok (.tableswitch 65 0 2 #[26, 36, 46], 26) := by decide +kernel
theorem dX7_ban_40 : decode cX7_ban 40 = .ok (.aload_n 0, 1) := by decide +kernel
theorem dX7_ban_41 : decode cX7_ban 41 = .ok (.getfield 10, 3) := by decide +kernel
theorem dX7_ban_44 : decode cX7_ban 44 = .ok (.getfield 160, 3) := by decide +kernel
theorem dX7_ban_47 : decode cX7_ban 47 = .ok (.iload_n 1, 1) := by decide +kernel
theorem dX7_ban_48 : decode cX7_ban 48 = .ok (.iaload, 1) := by decide +kernel
theorem dX7_ban_49 : decode cX7_ban 49 = .ok (.ireturn, 1) := by decide +kernel
theorem dX7_ban_50 : decode cX7_ban 50 = .ok (.aload_n 0, 1) := by decide +kernel
theorem dX7_ban_51 : decode cX7_ban 51 = .ok (.getfield 10, 3) := by decide +kernel
theorem dX7_ban_54 : decode cX7_ban 54 = .ok (.getfield 163, 3) := by decide +kernel
theorem dX7_ban_57 : decode cX7_ban 57 = .ok (.iload_n 1, 1) := by decide +kernel
theorem dX7_ban_58 : decode cX7_ban 58 = .ok (.iaload, 1) := by decide +kernel
theorem dX7_ban_59 : decode cX7_ban 59 = .ok (.ireturn, 1) := by decide +kernel
theorem dX7_ban_60 : decode cX7_ban 60 = .ok (.aload_n 0, 1) := by decide +kernel
theorem dX7_ban_61 : decode cX7_ban 61 = .ok (.getfield 10, 3) := by decide +kernel
theorem dX7_ban_64 : decode cX7_ban 64 = .ok (.iload_n 1, 1) := by decide +kernel
theorem dX7_ban_65 : decode cX7_ban 65 = .ok (.aload_n 0, 1) := by decide +kernel
theorem dX7_ban_66 : decode cX7_ban 66 = .ok (.getfield 10, 3) := by decide +kernel
theorem dX7_ban_69 : decode cX7_ban 69 = .ok (.getfield 110, 3) := by decide +kernel
theorem dX7_ban_72 : decode cX7_ban 72 = .ok (.invokevirtual 166, 3) := by decide +kernel
theorem dX7_ban_75 : decode cX7_ban 75 = .ok (.invokestatic 117, 3) := by decide +kernel
theorem dX7_ban_78 : decode cX7_ban 78 = .ok (.ireturn, 1) := by decide +kernel
theorem dX7_ban_79 : decode cX7_ban 79 = .ok (.iconst (-1), 1) := by decide +kernel
theorem dX7_ban_80 : decode cX7_ban 80 = .ok (.ireturn, 1) := by decide +kernel
theorem dX7_alter_0 : decode cX7_alter 0 = .ok (.aload_n 0, 1) := by decide +kernel
theorem dX7_alter_1 : decode cX7_alter 1 = .ok (.iload_n 1, 1) := by decide +kernel
theorem dX7_alter_2 : decode cX7_alter 2 = .ok (.iload_n 2, 1) := by decide +kernel
theorem dX7_alter_3 : decode cX7_alter 3 = .ok (.invokevirtual 169, 3) := by decide +kernel
theorem dX7_alter_6 : decode cX7_alter 6 = .ok (.istore 4, 2) := by decide +kernel
theorem dX7_alter_8 : decode cX7_alter 8 = .ok (.iload 4, 2) := by decide +kernel
theorem dX7_alter_10 : decode cX7_alter 10 = .ok (.iconst (-1), 1) := by decide +kernel
theorem dX7_alter_11 : decode cX7_alter 11 = .ok (.if_icmp .eq 20, 3) := by decide +kernel
theorem dX7_alter_14 : decode cX7_alter 14 = .ok (.iload_n 2, 1) := by decide +kernel
theorem dX7_alter_15 : decode cX7_alter 15 = .ok (.iconst 3, 1) := by decide +kernel
theorem dX7_alter_16 : decode cX7_alter 16 = .ok (.if_icmp .gt 15, 3) := by decide +kernel
theorem dX7_alter_19 : decode cX7_alter 19 = .ok (.aload_n 0, 1) := by decide +kernel
theorem dX7_alter_20 : decode cX7_alter 20 = .ok (.getfield 10, 3) := by decide +kernel
theorem dX7_alter_23 : decode cX7_alter 23 = .ok (.iload_n 2, 1) := by decide +kernel
theorem dX7_alter_24 : decode cX7_alter 24 = .ok (.iload_n 3, 1) := by decide +kernel
theorem dX7_alter_25 : decode cX7_alter 25 = .ok (.invokevirtual 172, 3) := by decide +kernel
theorem dX7_alter_28 : decode cX7_alter 28 = .ok (.ifCond .ne 5, 3) := by decide +kernel
theorem dX7_alter_31 : decode cX7_alter 31 = .ok (.iconst (-1), 1) := by decide +kernel
theorem dX7_alter_32 : decode cX7_alter 32 = .ok (.ireturn, 1) := by decide +kernel
theorem dX7_alter_33 : decode cX7_alter 33 = .ok (.iload_n 2, 1) := by decide +kernel
theorem dX7_alter_34 : decode cX7_alter 34 = .ok (.tableswitch 65 0 2 #[26, 39, 52], 26) := by decide +kernel
theorem dX7_alter_60 : decode cX7_alter 60 = .ok (.aload_n 0, 1) := by decide +kernel
theorem dX7_alter_61 : decode cX7_alter 61 = .ok (.getfield 10, 3) := by decide +kernel
theorem dX7_alter_64 : decode cX7_alter 64 = .ok (.getfield 127, 3) := by decide +kernel
theorem dX7_alter_67 : decode cX7_alter 67 = .ok (.iload_n 1, 1) := by decide +kernel
theorem dX7_alter_68 : decode cX7_alter 68 = .ok (.iload_n 3, 1) := by decide +kernel
theorem dX7_alter_69 : decode cX7_alter 69 = .ok (.iastore, 1) := by decide +kernel
theorem dX7_alter_70 : decode cX7_alter 70 = .ok (.goto 63, 3) := by decide +kernel
theorem dX7_alter_73 : decode cX7_alter 73 = .ok (.aload_n 0, 1) := by decide +kernel
theorem dX7_alter_74 : decode cX7_alter 74 = .ok (.getfield 10, 3) := by decide +kernel
theorem dX7_alter_77 : decode cX7_alter 77 = .ok (.getfield 131, 3) := by decide +kernel
theorem dX7_alter_80 : decode cX7_alter 80 = .ok (.iload_n 1, 1) := by decide +kernel
theorem dX7_alter_81 : decode cX7_alter 81 = .ok (.iload_n 3, 1) := by decide +kernel
theorem dX7_alter_82 : decode cX7_alter 82 = .ok (.iastore, 1) := by decide +kernel
theorem dX7_alter_83 : decode cX7_alter 83 = .ok (.goto 50, 3) := by decide +kernel
theorem dX7_alter_86 : decode cX7_alter 86 = .ok (.aload_n 0, 1) := by decide +kernel
theorem dX7_alter_87 : decode cX7_alter 87 = .ok (.getfield 10, 3) := by decide +kernel
theorem dX7_alter_90 : decode cX7_alter 90 = .ok (.getfield 134, 3) := by decide +kernel
theorem dX7_alter_93 : decode cX7_alter 93 = .ok (.iload_n 1, 1) := by decide +kernel
theorem dX7_alter_94 : decode cX7_alter 94 = .ok (.iload_n 3, 1) := by decide +kernel
theorem dX7_alter_95 : decode cX7_alter 95 = .ok (.iastore, 1) := by decide +kernel
theorem dX7_alter_96 : decode cX7_alter 96 = .ok (.goto 37, 3) := by decide +kernel
theorem dX7_alter_99 : decode cX7_alter 99 = .ok (.aload_n 0, 1) := by decide +kernel
theorem dX7_alter_100 : decode cX7_alter 100 = .ok (.getfield 10, 3) := by decide +kernel
theorem dX7_alter_103 : decode cX7_alter 103 = .ok (.iload_n 3, 1) := by decide +kernel
theorem dX7_alter_104 : decode cX7_alter 104 = .ok (.iload 4, 2) := by decide +kernel
theorem dX7_alter_106 : decode cX7_alter 106 = .ok (.if_icmp .ne 13, 3) := by decide +kernel
theorem dX7_alter_109 : decode cX7_alter 109 = .ok (.aload_n 0, 1) := by decide +kernel
theorem dX7_alter_110 : decode cX7_alter 110 = .ok (.getfield 10, 3) := by decide +kernel
theorem dX7_alter_113 : decode cX7_alter 113 = .ok (.getfield 110, 3) := by decide +kernel
theorem dX7_alter_116 : decode cX7_alter 116 = .ok (.goto 14, 3) := by decide +kernel
theorem dX7_alter_119 : decode cX7_alter 119 = .ok (.aload_n 0, 1) := by decide +kernel
theorem dX7_alter_120 : decode cX7_alter 120 = .ok (.getfield 10, 3) := by decide +kernel
theorem dX7_alter_123 : decode cX7_alter 123 = .ok (.getfield 110, 3) := by decide +kernel
theorem dX7_alter_126 : decode cX7_alter 126 = .ok (.iload_n 1, 1) := by decide +kernel
theorem dX7_alter_127 : decode cX7_alter 127 = .ok (.invokestatic 175, 3) := by decide +kernel
theorem dX7_alter_130 : decode cX7_alter 130 = .ok (.putfield 110, 3) := by decide +kernel
theorem dX7_alter_133 : decode cX7_alter 133 = .ok (.iload 4, 2) := by decide +kernel
theorem dX7_alter_135 : decode cX7_alter 135 = .ok (.ireturn, 1) := by decide +kernel
theorem dX7_hire_0 : decode cX7_hire 0 = .ok (.aload_n 0, 1) := by decide +kernel
theorem dX7_hire_1 : decode cX7_hire 1 = .ok (.iload_n 1, 1) := by decide +kernel
theorem dX7_hire_2 : decode cX7_hire 2 = .ok (.iload_n 2, 1) := by decide +kernel
theorem dX7_hire_3 : decode cX7_hire 3 = .ok (.invokevirtual 178, 3) := by decide +kernel
theorem dX7_hire_6 : decode cX7_hire 6 = .ok (.istore 4, 2) := by decide +kernel
theorem dX7_hire_8 : decode cX7_hire 8 = .ok (.iload 4, 2) := by decide +kernel
theorem dX7_hire_10 : decode cX7_hire 10 = .ok (.iconst (-1), 1) := by decide +kernel
theorem dX7_hire_11 : decode cX7_hire 11 = .ok (.if_icmp .ne 5, 3) := by decide +kernel
theorem dX7_hire_14 : decode cX7_hire 14 = .ok (.iconst (-1), 1) := by decide +kernel
theorem dX7_hire_15 : decode cX7_hire 15 = .ok (.ireturn, 1) := by decide +kernel
theorem dX7_hire_16 : decode cX7_hire 16 = .ok (.iload_n 2, 1) := by decide +kernel
theorem dX7_hire_17 : decode cX7_hire 17 = .ok (.ifCond .ne 29, 3) := by decide +kernel
theorem dX7_hire_20 : decode cX7_hire 20 = .ok (.aload_n 0, 1) := by decide +kernel
theorem dX7_hire_21 : decode cX7_hire 21 = .ok (.getfield 10, 3) := by decide +kernel
theorem dX7_hire_24 : decode cX7_hire 24 = .ok (.iload_n 3, 1) := by decide +kernel
theorem dX7_hire_25 : decode cX7_hire 25 = .ok (.invokevirtual 124, 3) := by decide +kernel
theorem dX7_hire_28 : decode cX7_hire 28 = .ok (.ifCond .ne 5, 3) := by decide +kernel
theorem dX7_hire_31 : decode cX7_hire 31 = .ok (.iconst (-1), 1) := by decide +kernel
theorem dX7_hire_32 : decode cX7_hire 32 = .ok (.ireturn, 1) := by decide +kernel
theorem dX7_hire_33 : decode cX7_hire 33 = .ok (.aload_n 0, 1) := by decide +kernel
theorem dX7_hire_34 : decode cX7_hire 34 = .ok (.getfield 10, 3) := by decide +kernel
theorem dX7_hire_37 : decode cX7_hire 37 = .ok (.getfield 151, 3) := by decide +kernel
theorem dX7_hire_40 : decode cX7_hire 40 = .ok (.iload_n 1, 1) := by decide +kernel
theorem dX7_hire_41 : decode cX7_hire 41 = .ok (.iload_n 3, 1) := by decide +kernel
theorem dX7_hire_42 : decode cX7_hire 42 = .ok (.iastore, 1) := by decide +kernel
theorem dX7_hire_43 : decode cX7_hire 43 = .ok (.iload 4, 2) := by decide +kernel
theorem dX7_hire_45 : decode cX7_hire 45 = .ok (.ireturn, 1) := by decide +kernel
theorem dX7_hire_46 : decode cX7_hire 46 = .ok (.iload_n 3, 1) := by decide +kernel
theorem dX7_hire_47 : decode cX7_hire 47 = .ok (.ifCond .lt 9, 3) := by decide +kernel
theorem dX7_hire_50 : decode cX7_hire 50 = .ok (.iload_n 3, 1) := by decide +kernel
theorem dX7_hire_51 : decode cX7_hire 51 = .ok (.bipush 9, 2) := by decide +kernel
theorem dX7_hire_53 : decode cX7_hire 53 = .ok (.if_icmp .le 5, 3) := by decide +kernel
theorem dX7_hire_56 : decode cX7_hire 56 = .ok (.iconst (-1), 1) := by decide +kernel
theorem dX7_hire_57 : decode cX7_hire 57 = .ok (.ireturn, 1) := by decide +kernel
theorem dX7_hire_58 : decode cX7_hire 58 = .ok (.aload_n 0, 1) := by decide +kernel
theorem dX7_hire_59 : decode cX7_hire 59 = .ok (.getfield 10, 3) := by decide +kernel
theorem dX7_hire_62 : decode cX7_hire 62 = .ok (.getfield 154, 3) := by decide +kernel
theorem dX7_hire_65 : decode cX7_hire 65 = .ok (.iload_n 1, 1) := by decide +kernel
theorem dX7_hire_66 : decode cX7_hire 66 = .ok (.iload_n 3, 1) := by decide +kernel
theorem dX7_hire_67 : decode cX7_hire 67 = .ok (.iastore, 1) := by decide +kernel
theorem dX7_hire_68 : decode cX7_hire 68 = .ok (.iload 4, 2) := by decide +kernel
theorem dX7_hire_70 : decode cX7_hire 70 = .ok (.ireturn, 1) := by decide +kernel
theorem dX7_forbid_0 : decode cX7_forbid 0 = .ok (.aload_n 0, 1) := by decide +kernel
theorem dX7_forbid_1 : decode cX7_forbid 1 = .ok (.getfield 10, 3) := by decide +kernel
theorem dX7_forbid_4 : decode cX7_forbid 4 = .ok (.iload_n 1, 1) := by decide +kernel
theorem dX7_forbid_5 : decode cX7_forbid 5 = .ok (.invokevirtual 124, 3) := by decide +kernel
theorem dX7_forbid_8 : decode cX7_forbid 8 = .ok (.ifCond .eq 19, 3) := by decide +kernel
theorem dX7_forbid_11 : decode cX7_forbid 11 = .ok (.aload_n 0, 1) := by decide +kernel
theorem dX7_forbid_12 : decode cX7_forbid 12 = .ok (.getfield 10, 3) := by decide +kernel
theorem dX7_forbid_15 : decode cX7_forbid 15 = .ok (.iload_n 2, 1) := by decide +kernel
theorem dX7_forbid_16 : decode cX7_forbid 16 = .ok (.invokevirtual 124, 3) := by decide +kernel
theorem dX7_forbid_19 : decode cX7_forbid 19 = .ok (.ifCond .eq 8, 3) := by decide +kernel
theorem dX7_forbid_22 : decode cX7_forbid 22 = .ok (.iload_n 1, 1) := by decide +kernel
theorem dX7_forbid_23 : decode cX7_forbid 23 = .ok (.iload_n 2, 1) := by decide +kernel
theorem dX7_forbid_24 : decode cX7_forbid 24 = .ok (.if_icmp .ne 5, 3) := by decide +kernel
theorem dX7_forbid_27 : decode cX7_forbid 27 = .ok (.iconst (-1), 1) := by decide +kernel
theorem dX7_forbid_28 : decode cX7_forbid 28 = .ok (.ireturn, 1) := by decide +kernel
theorem dX7_forbid_29 : decode cX7_forbid 29 = .ok (.aload_n 0, 1) := by decide +kernel
theorem dX7_forbid_30 : decode cX7_forbid 30 = .ok (.getfield 10, 3) := by decide +kernel
theorem dX7_forbid_33 : decode cX7_forbid 33 = .ok (.getfield 104, 3) := by decide +kernel
theorem dX7_forbid_36 : decode cX7_forbid 36 = .ok (.iconst 4, 1) := by decide +kernel
theorem dX7_forbid_37 : decode cX7_forbid 37 = .ok (.if_icmp .lt 6, 3) := by decide +kernel
theorem dX7_forbid_40 : decode cX7_forbid 40 = .ok (.bipush (-3), 2) := by decide +kernel
theorem dX7_forbid_42 : decode cX7_forbid 42 = .ok (.ireturn, 1) := by decide +kernel
theorem dX7_forbid_43 : decode cX7_forbid 43 = .ok (.aload_n 0, 1) := by decide +kernel
theorem dX7_forbid_44 : decode cX7_forbid 44 = .ok (.getfield 10, 3) := by decide +kernel
theorem dX7_forbid_47 : decode cX7_forbid 47 = .ok (.iload_n 1, 1) := by decide +kernel
theorem dX7_forbid_48 : decode cX7_forbid 48 = .ok (.iload_n 2, 1) := by decide +kernel
theorem dX7_forbid_49 : decode cX7_forbid 49 = .ok (.invokevirtual 181, 3) := by decide +kernel
theorem dX7_forbid_52 : decode cX7_forbid 52 = .ok (.aload_n 0, 1) := by decide +kernel
theorem dX7_forbid_53 : decode cX7_forbid 53 = .ok (.getfield 10, 3) := by decide +kernel
theorem dX7_forbid_56 : decode cX7_forbid 56 = .ok (.getfield 104, 3) := by decide +kernel
theorem dX7_forbid_59 : decode cX7_forbid 59 = .ok (.ireturn, 1) := by decide +kernel
theorem dX7_lift_0 : decode cX7_lift 0 = .ok (.aload_n 0, 1) := by decide +kernel
theorem dX7_lift_1 : decode cX7_lift 1 = .ok (.getfield 10, 3) := by decide +kernel
theorem dX7_lift_4 : decode cX7_lift 4 = .ok (.iload_n 1, 1) := by decide +kernel
theorem dX7_lift_5 : decode cX7_lift 5 = .ok (.invokevirtual 157, 3) := by decide +kernel
theorem dX7_lift_8 : decode cX7_lift 8 = .ok (.ifCond .ne 5, 3) := by decide +kernel
theorem dX7_lift_11 : decode cX7_lift 11 = .ok (.iconst (-1), 1) := by decide +kernel
theorem dX7_lift_12 : decode cX7_lift 12 = .ok (.ireturn, 1) := by decide +kernel
theorem dX7_lift_13 : decode cX7_lift 13 = .ok (.aload_n 0, 1) := by decide +kernel
theorem dX7_lift_14 : decode cX7_lift 14 = .ok (.getfield 10, 3) := by decide +kernel
theorem dX7_lift_17 : decode cX7_lift 17 = .ok (.iload_n 1, 1) := by decide +kernel
theorem dX7_lift_18 : decode cX7_lift 18 = .ok (.invokevirtual 185, 3) := by decide +kernel
theorem dX7_lift_21 : decode cX7_lift 21 = .ok (.aload_n 0, 1) := by decide +kernel
theorem dX7_lift_22 : decode cX7_lift 22 = .ok (.getfield 10, 3) := by decide +kernel
theorem dX7_lift_25 : decode cX7_lift 25 = .ok (.getfield 104, 3) := by decide +kernel
theorem dX7_lift_28 : decode cX7_lift 28 = .ok (.ireturn, 1) := by decide +kernel
theorem dX7_undo_0 : decode cX7_undo 0 = .ok (.aload_n 0, 1) := by decide +kernel
theorem dX7_undo_1 : decode cX7_undo 1 = .ok (.getfield 10, 3) := by decide +kernel
theorem dX7_undo_4 : decode cX7_undo 4 = .ok (.iload_n 1, 1) := by decide +kernel
theorem dX7_undo_5 : decode cX7_undo 5 = .ok (.invokevirtual 145, 3) := by decide +kernel
theorem dX7_undo_8 : decode cX7_undo 8 = .ok (.ifCond .ne 5, 3) := by decide +kernel
theorem dX7_undo_11 : decode cX7_undo 11 = .ok (.iconst (-1), 1) := by decide +kernel
theorem dX7_undo_12 : decode cX7_undo 12 = .ok (.ireturn, 1) := by decide +kernel
theorem dX7_undo_13 : decode cX7_undo 13 = .ok (.aload_n 0, 1) := by decide +kernel
theorem dX7_undo_14 : decode cX7_undo 14 = .ok (.getfield 10, 3) := by decide +kernel
theorem dX7_undo_17 : decode cX7_undo 17 = .ok (.getfield 110, 3) := by decide +kernel
theorem dX7_undo_20 : decode cX7_undo 20 = .ok (.aload_n 0, 1) := by decide +kernel
theorem dX7_undo_21 : decode cX7_undo 21 = .ok (.getfield 10, 3) := by decide +kernel
theorem dX7_undo_24 : decode cX7_undo 24 = .ok (.getfield 151, 3) := by decide +kernel
theorem dX7_undo_27 : decode cX7_undo 27 = .ok (.iload_n 1, 1) := by decide +kernel
theorem dX7_undo_28 : decode cX7_undo 28 = .ok (.iaload, 1) := by decide +kernel
theorem dX7_undo_29 : decode cX7_undo 29 = .ok (.invokestatic 175, 3) := by decide +kernel
theorem dX7_undo_32 : decode cX7_undo 32 = .ok (.istore_n 2, 1) := by decide +kernel
theorem dX7_undo_33 : decode cX7_undo 33 = .ok (.aload_n 0, 1) := by decide +kernel
theorem dX7_undo_34 : decode cX7_undo 34 = .ok (.getfield 10, 3) := by decide +kernel
theorem dX7_undo_37 : decode cX7_undo 37 = .ok (.iload_n 2, 1) := by decide +kernel
theorem dX7_undo_38 : decode cX7_undo 38 = .ok (.invokevirtual 113, 3) := by decide +kernel
theorem dX7_undo_41 : decode cX7_undo 41 = .ok (.ifCond .ne 6, 3) := by decide +kernel
theorem dX7_undo_44 : decode cX7_undo 44 = .ok (.bipush (-2), 2) := by decide +kernel
theorem dX7_undo_46 : decode cX7_undo 46 = .ok (.ireturn, 1) := by decide +kernel
theorem dX7_undo_47 : decode cX7_undo 47 = .ok (.aload_n 0, 1) := by decide +kernel
theorem dX7_undo_48 : decode cX7_undo 48 = .ok (.getfield 10, 3) := by decide +kernel
theorem dX7_undo_51 : decode cX7_undo 51 = .ok (.iload_n 2, 1) := by decide +kernel
theorem dX7_undo_52 : decode cX7_undo 52 = .ok (.putfield 110, 3) := by decide +kernel
theorem dX7_undo_55 : decode cX7_undo 55 = .ok (.iload_n 2, 1) := by decide +kernel
theorem dX7_undo_56 : decode cX7_undo 56 = .ok (.ireturn, 1) := by decide +kernel
theorem dX7_go_0 : decode cX7_go 0 = .ok (.iload_n 1, 1) := by decide +kernel
theorem dX7_go_1 : decode cX7_go 1 = .ok (.ifCond .lt 9, 3) := by decide +kernel
theorem dX7_go_4 : decode cX7_go 4 = .ok (.iload_n 1, 1) := by decide +kernel
theorem dX7_go_5 : decode cX7_go 5 = .ok (.bipush 99, 2) := by decide +kernel
theorem dX7_go_7 : decode cX7_go 7 = .ok (.if_icmp .le 5, 3) := by decide +kernel
theorem dX7_go_10 : decode cX7_go 10 = .ok (.iconst (-1), 1) := by decide +kernel
theorem dX7_go_11 : decode cX7_go 11 = .ok (.ireturn, 1) := by decide +kernel
theorem dX7_go_12 : decode cX7_go 12 = .ok (.aload_n 0, 1) := by decide +kernel
theorem dX7_go_13 : decode cX7_go 13 = .ok (.getfield 10, 3) := by decide +kernel
theorem dX7_go_16 : decode cX7_go 16 = .ok (.getfield 107, 3) := by decide +kernel
theorem dX7_go_19 : decode cX7_go 19 = .ok (.iload_n 1, 1) := by decide +kernel
theorem dX7_go_20 : decode cX7_go 20 = .ok (.iadd, 1) := by decide +kernel
theorem dX7_go_21 : decode cX7_go 21 = .ok (.sipush 999, 3) := by decide +kernel
theorem dX7_go_24 : decode cX7_go 24 = .ok (.if_icmp .le 6, 3) := by decide +kernel
theorem dX7_go_27 : decode cX7_go 27 = .ok (.bipush (-3), 2) := by decide +kernel
theorem dX7_go_29 : decode cX7_go 29 = .ok (.ireturn, 1) := by decide +kernel
theorem dX7_go_30 : decode cX7_go 30 = .ok (.aload_n 0, 1) := by decide +kernel
theorem dX7_go_31 : decode cX7_go 31 = .ok (.getfield 10, 3) := by decide +kernel
theorem dX7_go_34 : decode cX7_go 34 = .ok (.aload_n 0, 1) := by decide +kernel
theorem dX7_go_35 : decode cX7_go 35 = .ok (.getfield 10, 3) := by decide +kernel
theorem dX7_go_38 : decode cX7_go 38 = .ok (.aload_n 0, 1) := by decide +kernel
theorem dX7_go_39 : decode cX7_go 39 = .ok (.getfield 10, 3) := by decide +kernel
theorem dX7_go_42 : decode cX7_go 42 = .ok (.getfield 110, 3) := by decide +kernel
theorem dX7_go_45 : decode cX7_go 45 = .ok (.iload_n 1, 1) := by decide +kernel
theorem dX7_go_46 : decode cX7_go 46 = .ok (.invokevirtual 188, 3) := by decide +kernel
theorem dX7_go_49 : decode cX7_go 49 = .ok (.putfield 110, 3) := by decide +kernel
theorem dX7_go_52 : decode cX7_go 52 = .ok (.aload_n 0, 1) := by decide +kernel
theorem dX7_go_53 : decode cX7_go 53 = .ok (.getfield 10, 3) := by decide +kernel
theorem dX7_go_56 : decode cX7_go 56 = .ok (.dup, 1) := by decide +kernel
theorem dX7_go_57 : decode cX7_go 57 = .ok (.getfield 107, 3) := by decide +kernel
theorem dX7_go_60 : decode cX7_go 60 = .ok (.iload_n 1, 1) := by decide +kernel
theorem dX7_go_61 : decode cX7_go 61 = .ok (.iadd, 1) := by decide +kernel
theorem dX7_go_62 : decode cX7_go 62 = .ok (.putfield 107, 3) := by decide +kernel
theorem dX7_go_65 : decode cX7_go 65 = .ok (.aload_n 0, 1) := by decide +kernel
theorem dX7_go_66 : decode cX7_go 66 = .ok (.getfield 10, 3) := by decide +kernel
theorem dX7_go_69 : decode cX7_go 69 = .ok (.getfield 110, 3) := by decide +kernel
theorem dX7_go_72 : decode cX7_go 72 = .ok (.ireturn, 1) := by decide +kernel
theorem dX7_ahead_0 : decode cX7_ahead 0 = .ok (.iload_n 1, 1) := by decide +kernel
theorem dX7_ahead_1 : decode cX7_ahead 1 = .ok (.ifCond .lt 9, 3) := by decide +kernel
theorem dX7_ahead_4 : decode cX7_ahead 4 = .ok (.iload_n 1, 1) := by decide +kernel
theorem dX7_ahead_5 : decode cX7_ahead 5 = .ok (.bipush 99, 2) := by decide +kernel
theorem dX7_ahead_7 : decode cX7_ahead 7 = .ok (.if_icmp .le 5, 3) := by decide +kernel
theorem dX7_ahead_10 : decode cX7_ahead 10 = .ok (.iconst (-1), 1) := by decide +kernel
theorem dX7_ahead_11 : decode cX7_ahead 11 = .ok (.ireturn, 1) := by decide +kernel
theorem dX7_ahead_12 : decode cX7_ahead 12 = .ok (.aload_n 0, 1) := by decide +kernel
theorem dX7_ahead_13 : decode cX7_ahead 13 = .ok (.getfield 10, 3) := by decide +kernel
theorem dX7_ahead_16 : decode cX7_ahead 16 = .ok (.aload_n 0, 1) := by decide +kernel
theorem dX7_ahead_17 : decode cX7_ahead 17 = .ok (.getfield 10, 3) := by decide +kernel
theorem dX7_ahead_20 : decode cX7_ahead 20 = .ok (.getfield 110, 3) := by decide +kernel
theorem dX7_ahead_23 : decode cX7_ahead 23 = .ok (.iload_n 1, 1) := by decide +kernel
theorem dX7_ahead_24 : decode cX7_ahead 24 = .ok (.invokevirtual 188, 3) := by decide +kernel
theorem dX7_ahead_27 : decode cX7_ahead 27 = .ok (.ireturn, 1) := by decide +kernel
theorem dX7_next_0 : decode cX7_next 0 = .ok (.aload_n 0, 1) := by decide +kernel
theorem dX7_next_1 : decode cX7_next 1 = .ok (.getfield 10, 3) := by decide +kernel
theorem dX7_next_4 : decode cX7_next 4 = .ok (.iload_n 1, 1) := by decide +kernel
theorem dX7_next_5 : decode cX7_next 5 = .ok (.invokevirtual 191, 3) := by decide +kernel
theorem dX7_next_8 : decode cX7_next 8 = .ok (.ifCond .ne 5, 3) := by decide +kernel
theorem dX7_next_11 : decode cX7_next 11 = .ok (.iconst (-1), 1) := by decide +kernel
theorem dX7_next_12 : decode cX7_next 12 = .ok (.ireturn, 1) := by decide +kernel
theorem dX7_next_13 : decode cX7_next 13 = .ok (.aload_n 0, 1) := by decide +kernel
theorem dX7_next_14 : decode cX7_next 14 = .ok (.getfield 10, 3) := by decide +kernel
theorem dX7_next_17 : decode cX7_next 17 = .ok (.iload_n 1, 1) := by decide +kernel
theorem dX7_next_18 : decode cX7_next 18 = .ok (.invokevirtual 194, 3) := by decide +kernel
theorem dX7_next_21 : decode cX7_next 21 = .ok (.ireturn, 1) := by decide +kernel
theorem dX7_ring_0 : decode cX7_ring 0 = .ok (.iload_n 1, 1) := by decide +kernel
theorem dX7_ring_1 : decode cX7_ring 1 = .ok (.ifCond .lt 8, 3) := by decide +kernel
theorem dX7_ring_4 : decode cX7_ring 4 = .ok (.iload_n 1, 1) := by decide +kernel
theorem dX7_ring_5 : decode cX7_ring 5 = .ok (.iconst 3, 1) := by decide +kernel
theorem dX7_ring_6 : decode cX7_ring 6 = .ok (.if_icmp .le 5, 3) := by decide +kernel
theorem dX7_ring_9 : decode cX7_ring 9 = .ok (.iconst (-1), 1) := by decide +kernel
theorem dX7_ring_10 : decode cX7_ring 10 = .ok (.ireturn, 1) := by decide +kernel
theorem dX7_ring_11 : decode cX7_ring 11 = .ok (.aload_n 0, 1) := by decide +kernel
theorem dX7_ring_12 : decode cX7_ring 12 = .ok (.getfield 10, 3) := by decide +kernel
theorem dX7_ring_15 : decode cX7_ring 15 = .ok (.getfield 110, 3) := by decide +kernel
theorem dX7_ring_18 : decode cX7_ring 18 = .ok (.istore_n 2, 1) := by decide +kernel
theorem dX7_ring_19 : decode cX7_ring 19 = .ok (.iconst 0, 1) := by decide +kernel
theorem dX7_ring_20 : decode cX7_ring 20 = .ok (.istore_n 3, 1) := by decide +kernel
theorem dX7_ring_21 : decode cX7_ring 21 = .ok (.iload_n 3, 1) := by decide +kernel
theorem dX7_ring_22 : decode cX7_ring 22 = .ok (.bipush 64, 2) := by decide +kernel
theorem dX7_ring_24 : decode cX7_ring 24 = .ok (.if_icmp .ge 29, 3) := by decide +kernel
theorem dX7_ring_27 : decode cX7_ring 27 = .ok (.aload_n 0, 1) := by decide +kernel
theorem dX7_ring_28 : decode cX7_ring 28 = .ok (.getfield 10, 3) := by decide +kernel
theorem dX7_ring_31 : decode cX7_ring 31 = .ok (.iload_n 2, 1) := by decide +kernel
theorem dX7_ring_32 : decode cX7_ring 32 = .ok (.invokevirtual 198, 3) := by decide +kernel
theorem dX7_ring_35 : decode cX7_ring 35 = .ok (.ifCond .ne 18, 3) := by decide +kernel
theorem dX7_ring_38 : decode cX7_ring 38 = .ok (.aload_n 0, 1) := by decide +kernel
theorem dX7_ring_39 : decode cX7_ring 39 = .ok (.getfield 10, 3) := by decide +kernel
theorem dX7_ring_42 : decode cX7_ring 42 = .ok (.iload_n 2, 1) := by decide +kernel
theorem dX7_ring_43 : decode cX7_ring 43 = .ok (.invokevirtual 194, 3) := by decide +kernel
theorem dX7_ring_46 : decode cX7_ring 46 = .ok (.istore_n 2, 1) := by decide +kernel
theorem dX7_ring_47 : decode cX7_ring 47 = .ok (.iinc 3 1, 3) := by decide +kernel
theorem dX7_ring_50 : decode cX7_ring 50 = .ok (.goto (-29), 3) := by decide +kernel
theorem dX7_ring_53 : decode cX7_ring 53 = .ok (.iload_n 1, 1) := by decide +kernel
theorem dX7_ring_54 : decode cX7_ring 54 = .ok (.ifCond .ne 5, 3) := by decide +kernel
theorem dX7_ring_57 : decode cX7_ring 57 = .ok (.iload_n 3, 1) := by decide +kernel
theorem dX7_ring_58 : decode cX7_ring 58 = .ok (.ireturn, 1) := by decide +kernel
theorem dX7_ring_59 : decode cX7_ring 59 = .ok (.aload_n 0, 1) := by decide +kernel
theorem dX7_ring_60 : decode cX7_ring 60 = .ok (.getfield 10, 3) := by decide +kernel
theorem dX7_ring_63 : decode cX7_ring 63 = .ok (.iload_n 2, 1) := by decide +kernel
theorem dX7_ring_64 : decode cX7_ring 64 = .ok (.invokevirtual 198, 3) := by decide +kernel
theorem dX7_ring_67 : decode cX7_ring 67 = .ok (.istore 4, 2) := by decide +kernel
theorem dX7_ring_69 : decode cX7_ring 69 = .ok (.aload_n 0, 1) := by decide +kernel
theorem dX7_ring_70 : decode cX7_ring 70 = .ok (.getfield 51, 3) := by decide +kernel
theorem dX7_ring_73 : decode cX7_ring 73 = .ok (.invokevirtual 201, 3) := by decide +kernel
theorem dX7_ring_76 : decode cX7_ring 76 = .ok (.iconst 0, 1) := by decide +kernel
theorem dX7_ring_77 : decode cX7_ring 77 = .ok (.istore 5, 2) := by decide +kernel
theorem dX7_ring_79 : decode cX7_ring 79 = .ok (.iload 5, 2) := by decide +kernel
theorem dX7_ring_81 : decode cX7_ring 81 = .ok (.iload 4, 2) := by decide +kernel
theorem dX7_ring_83 : decode cX7_ring 83 = .ok (.if_icmp .ge 26, 3) := by decide +kernel
theorem dX7_ring_86 : decode cX7_ring 86 = .ok (.aload_n 0, 1) := by decide +kernel
theorem dX7_ring_87 : decode cX7_ring 87 = .ok (.getfield 51, 3) := by decide +kernel
theorem dX7_ring_90 : decode cX7_ring 90 = .ok (.iload_n 2, 1) := by decide +kernel
theorem dX7_ring_91 : decode cX7_ring 91 = .ok (.invokevirtual 204, 3) := by decide +kernel
theorem dX7_ring_94 : decode cX7_ring 94 = .ok (.aload_n 0, 1) := by decide +kernel
theorem dX7_ring_95 : decode cX7_ring 95 = .ok (.getfield 10, 3) := by decide +kernel
theorem dX7_ring_98 : decode cX7_ring 98 = .ok (.iload_n 2, 1) := by decide +kernel
theorem dX7_ring_99 : decode cX7_ring 99 = .ok (.invokevirtual 194, 3) := by decide +kernel
theorem dX7_ring_102 : decode cX7_ring 102 = .ok (.istore_n 2, 1) := by decide +kernel
theorem dX7_ring_103 : decode cX7_ring 103 = .ok (.iinc 5 1, 3) := by decide +kernel
theorem dX7_ring_106 : decode cX7_ring 106 = .ok (.goto (-27), 3) := by decide +kernel
theorem dX7_ring_109 : decode cX7_ring 109 = .ok (.iload_n 1, 1) := by decide +kernel
theorem dX7_ring_110 : decode cX7_ring 110 = .ok (.iconst 1, 1) := by decide +kernel
theorem dX7_ring_111 : decode cX7_ring 111 = .ok (.if_icmp .ne 8, 3) := by decide +kernel
theorem dX7_ring_114 : decode cX7_ring 114 = .ok (.iload 4, 2) := by decide +kernel
theorem dX7_ring_116 : decode cX7_ring 116 = .ok (.goto 11, 3) := by decide +kernel
theorem dX7_ring_119 : decode cX7_ring 119 = .ok (.aload_n 0, 1) := by decide +kernel
theorem dX7_ring_120 : decode cX7_ring 120 = .ok (.getfield 51, 3) := by decide +kernel
theorem dX7_ring_123 : decode cX7_ring 123 = .ok (.iload_n 1, 1) := by decide +kernel
theorem dX7_ring_124 : decode cX7_ring 124 = .ok (.invokevirtual 207, 3) := by decide +kernel
theorem dX7_ring_127 : decode cX7_ring 127 = .ok (.ireturn, 1) := by decide +kernel
theorem dX7_rings_0 : decode cX7_rings 0 = .ok (.iconst 0, 1) := by decide +kernel
theorem dX7_rings_1 : decode cX7_rings 1 = .ok (.istore_n 2, 1) := by decide +kernel
theorem dX7_rings_2 : decode cX7_rings 2 = .ok (.iconst 0, 1) := by decide +kernel
theorem dX7_rings_3 : decode cX7_rings 3 = .ok (.istore_n 3, 1) := by decide +kernel
theorem dX7_rings_4 : decode cX7_rings 4 = .ok (.iconst 0, 1) := by decide +kernel
theorem dX7_rings_5 : decode cX7_rings 5 = .ok (.istore 4, 2) := by decide +kernel
theorem dX7_rings_7 : decode cX7_rings 7 = .ok (.iconst 0, 1) := by decide +kernel
theorem dX7_rings_8 : decode cX7_rings 8 = .ok (.istore 5, 2) := by decide +kernel
theorem dX7_rings_10 : decode cX7_rings 10 = .ok (.iconst 0, 1) := by decide +kernel
theorem dX7_rings_11 : decode cX7_rings 11 = .ok (.istore 6, 2) := by decide +kernel
theorem dX7_rings_13 : decode cX7_rings 13 = .ok (.iload 6, 2) := by decide +kernel
theorem dX7_rings_15 : decode cX7_rings 15 = .ok (.aload_n 0, 1) := by decide +kernel
theorem dX7_rings_16 : decode cX7_rings 16 = .ok (.getfield 10, 3) := by decide +kernel
theorem dX7_rings_19 : decode cX7_rings 19 = .ok (.invokevirtual 210, 3) := by decide +kernel
theorem dX7_rings_22 : decode cX7_rings 22 = .ok (.if_icmp .ge 54, 3) := by decide +kernel
theorem dX7_rings_25 : decode cX7_rings 25 = .ok (.aload_n 0, 1) := by decide +kernel
theorem dX7_rings_26 : decode cX7_rings 26 = .ok (.getfield 10, 3) := by decide +kernel
theorem dX7_rings_29 : decode cX7_rings 29 = .ok (.iload 6, 2) := by decide +kernel
theorem dX7_rings_31 : decode cX7_rings 31 = .ok (.invokevirtual 214, 3) := by decide +kernel
theorem dX7_rings_34 : decode cX7_rings 34 = .ok (.istore 7, 2) := by decide +kernel
theorem dX7_rings_36 : decode cX7_rings 36 = .ok (.iload 7, 2) := by decide +kernel
theorem dX7_rings_38 : decode cX7_rings 38 = .ok (.ifCond .le 32, 3) := by decide +kernel
theorem dX7_rings_41 : decode cX7_rings 41 = .ok (.iinc 2 1, 3) := by decide +kernel
theorem dX7_rings_44 : decode cX7_rings 44 = .ok (.iload 5, 2) := by decide +kernel
theorem dX7_rings_46 : decode cX7_rings 46 = .ok (.iload 7, 2) := by decide +kernel
theorem dX7_rings_48 : decode cX7_rings 48 = .ok (.invokestatic 217, 3) := by decide +kernel
theorem dX7_rings_51 : decode cX7_rings 51 = .ok (.istore 5, 2) := by decide +kernel
theorem dX7_rings_53 : decode cX7_rings 53 = .ok (.iload_n 3, 1) := by decide +kernel
theorem dX7_rings_54 : decode cX7_rings 54 = .ok (.ifCond .eq 9, 3) := by decide +kernel
theorem dX7_rings_57 : decode cX7_rings 57 = .ok (.iload 7, 2) := by decide +kernel
theorem dX7_rings_59 : decode cX7_rings 59 = .ok (.iload_n 3, 1) := by decide +kernel
theorem dX7_rings_60 : decode cX7_rings 60 = .ok (.if_icmp .ge 10, 3) := by decide +kernel
theorem dX7_rings_63 : decode cX7_rings 63 = .ok (.iload 7, 2) := by decide +kernel
theorem dX7_rings_65 : decode cX7_rings 65 = .ok (.istore_n 3, 1) := by decide +kernel
theorem dX7_rings_66 : decode cX7_rings 66 = .ok (.iload 6, 2) := by decide +kernel
theorem dX7_rings_68 : decode cX7_rings 68 = .ok (.istore 4, 2) := by decide +kernel
theorem dX7_rings_70 : decode cX7_rings 70 = .ok (.iinc 6 1, 3) := by decide +kernel
theorem dX7_rings_73 : decode cX7_rings 73 = .ok (.goto (-60), 3) := by decide +kernel
theorem dX7_rings_76 : decode cX7_rings 76 = .ok (.iload_n 1, 1) := by decide +kernel
theorem dX7_rings_77 : decode cX7_rings 77 = .ok (.tableswitch 41 0 3 #[31, 33, 35, 38], 31) := by decide +kernel
theorem dX7_rings_108 : decode cX7_rings 108 = .ok (.iload_n 2, 1) := by decide +kernel
theorem dX7_rings_109 : decode cX7_rings 109 = .ok (.ireturn, 1) := by decide +kernel
theorem dX7_rings_110 : decode cX7_rings 110 = .ok (.iload_n 3, 1) := by decide +kernel
theorem dX7_rings_111 : decode cX7_rings 111 = .ok (.ireturn, 1) := by decide +kernel
theorem dX7_rings_112 : decode cX7_rings 112 = .ok (.iload 4, 2) := by decide +kernel
theorem dX7_rings_114 : decode cX7_rings 114 = .ok (.ireturn, 1) := by decide +kernel
theorem dX7_rings_115 : decode cX7_rings 115 = .ok (.iload 5, 2) := by decide +kernel
theorem dX7_rings_117 : decode cX7_rings 117 = .ok (.ireturn, 1) := by decide +kernel
theorem dX7_rings_118 : decode cX7_rings 118 = .ok (.iconst (-1), 1) := by decide +kernel
theorem dX7_rings_119 : decode cX7_rings 119 = .ok (.ireturn, 1) := by decide +kernel
theorem dX7_agree_0 : decode cX7_agree 0 = .ok (.iload_n 1, 1) := by decide +kernel
theorem dX7_agree_1 : decode cX7_agree 1 = .ok (.ifCond .lt 8, 3) := by decide +kernel
theorem dX7_agree_4 : decode cX7_agree 4 = .ok (.iload_n 1, 1) := by decide +kernel
theorem dX7_agree_5 : decode cX7_agree 5 = .ok (.iconst 3, 1) := by decide +kernel
theorem dX7_agree_6 : decode cX7_agree 6 = .ok (.if_icmp .le 5, 3) := by decide +kernel
theorem dX7_agree_9 : decode cX7_agree 9 = .ok (.iconst (-1), 1) := by decide +kernel
theorem dX7_agree_10 : decode cX7_agree 10 = .ok (.ireturn, 1) := by decide +kernel
theorem dX7_agree_11 : decode cX7_agree 11 = .ok (.aload_n 0, 1) := by decide +kernel
theorem dX7_agree_12 : decode cX7_agree 12 = .ok (.getfield 51, 3) := by decide +kernel
theorem dX7_agree_15 : decode cX7_agree 15 = .ok (.invokevirtual 201, 3) := by decide +kernel
theorem dX7_agree_18 : decode cX7_agree 18 = .ok (.iconst 0, 1) := by decide +kernel
theorem dX7_agree_19 : decode cX7_agree 19 = .ok (.istore_n 2, 1) := by decide +kernel
theorem dX7_agree_20 : decode cX7_agree 20 = .ok (.iload_n 2, 1) := by decide +kernel
theorem dX7_agree_21 : decode cX7_agree 21 = .ok (.aload_n 0, 1) := by decide +kernel
theorem dX7_agree_22 : decode cX7_agree 22 = .ok (.getfield 10, 3) := by decide +kernel
theorem dX7_agree_25 : decode cX7_agree 25 = .ok (.invokevirtual 210, 3) := by decide +kernel
theorem dX7_agree_28 : decode cX7_agree 28 = .ok (.if_icmp .ge 28, 3) := by decide +kernel
theorem dX7_agree_31 : decode cX7_agree 31 = .ok (.aload_n 0, 1) := by decide +kernel
theorem dX7_agree_32 : decode cX7_agree 32 = .ok (.getfield 10, 3) := by decide +kernel
theorem dX7_agree_35 : decode cX7_agree 35 = .ok (.iload_n 2, 1) := by decide +kernel
theorem dX7_agree_36 : decode cX7_agree 36 = .ok (.invokevirtual 222, 3) := by decide +kernel
theorem dX7_agree_39 : decode cX7_agree 39 = .ok (.ifCond .eq 11, 3) := by decide +kernel
theorem dX7_agree_42 : decode cX7_agree 42 = .ok (.aload_n 0, 1) := by decide +kernel
theorem dX7_agree_43 : decode cX7_agree 43 = .ok (.getfield 51, 3) := by decide +kernel
theorem dX7_agree_46 : decode cX7_agree 46 = .ok (.iload_n 2, 1) := by decide +kernel
theorem dX7_agree_47 : decode cX7_agree 47 = .ok (.invokevirtual 204, 3) := by decide +kernel
theorem dX7_agree_50 : decode cX7_agree 50 = .ok (.iinc 2 1, 3) := by decide +kernel
theorem dX7_agree_53 : decode cX7_agree 53 = .ok (.goto (-33), 3) := by decide +kernel
theorem dX7_agree_56 : decode cX7_agree 56 = .ok (.aload_n 0, 1) := by decide +kernel
theorem dX7_agree_57 : decode cX7_agree 57 = .ok (.getfield 51, 3) := by decide +kernel
theorem dX7_agree_60 : decode cX7_agree 60 = .ok (.iload_n 1, 1) := by decide +kernel
theorem dX7_agree_61 : decode cX7_agree 61 = .ok (.invokevirtual 207, 3) := by decide +kernel
theorem dX7_agree_64 : decode cX7_agree 64 = .ok (.ireturn, 1) := by decide +kernel
theorem dX7_before_0 : decode cX7_before 0 = .ok (.aload_n 0, 1) := by decide +kernel
theorem dX7_before_1 : decode cX7_before 1 = .ok (.getfield 10, 3) := by decide +kernel
theorem dX7_before_4 : decode cX7_before 4 = .ok (.iload_n 1, 1) := by decide +kernel
theorem dX7_before_5 : decode cX7_before 5 = .ok (.invokevirtual 191, 3) := by decide +kernel
theorem dX7_before_8 : decode cX7_before 8 = .ok (.ifCond .eq 10, 3) := by decide +kernel
theorem dX7_before_11 : decode cX7_before 11 = .ok (.iload_n 2, 1) := by decide +kernel
theorem dX7_before_12 : decode cX7_before 12 = .ok (.invokestatic 148, 3) := by decide +kernel
theorem dX7_before_15 : decode cX7_before 15 = .ok (.ifCond .ne 5, 3) := by decide +kernel
theorem dX7_before_18 : decode cX7_before 18 = .ok (.iconst (-1), 1) := by decide +kernel
theorem dX7_before_19 : decode cX7_before 19 = .ok (.ireturn, 1) := by decide +kernel
theorem dX7_before_20 : decode cX7_before 20 = .ok (.aload_n 0, 1) := by decide +kernel
theorem dX7_before_21 : decode cX7_before 21 = .ok (.getfield 51, 3) := by decide +kernel
theorem dX7_before_24 : decode cX7_before 24 = .ok (.invokevirtual 201, 3) := by decide +kernel
theorem dX7_before_27 : decode cX7_before 27 = .ok (.iconst 0, 1) := by decide +kernel
theorem dX7_before_28 : decode cX7_before 28 = .ok (.istore_n 3, 1) := by decide +kernel
theorem dX7_before_29 : decode cX7_before 29 = .ok (.iload_n 3, 1) := by decide +kernel
theorem dX7_before_30 : decode cX7_before 30 = .ok (.aload_n 0, 1) := by decide +kernel
theorem dX7_before_31 : decode cX7_before 31 = .ok (.getfield 10, 3) := by decide +kernel
theorem dX7_before_34 : decode cX7_before 34 = .ok (.invokevirtual 210, 3) := by decide +kernel
theorem dX7_before_37 : decode cX7_before 37 = .ok (.if_icmp .ge 29, 3) := by decide +kernel
theorem dX7_before_40 : decode cX7_before 40 = .ok (.aload_n 0, 1) := by decide +kernel
theorem dX7_before_41 : decode cX7_before 41 = .ok (.getfield 10, 3) := by decide +kernel
theorem dX7_before_44 : decode cX7_before 44 = .ok (.iload_n 3, 1) := by decide +kernel
theorem dX7_before_45 : decode cX7_before 45 = .ok (.invokevirtual 194, 3) := by decide +kernel
theorem dX7_before_48 : decode cX7_before 48 = .ok (.iload_n 1, 1) := by decide +kernel
theorem dX7_before_49 : decode cX7_before 49 = .ok (.if_icmp .ne 11, 3) := by decide +kernel
theorem dX7_before_52 : decode cX7_before 52 = .ok (.aload_n 0, 1) := by decide +kernel
theorem dX7_before_53 : decode cX7_before 53 = .ok (.getfield 51, 3) := by decide +kernel
theorem dX7_before_56 : decode cX7_before 56 = .ok (.iload_n 3, 1) := by decide +kernel
theorem dX7_before_57 : decode cX7_before 57 = .ok (.invokevirtual 204, 3) := by decide +kernel
theorem dX7_before_60 : decode cX7_before 60 = .ok (.iinc 3 1, 3) := by decide +kernel
theorem dX7_before_63 : decode cX7_before 63 = .ok (.goto (-34), 3) := by decide +kernel
theorem dX7_before_66 : decode cX7_before 66 = .ok (.aload_n 0, 1) := by decide +kernel
theorem dX7_before_67 : decode cX7_before 67 = .ok (.getfield 51, 3) := by decide +kernel
theorem dX7_before_70 : decode cX7_before 70 = .ok (.iload_n 2, 1) := by decide +kernel
theorem dX7_before_71 : decode cX7_before 71 = .ok (.invokevirtual 207, 3) := by decide +kernel
theorem dX7_before_74 : decode cX7_before 74 = .ok (.ireturn, 1) := by decide +kernel
theorem dX7_gardens_0 : decode cX7_gardens 0 = .ok (.lconst 0, 1) := by decide +kernel
theorem dX7_gardens_1 : decode cX7_gardens 1 = .ok (.lstore_n 1, 1) := by decide +kernel
theorem dX7_gardens_2 : decode cX7_gardens 2 = .ok (.iconst 0, 1) := by decide +kernel
theorem dX7_gardens_3 : decode cX7_gardens 3 = .ok (.istore_n 3, 1) := by decide +kernel
theorem dX7_gardens_4 : decode cX7_gardens 4 = .ok (.iload_n 3, 1) := by decide +kernel
theorem dX7_gardens_5 : decode cX7_gardens 5 = .ok (.aload_n 0, 1) := by decide +kernel
theorem dX7_gardens_6 : decode cX7_gardens 6 = .ok (.getfield 10, 3) := by decide +kernel
theorem dX7_gardens_9 : decode cX7_gardens 9 = .ok (.invokevirtual 210, 3) := by decide +kernel
theorem dX7_gardens_12 : decode cX7_gardens 12 = .ok (.if_icmp .ge 22, 3) := by decide +kernel
theorem dX7_gardens_15 : decode cX7_gardens 15 = .ok (.lload_n 1, 1) := by decide +kernel
theorem dX7_gardens_16 : decode cX7_gardens 16 = .ok (.lconst 1, 1) := by decide +kernel
theorem dX7_gardens_17 : decode cX7_gardens 17 = .ok (.aload_n 0, 1) := by decide +kernel
theorem dX7_gardens_18 : decode cX7_gardens 18 = .ok (.getfield 10, 3) := by decide +kernel
theorem dX7_gardens_21 : decode cX7_gardens 21 = .ok (.iload_n 3, 1) := by decide +kernel
theorem dX7_gardens_22 : decode cX7_gardens 22 = .ok (.invokevirtual 194, 3) := by decide +kernel
theorem dX7_gardens_25 : decode cX7_gardens 25 = .ok (.lshl, 1) := by decide +kernel
theorem dX7_gardens_26 : decode cX7_gardens 26 = .ok (.lor, 1) := by decide +kernel
theorem dX7_gardens_27 : decode cX7_gardens 27 = .ok (.lstore_n 1, 1) := by decide +kernel
theorem dX7_gardens_28 : decode cX7_gardens 28 = .ok (.iinc 3 1, 3) := by decide +kernel
theorem dX7_gardens_31 : decode cX7_gardens 31 = .ok (.goto (-27), 3) := by decide +kernel
theorem dX7_gardens_34 : decode cX7_gardens 34 = .ok (.aload_n 0, 1) := by decide +kernel
theorem dX7_gardens_35 : decode cX7_gardens 35 = .ok (.getfield 10, 3) := by decide +kernel
theorem dX7_gardens_38 : decode cX7_gardens 38 = .ok (.invokevirtual 210, 3) := by decide +kernel
theorem dX7_gardens_41 : decode cX7_gardens 41 = .ok (.lload_n 1, 1) := by decide +kernel
theorem dX7_gardens_42 : decode cX7_gardens 42 = .ok (.invokestatic 225, 3) := by decide +kernel
theorem dX7_gardens_45 : decode cX7_gardens 45 = .ok (.isub, 1) := by decide +kernel
theorem dX7_gardens_46 : decode cX7_gardens 46 = .ok (.ireturn, 1) := by decide +kernel
theorem dX7_clash_0 : decode cX7_clash 0 = .ok (.aload_n 0, 1) := by decide +kernel
theorem dX7_clash_1 : decode cX7_clash 1 = .ok (.getfield 10, 3) := by decide +kernel
theorem dX7_clash_4 : decode cX7_clash 4 = .ok (.getfield 110, 3) := by decide +kernel
theorem dX7_clash_7 : decode cX7_clash 7 = .ok (.istore_n 1, 1) := by decide +kernel
theorem dX7_clash_8 : decode cX7_clash 8 = .ok (.iconst 0, 1) := by decide +kernel
theorem dX7_clash_9 : decode cX7_clash 9 = .ok (.istore_n 2, 1) := by decide +kernel
theorem dX7_clash_10 : decode cX7_clash 10 = .ok (.iload_n 2, 1) := by decide +kernel
theorem dX7_clash_11 : decode cX7_clash 11 = .ok (.bipush 99, 2) := by decide +kernel
theorem dX7_clash_13 : decode cX7_clash 13 = .ok (.if_icmp .gt 31, 3) := by decide +kernel
theorem dX7_clash_16 : decode cX7_clash 16 = .ok (.aload_n 0, 1) := by decide +kernel
theorem dX7_clash_17 : decode cX7_clash 17 = .ok (.getfield 10, 3) := by decide +kernel
theorem dX7_clash_20 : decode cX7_clash 20 = .ok (.iload_n 1, 1) := by decide +kernel
theorem dX7_clash_21 : decode cX7_clash 21 = .ok (.invokevirtual 113, 3) := by decide +kernel
theorem dX7_clash_24 : decode cX7_clash 24 = .ok (.ifCond .ne 5, 3) := by decide +kernel
theorem dX7_clash_27 : decode cX7_clash 27 = .ok (.iload_n 2, 1) := by decide +kernel
theorem dX7_clash_28 : decode cX7_clash 28 = .ok (.ireturn, 1) := by decide +kernel
theorem dX7_clash_29 : decode cX7_clash 29 = .ok (.aload_n 0, 1) := by decide +kernel
theorem dX7_clash_30 : decode cX7_clash 30 = .ok (.getfield 10, 3) := by decide +kernel
theorem dX7_clash_33 : decode cX7_clash 33 = .ok (.iload_n 1, 1) := by decide +kernel
theorem dX7_clash_34 : decode cX7_clash 34 = .ok (.invokevirtual 194, 3) := by decide +kernel
theorem dX7_clash_37 : decode cX7_clash 37 = .ok (.istore_n 1, 1) := by decide +kernel
theorem dX7_clash_38 : decode cX7_clash 38 = .ok (.iinc 2 1, 3) := by decide +kernel
theorem dX7_clash_41 : decode cX7_clash 41 = .ok (.goto (-31), 3) := by decide +kernel
theorem dX7_clash_44 : decode cX7_clash 44 = .ok (.bipush (-4), 2) := by decide +kernel
theorem dX7_clash_46 : decode cX7_clash 46 = .ok (.ireturn, 1) := by decide +kernel
theorem dX7_way_0 : decode cX7_way 0 = .ok (.aload_n 0, 1) := by decide +kernel
theorem dX7_way_1 : decode cX7_way 1 = .ok (.getfield 10, 3) := by decide +kernel
theorem dX7_way_4 : decode cX7_way 4 = .ok (.iload_n 1, 1) := by decide +kernel
theorem dX7_way_5 : decode cX7_way 5 = .ok (.invokevirtual 124, 3) := by decide +kernel
theorem dX7_way_8 : decode cX7_way 8 = .ok (.ifCond .eq 24, 3) := by decide +kernel
theorem dX7_way_11 : decode cX7_way 11 = .ok (.iload_n 2, 1) := by decide +kernel
theorem dX7_way_12 : decode cX7_way 12 = .ok (.invokestatic 148, 3) := by decide +kernel
theorem dX7_way_15 : decode cX7_way 15 = .ok (.ifCond .eq 17, 3) := by decide +kernel
theorem dX7_way_18 : decode cX7_way 18 = .ok (.iload_n 3, 1) := by decide +kernel
theorem dX7_way_19 : decode cX7_way 19 = .ok (.invokestatic 148, 3) := by decide +kernel
theorem dX7_way_22 : decode cX7_way 22 = .ok (.ifCond .ne 12, 3) := by decide +kernel
theorem dX7_way_25 : decode cX7_way 25 = .ok (.iload_n 3, 1) := by decide +kernel
theorem dX7_way_26 : decode cX7_way 26 = .ok (.invokestatic 231, 3) := by decide +kernel
theorem dX7_way_29 : decode cX7_way 29 = .ok (.ifCond .ne 5, 3) := by decide +kernel
theorem dX7_way_32 : decode cX7_way 32 = .ok (.iconst (-1), 1) := by decide +kernel
theorem dX7_way_33 : decode cX7_way 33 = .ok (.ireturn, 1) := by decide +kernel
theorem dX7_way_34 : decode cX7_way 34 = .ok (.aload_n 0, 1) := by decide +kernel
theorem dX7_way_35 : decode cX7_way 35 = .ok (.getfield 44, 3) := by decide +kernel
theorem dX7_way_38 : decode cX7_way 38 = .ok (.iload_n 1, 1) := by decide +kernel
theorem dX7_way_39 : decode cX7_way 39 = .ok (.iload_n 2, 1) := by decide +kernel
theorem dX7_way_40 : decode cX7_way 40 = .ok (.invokevirtual 234, 3) := by decide +kernel
theorem dX7_way_43 : decode cX7_way 43 = .ok (.iconst 0, 1) := by decide +kernel
theorem dX7_way_44 : decode cX7_way 44 = .ok (.istore 4, 2) := by decide +kernel
theorem dX7_way_46 : decode cX7_way 46 = .ok (.iload 4, 2) := by decide +kernel
theorem dX7_way_48 : decode cX7_way 48 = .ok (.iconst 4, 1) := by decide +kernel
theorem dX7_way_49 : decode cX7_way 49 = .ok (.if_icmp .gt 32, 3) := by decide +kernel
theorem dX7_way_52 : decode cX7_way 52 = .ok (.aload_n 0, 1) := by decide +kernel
theorem dX7_way_53 : decode cX7_way 53 = .ok (.getfield 44, 3) := by decide +kernel
theorem dX7_way_56 : decode cX7_way 56 = .ok (.getfield 237, 3) := by decide +kernel
theorem dX7_way_59 : decode cX7_way 59 = .ok (.ifCond .ne 22, 3) := by decide +kernel
theorem dX7_way_62 : decode cX7_way 62 = .ok (.aload_n 0, 1) := by decide +kernel
theorem dX7_way_63 : decode cX7_way 63 = .ok (.getfield 44, 3) := by decide +kernel
theorem dX7_way_66 : decode cX7_way 66 = .ok (.aload_n 0, 1) := by decide +kernel
theorem dX7_way_67 : decode cX7_way 67 = .ok (.getfield 10, 3) := by decide +kernel
theorem dX7_way_70 : decode cX7_way 70 = .ok (.iload 4, 2) := by decide +kernel
theorem dX7_way_72 : decode cX7_way 72 = .ok (.invokevirtual 241, 3) := by decide +kernel
theorem dX7_way_75 : decode cX7_way 75 = .ok (.iinc 4 1, 3) := by decide +kernel
theorem dX7_way_78 : decode cX7_way 78 = .ok (.goto (-32), 3) := by decide +kernel
theorem dX7_way_81 : decode cX7_way 81 = .ok (.iload_n 3, 1) := by decide +kernel
theorem dX7_way_82 : decode cX7_way 82 = .ok (.invokestatic 231, 3) := by decide +kernel
theorem dX7_way_85 : decode cX7_way 85 = .ok (.ifCond .eq 15, 3) := by decide +kernel
theorem dX7_way_88 : decode cX7_way 88 = .ok (.aload_n 0, 1) := by decide +kernel
theorem dX7_way_89 : decode cX7_way 89 = .ok (.getfield 44, 3) := by decide +kernel
theorem dX7_way_92 : decode cX7_way 92 = .ok (.iload_n 3, 1) := by decide +kernel
theorem dX7_way_93 : decode cX7_way 93 = .ok (.bipush 10, 2) := by decide +kernel
theorem dX7_way_95 : decode cX7_way 95 = .ok (.isub, 1) := by decide +kernel
theorem dX7_way_96 : decode cX7_way 96 = .ok (.invokevirtual 245, 3) := by decide +kernel
theorem dX7_way_99 : decode cX7_way 99 = .ok (.ireturn, 1) := by decide +kernel
theorem dX7_way_100 : decode cX7_way 100 = .ok (.aload_n 0, 1) := by decide +kernel
theorem dX7_way_101 : decode cX7_way 101 = .ok (.getfield 44, 3) := by decide +kernel
theorem dX7_way_104 : decode cX7_way 104 = .ok (.getfield 237, 3) := by decide +kernel
theorem dX7_way_107 : decode cX7_way 107 = .ok (.ifCond .ne 6, 3) := by decide +kernel
theorem dX7_way_110 : decode cX7_way 110 = .ok (.bipush (-4), 2) := by decide +kernel
theorem dX7_way_112 : decode cX7_way 112 = .ok (.ireturn, 1) := by decide +kernel
theorem dX7_way_113 : decode cX7_way 113 = .ok (.iload_n 3, 1) := by decide +kernel
theorem dX7_way_114 : decode cX7_way 114 = .ok (.ifCond .ne 13, 3) := by decide +kernel
theorem dX7_way_117 : decode cX7_way 117 = .ok (.aload_n 0, 1) := by decide +kernel
theorem dX7_way_118 : decode cX7_way 118 = .ok (.getfield 44, 3) := by decide +kernel
theorem dX7_way_121 : decode cX7_way 121 = .ok (.getfield 248, 3) := by decide +kernel
theorem dX7_way_124 : decode cX7_way 124 = .ok (.goto 10, 3) := by decide +kernel
theorem dX7_way_127 : decode cX7_way 127 = .ok (.aload_n 0, 1) := by decide +kernel
theorem dX7_way_128 : decode cX7_way 128 = .ok (.getfield 44, 3) := by decide +kernel
theorem dX7_way_131 : decode cX7_way 131 = .ok (.getfield 251, 3) := by decide +kernel
theorem dX7_way_134 : decode cX7_way 134 = .ok (.ireturn, 1) := by decide +kernel
theorem dX7_peace_0 : decode cX7_peace 0 = .ok (.iload_n 1, 1) := by decide +kernel
theorem dX7_peace_1 : decode cX7_peace 1 = .ok (.ifCond .lt 19, 3) := by decide +kernel
theorem dX7_peace_4 : decode cX7_peace 4 = .ok (.iload_n 1, 1) := by decide +kernel
theorem dX7_peace_5 : decode cX7_peace 5 = .ok (.iconst 4, 1) := by decide +kernel
theorem dX7_peace_6 : decode cX7_peace 6 = .ok (.if_icmp .gt 14, 3) := by decide +kernel
theorem dX7_peace_9 : decode cX7_peace 9 = .ok (.iload_n 2, 1) := by decide +kernel
theorem dX7_peace_10 : decode cX7_peace 10 = .ok (.ifCond .eq 12, 3) := by decide +kernel
theorem dX7_peace_13 : decode cX7_peace 13 = .ok (.iload_n 2, 1) := by decide +kernel
theorem dX7_peace_14 : decode cX7_peace 14 = .ok (.invokestatic 231, 3) := by decide +kernel
theorem dX7_peace_17 : decode cX7_peace 17 = .ok (.ifCond .ne 5, 3) := by decide +kernel
theorem dX7_peace_20 : decode cX7_peace 20 = .ok (.iconst (-1), 1) := by decide +kernel
theorem dX7_peace_21 : decode cX7_peace 21 = .ok (.ireturn, 1) := by decide +kernel
theorem dX7_peace_22 : decode cX7_peace 22 = .ok (.aload_n 0, 1) := by decide +kernel
theorem dX7_peace_23 : decode cX7_peace 23 = .ok (.getfield 44, 3) := by decide +kernel
theorem dX7_peace_26 : decode cX7_peace 26 = .ok (.iconst (-1), 1) := by decide +kernel
theorem dX7_peace_27 : decode cX7_peace 27 = .ok (.iconst 0, 1) := by decide +kernel
theorem dX7_peace_28 : decode cX7_peace 28 = .ok (.invokevirtual 234, 3) := by decide +kernel
theorem dX7_peace_31 : decode cX7_peace 31 = .ok (.aload_n 0, 1) := by decide +kernel
theorem dX7_peace_32 : decode cX7_peace 32 = .ok (.getfield 44, 3) := by decide +kernel
theorem dX7_peace_35 : decode cX7_peace 35 = .ok (.aload_n 0, 1) := by decide +kernel
theorem dX7_peace_36 : decode cX7_peace 36 = .ok (.getfield 10, 3) := by decide +kernel
theorem dX7_peace_39 : decode cX7_peace 39 = .ok (.iload_n 1, 1) := by decide +kernel
theorem dX7_peace_40 : decode cX7_peace 40 = .ok (.invokevirtual 241, 3) := by decide +kernel
theorem dX7_peace_43 : decode cX7_peace 43 = .ok (.iload_n 2, 1) := by decide +kernel
theorem dX7_peace_44 : decode cX7_peace 44 = .ok (.invokestatic 231, 3) := by decide +kernel
theorem dX7_peace_47 : decode cX7_peace 47 = .ok (.ifCond .eq 15, 3) := by decide +kernel
theorem dX7_peace_50 : decode cX7_peace 50 = .ok (.aload_n 0, 1) := by decide +kernel
theorem dX7_peace_51 : decode cX7_peace 51 = .ok (.getfield 44, 3) := by decide +kernel
theorem dX7_peace_54 : decode cX7_peace 54 = .ok (.iload_n 2, 1) := by decide +kernel
theorem dX7_peace_55 : decode cX7_peace 55 = .ok (.bipush 10, 2) := by decide +kernel
theorem dX7_peace_57 : decode cX7_peace 57 = .ok (.isub, 1) := by decide +kernel
theorem dX7_peace_58 : decode cX7_peace 58 = .ok (.invokevirtual 245, 3) := by decide +kernel
theorem dX7_peace_61 : decode cX7_peace 61 = .ok (.ireturn, 1) := by decide +kernel
theorem dX7_peace_62 : decode cX7_peace 62 = .ok (.aload_n 0, 1) := by decide +kernel
theorem dX7_peace_63 : decode cX7_peace 63 = .ok (.getfield 44, 3) := by decide +kernel
theorem dX7_peace_66 : decode cX7_peace 66 = .ok (.getfield 237, 3) := by decide +kernel
theorem dX7_peace_69 : decode cX7_peace 69 = .ok (.ifCond .eq 13, 3) := by decide +kernel
theorem dX7_peace_72 : decode cX7_peace 72 = .ok (.aload_n 0, 1) := by decide +kernel
theorem dX7_peace_73 : decode cX7_peace 73 = .ok (.getfield 44, 3) := by decide +kernel
theorem dX7_peace_76 : decode cX7_peace 76 = .ok (.getfield 251, 3) := by decide +kernel
theorem dX7_peace_79 : decode cX7_peace 79 = .ok (.goto 5, 3) := by decide +kernel
theorem dX7_peace_82 : decode cX7_peace 82 = .ok (.bipush (-4), 2) := by decide +kernel
theorem dX7_peace_84 : decode cX7_peace 84 = .ok (.ireturn, 1) := by decide +kernel
theorem dX7_amend_0 : decode cX7_amend 0 = .ok (.iload_n 1, 1) := by decide +kernel
theorem dX7_amend_1 : decode cX7_amend 1 = .ok (.invokestatic 148, 3) := by decide +kernel
theorem dX7_amend_4 : decode cX7_amend 4 = .ok (.ifCond .ne 5, 3) := by decide +kernel
theorem dX7_amend_7 : decode cX7_amend 7 = .ok (.iconst (-1), 1) := by decide +kernel
theorem dX7_amend_8 : decode cX7_amend 8 = .ok (.ireturn, 1) := by decide +kernel
theorem dX7_amend_9 : decode cX7_amend 9 = .ok (.aload_n 0, 1) := by decide +kernel
theorem dX7_amend_10 : decode cX7_amend 10 = .ok (.getfield 10, 3) := by decide +kernel
theorem dX7_amend_13 : decode cX7_amend 13 = .ok (.invokevirtual 254, 3) := by decide +kernel
theorem dX7_amend_16 : decode cX7_amend 16 = .ok (.istore_n 2, 1) := by decide +kernel
theorem dX7_amend_17 : decode cX7_amend 17 = .ok (.bipush (-4), 2) := by decide +kernel
theorem dX7_amend_19 : decode cX7_amend 19 = .ok (.istore_n 3, 1) := by decide +kernel
theorem dX7_amend_20 : decode cX7_amend 20 = .ok (.aload_n 0, 1) := by decide +kernel
theorem dX7_amend_21 : decode cX7_amend 21 = .ok (.getfield 16, 3) := by decide +kernel
theorem dX7_amend_24 : decode cX7_amend 24 = .ok (.aload_n 0, 1) := by decide +kernel
theorem dX7_amend_25 : decode cX7_amend 25 = .ok (.getfield 10, 3) := by decide +kernel
theorem dX7_amend_28 : decode cX7_amend 28 = .ok (.invokevirtual 88, 3) := by decide +kernel
theorem dX7_amend_31 : decode cX7_amend 31 = .ok (.iconst 0, 1) := by decide +kernel
theorem dX7_amend_32 : decode cX7_amend 32 = .ok (.istore 4, 2) := by decide +kernel
theorem dX7_amend_34 : decode cX7_amend 34 = .ok (.iload 4, 2) := by decide +kernel
theorem dX7_amend_36 : decode cX7_amend 36 = .ok (.aload_n 0, 1) := by decide +kernel
theorem dX7_amend_37 : decode cX7_amend 37 = .ok (.getfield 10, 3) := by decide +kernel
theorem dX7_amend_40 : decode cX7_amend 40 = .ok (.getfield 98, 3) := by decide +kernel
theorem dX7_amend_43 : decode cX7_amend 43 = .ok (.if_icmp .ge 89, 3) := by decide +kernel
theorem dX7_amend_46 : decode cX7_amend 46 = .ok (.iconst 0, 1) := by decide +kernel
theorem dX7_amend_47 : decode cX7_amend 47 = .ok (.istore 5, 2) := by decide +kernel
theorem dX7_amend_49 : decode cX7_amend 49 = .ok (.iload 5, 2) := by decide +kernel
theorem dX7_amend_51 : decode cX7_amend 51 = .ok (.aload_n 0, 1) := by decide +kernel
theorem dX7_amend_52 : decode cX7_amend 52 = .ok (.getfield 10, 3) := by decide +kernel
theorem dX7_amend_55 : decode cX7_amend 55 = .ok (.getfield 98, 3) := by decide +kernel
theorem dX7_amend_58 : decode cX7_amend 58 = .ok (.if_icmp .ge 48, 3) := by decide +kernel
theorem dX7_amend_61 : decode cX7_amend 61 = .ok (.aload_n 0, 1) := by decide +kernel
theorem dX7_amend_62 : decode cX7_amend 62 = .ok (.getfield 16, 3) := by decide +kernel
theorem dX7_amend_65 : decode cX7_amend 65 = .ok (.getfield 131, 3) := by decide +kernel
theorem dX7_amend_68 : decode cX7_amend 68 = .ok (.iload 4, 2) := by decide +kernel
theorem dX7_amend_70 : decode cX7_amend 70 = .ok (.iload 5, 2) := by decide +kernel
theorem dX7_amend_72 : decode cX7_amend 72 = .ok (.iastore, 1) := by decide +kernel
theorem dX7_amend_73 : decode cX7_amend 73 = .ok (.aload_n 0, 1) := by decide +kernel
theorem dX7_amend_74 : decode cX7_amend 74 = .ok (.getfield 16, 3) := by decide +kernel
theorem dX7_amend_77 : decode cX7_amend 77 = .ok (.invokevirtual 254, 3) := by decide +kernel
theorem dX7_amend_80 : decode cX7_amend 80 = .ok (.istore 6, 2) := by decide +kernel
theorem dX7_amend_82 : decode cX7_amend 82 = .ok (.iload 6, 2) := by decide +kernel
theorem dX7_amend_84 : decode cX7_amend 84 = .ok (.iload_n 2, 1) := by decide +kernel
theorem dX7_amend_85 : decode cX7_amend 85 = .ok (.if_icmp .le 15, 3) := by decide +kernel
theorem dX7_amend_88 : decode cX7_amend 88 = .ok (.iload 6, 2) := by decide +kernel
theorem dX7_amend_90 : decode cX7_amend 90 = .ok (.istore_n 2, 1) := by decide +kernel
theorem dX7_amend_91 : decode cX7_amend 91 = .ok (.bipush 10, 2) := by decide +kernel
theorem dX7_amend_93 : decode cX7_amend 93 = .ok (.iload 4, 2) := by decide +kernel
theorem dX7_amend_95 : decode cX7_amend 95 = .ok (.imul, 1) := by decide +kernel
theorem dX7_amend_96 : decode cX7_amend 96 = .ok (.iload 5, 2) := by decide +kernel
theorem dX7_amend_98 : decode cX7_amend 98 = .ok (.iadd, 1) := by decide +kernel
theorem dX7_amend_99 : decode cX7_amend 99 = .ok (.istore_n 3, 1) := by decide +kernel
theorem dX7_amend_100 : decode cX7_amend 100 = .ok (.iinc 5 1, 3) := by decide +kernel
theorem dX7_amend_103 : decode cX7_amend 103 = .ok (.goto (-54), 3) := by decide +kernel
theorem dX7_amend_106 : decode cX7_amend 106 = .ok (.aload_n 0, 1) := by decide +kernel
theorem dX7_amend_107 : decode cX7_amend 107 = .ok (.getfield 16, 3) := by decide +kernel
theorem dX7_amend_110 : decode cX7_amend 110 = .ok (.getfield 131, 3) := by decide +kernel
theorem dX7_amend_113 : decode cX7_amend 113 = .ok (.iload 4, 2) := by decide +kernel
theorem dX7_amend_115 : decode cX7_amend 115 = .ok (.aload_n 0, 1) := by decide +kernel
theorem dX7_amend_116 : decode cX7_amend 116 = .ok (.getfield 10, 3) := by decide +kernel
theorem dX7_amend_119 : decode cX7_amend 119 = .ok (.getfield 131, 3) := by decide +kernel
theorem dX7_amend_122 : decode cX7_amend 122 = .ok (.iload 4, 2) := by decide +kernel
theorem dX7_amend_124 : decode cX7_amend 124 = .ok (.iaload, 1) := by decide +kernel
theorem dX7_amend_125 : decode cX7_amend 125 = .ok (.iastore, 1) := by decide +kernel
theorem dX7_amend_126 : decode cX7_amend 126 = .ok (.iinc 4 1, 3) := by decide +kernel
theorem dX7_amend_129 : decode cX7_amend 129 = .ok (.goto (-95), 3) := by decide +kernel
theorem dX7_amend_132 : decode cX7_amend 132 = .ok (.iload_n 1, 1) := by decide +kernel
theorem dX7_amend_133 : decode cX7_amend 133 = .ok (.ifCond .eq 9, 3) := by decide +kernel
theorem dX7_amend_136 : decode cX7_amend 136 = .ok (.iload_n 3, 1) := by decide +kernel
theorem dX7_amend_137 : decode cX7_amend 137 = .ok (.bipush (-4), 2) := by decide +kernel
theorem dX7_amend_139 : decode cX7_amend 139 = .ok (.if_icmp .ne 7, 3) := by decide +kernel
theorem dX7_amend_142 : decode cX7_amend 142 = .ok (.iload_n 3, 1) := by decide +kernel
theorem dX7_amend_143 : decode cX7_amend 143 = .ok (.goto 4, 3) := by decide +kernel
theorem dX7_amend_146 : decode cX7_amend 146 = .ok (.iload_n 2, 1) := by decide +kernel
theorem dX7_amend_147 : decode cX7_amend 147 = .ok (.ireturn, 1) := by decide +kernel
theorem dX7_strict_0 : decode cX7_strict 0 = .ok (.iload_n 1, 1) := by decide +kernel
theorem dX7_strict_1 : decode cX7_strict 1 = .ok (.invokestatic 148, 3) := by decide +kernel
theorem dX7_strict_4 : decode cX7_strict 4 = .ok (.ifCond .ne 5, 3) := by decide +kernel
theorem dX7_strict_7 : decode cX7_strict 7 = .ok (.iconst (-1), 1) := by decide +kernel
theorem dX7_strict_8 : decode cX7_strict 8 = .ok (.ireturn, 1) := by decide +kernel
theorem dX7_strict_9 : decode cX7_strict 9 = .ok (.aload_n 0, 1) := by decide +kernel
theorem dX7_strict_10 : decode cX7_strict 10 = .ok (.getfield 10, 3) := by decide +kernel
theorem dX7_strict_13 : decode cX7_strict 13 = .ok (.invokevirtual 254, 3) := by decide +kernel
theorem dX7_strict_16 : decode cX7_strict 16 = .ok (.istore_n 2, 1) := by decide +kernel
theorem dX7_strict_17 : decode cX7_strict 17 = .ok (.bipush (-4), 2) := by decide +kernel
theorem dX7_strict_19 : decode cX7_strict 19 = .ok (.istore_n 3, 1) := by decide +kernel
theorem dX7_strict_20 : decode cX7_strict 20 = .ok (.iconst 0, 1) := by decide +kernel
theorem dX7_strict_21 : decode cX7_strict 21 = .ok (.istore 4, 2) := by decide +kernel
theorem dX7_strict_23 : decode cX7_strict 23 = .ok (.iload 4, 2) := by decide +kernel
theorem dX7_strict_25 : decode cX7_strict 25 = .ok (.aload_n 0, 1) := by decide +kernel
theorem dX7_strict_26 : decode cX7_strict 26 = .ok (.getfield 10, 3) := by decide +kernel
theorem dX7_strict_29 : decode cX7_strict 29 = .ok (.getfield 98, 3) := by decide +kernel
theorem dX7_strict_32 : decode cX7_strict 32 = .ok (.if_icmp .ge 70, 3) := by decide +kernel
theorem dX7_strict_35 : decode cX7_strict 35 = .ok (.iload 4, 2) := by decide +kernel
theorem dX7_strict_37 : decode cX7_strict 37 = .ok (.iconst 1, 1) := by decide +kernel
theorem dX7_strict_38 : decode cX7_strict 38 = .ok (.iadd, 1) := by decide +kernel
theorem dX7_strict_39 : decode cX7_strict 39 = .ok (.istore 5, 2) := by decide +kernel
theorem dX7_strict_41 : decode cX7_strict 41 = .ok (.iload 5, 2) := by decide +kernel
theorem dX7_strict_43 : decode cX7_strict 43 = .ok (.aload_n 0, 1) := by decide +kernel
theorem dX7_strict_44 : decode cX7_strict 44 = .ok (.getfield 10, 3) := by decide +kernel
theorem dX7_strict_47 : decode cX7_strict 47 = .ok (.getfield 98, 3) := by decide +kernel
theorem dX7_strict_50 : decode cX7_strict 50 = .ok (.if_icmp .ge 46, 3) := by decide +kernel
theorem dX7_strict_53 : decode cX7_strict 53 = .ok (.aload_n 0, 1) := by decide +kernel
theorem dX7_strict_54 : decode cX7_strict 54 = .ok (.getfield 10, 3) := by decide +kernel
theorem dX7_strict_57 : decode cX7_strict 57 = .ok (.iload 4, 2) := by decide +kernel
theorem dX7_strict_59 : decode cX7_strict 59 = .ok (.iload 5, 2) := by decide +kernel
theorem dX7_strict_61 : decode cX7_strict 61 = .ok (.invokevirtual 257, 3) := by decide +kernel
theorem dX7_strict_64 : decode cX7_strict 64 = .ok (.istore 6, 2) := by decide +kernel
theorem dX7_strict_66 : decode cX7_strict 66 = .ok (.iload 6, 2) := by decide +kernel
theorem dX7_strict_68 : decode cX7_strict 68 = .ok (.iconst 1, 1) := by decide +kernel
theorem dX7_strict_69 : decode cX7_strict 69 = .ok (.if_icmp .lt 21, 3) := by decide +kernel
theorem dX7_strict_72 : decode cX7_strict 72 = .ok (.iload 6, 2) := by decide +kernel
theorem dX7_strict_74 : decode cX7_strict 74 = .ok (.iload_n 2, 1) := by decide +kernel
theorem dX7_strict_75 : decode cX7_strict 75 = .ok (.if_icmp .ge 15, 3) := by decide +kernel
theorem dX7_strict_78 : decode cX7_strict 78 = .ok (.iload 6, 2) := by decide +kernel
theorem dX7_strict_80 : decode cX7_strict 80 = .ok (.istore_n 2, 1) := by decide +kernel
theorem dX7_strict_81 : decode cX7_strict 81 = .ok (.bipush 10, 2) := by decide +kernel
theorem dX7_strict_83 : decode cX7_strict 83 = .ok (.iload 4, 2) := by decide +kernel
theorem dX7_strict_85 : decode cX7_strict 85 = .ok (.imul, 1) := by decide +kernel
theorem dX7_strict_86 : decode cX7_strict 86 = .ok (.iload 5, 2) := by decide +kernel
theorem dX7_strict_88 : decode cX7_strict 88 = .ok (.iadd, 1) := by decide +kernel
theorem dX7_strict_89 : decode cX7_strict 89 = .ok (.istore_n 3, 1) := by decide +kernel
theorem dX7_strict_90 : decode cX7_strict 90 = .ok (.iinc 5 1, 3) := by decide +kernel
theorem dX7_strict_93 : decode cX7_strict 93 = .ok (.goto (-52), 3) := by decide +kernel
theorem dX7_strict_96 : decode cX7_strict 96 = .ok (.iinc 4 1, 3) := by decide +kernel
theorem dX7_strict_99 : decode cX7_strict 99 = .ok (.goto (-76), 3) := by decide +kernel
theorem dX7_strict_102 : decode cX7_strict 102 = .ok (.iload_n 1, 1) := by decide +kernel
theorem dX7_strict_103 : decode cX7_strict 103 = .ok (.ifCond .eq 9, 3) := by decide +kernel
theorem dX7_strict_106 : decode cX7_strict 106 = .ok (.iload_n 3, 1) := by decide +kernel
theorem dX7_strict_107 : decode cX7_strict 107 = .ok (.bipush (-4), 2) := by decide +kernel
theorem dX7_strict_109 : decode cX7_strict 109 = .ok (.if_icmp .ne 7, 3) := by decide +kernel
theorem dX7_strict_112 : decode cX7_strict 112 = .ok (.iload_n 3, 1) := by decide +kernel
theorem dX7_strict_113 : decode cX7_strict 113 = .ok (.goto 4, 3) := by decide +kernel
theorem dX7_strict_116 : decode cX7_strict 116 = .ok (.iload_n 2, 1) := by decide +kernel
theorem dX7_strict_117 : decode cX7_strict 117 = .ok (.ireturn, 1) := by decide +kernel
theorem dX7_luck_0 : decode cX7_luck 0 = .ok (.aload_n 0, 1) := by decide +kernel
theorem dX7_luck_1 : decode cX7_luck 1 = .ok (.iload_n 1, 1) := by decide +kernel
theorem dX7_luck_2 : decode cX7_luck 2 = .ok (.iload_n 2, 1) := by decide +kernel
theorem dX7_luck_3 : decode cX7_luck 3 = .ok (.iconst 0, 1) := by decide +kernel
theorem dX7_luck_4 : decode cX7_luck 4 = .ok (.invokevirtual 260, 3) := by decide +kernel
theorem dX7_luck_7 : decode cX7_luck 7 = .ok (.lreturn, 1) := by decide +kernel
theorem dX7_calm_0 : decode cX7_calm 0 = .ok (.aload_n 0, 1) := by decide +kernel
theorem dX7_calm_1 : decode cX7_calm 1 = .ok (.iload_n 1, 1) := by decide +kernel
theorem dX7_calm_2 : decode cX7_calm 2 = .ok (.iload_n 2, 1) := by decide +kernel
theorem dX7_calm_3 : decode cX7_calm 3 = .ok (.iconst 1, 1) := by decide +kernel
theorem dX7_calm_4 : decode cX7_calm 4 = .ok (.invokevirtual 260, 3) := by decide +kernel
theorem dX7_calm_7 : decode cX7_calm 7 = .ok (.lreturn, 1) := by decide +kernel
theorem dX7_mean_0 : decode cX7_mean 0 = .ok (.aload_n 0, 1) := by decide +kernel
theorem dX7_mean_1 : decode cX7_mean 1 = .ok (.iload_n 1, 1) := by decide +kernel
theorem dX7_mean_2 : decode cX7_mean 2 = .ok (.iload_n 2, 1) := by decide +kernel
theorem dX7_mean_3 : decode cX7_mean 3 = .ok (.iconst 2, 1) := by decide +kernel
theorem dX7_mean_4 : decode cX7_mean 4 = .ok (.invokevirtual 260, 3) := by decide +kernel
theorem dX7_mean_7 : decode cX7_mean 7 = .ok (.lreturn, 1) := by decide +kernel
theorem dX7_see_0 : decode cX7_see 0 = .ok (.aload_n 0, 1) := by decide +kernel
theorem dX7_see_1 : decode cX7_see 1 = .ok (.getfield 10, 3) := by decide +kernel
theorem dX7_see_4 : decode cX7_see 4 = .ok (.iload_n 1, 1) := by decide +kernel
theorem dX7_see_5 : decode cX7_see 5 = .ok (.invokevirtual 124, 3) := by decide +kernel
theorem dX7_see_8 : decode cX7_see 8 = .ok (.ifCond .eq 13, 3) := by decide +kernel
theorem dX7_see_11 : decode cX7_see 11 = .ok (.iload_n 2, 1) := by decide +kernel
theorem dX7_see_12 : decode cX7_see 12 = .ok (.ifCond .lt 9, 3) := by decide +kernel
theorem dX7_see_15 : decode cX7_see 15 = .ok (.iload_n 2, 1) := by decide +kernel
theorem dX7_see_16 : decode cX7_see 16 = .ok (.bipush 9, 2) := by decide +kernel
theorem dX7_see_18 : decode cX7_see 18 = .ok (.if_icmp .le 5, 3) := by decide +kernel
theorem dX7_see_21 : decode cX7_see 21 = .ok (.iconst (-1), 1) := by decide +kernel
theorem dX7_see_22 : decode cX7_see 22 = .ok (.ireturn, 1) := by decide +kernel
theorem dX7_see_23 : decode cX7_see 23 = .ok (.aload_n 0, 1) := by decide +kernel
theorem dX7_see_24 : decode cX7_see 24 = .ok (.getfield 37, 3) := by decide +kernel
theorem dX7_see_27 : decode cX7_see 27 = .ok (.getfield 92, 3) := by decide +kernel
theorem dX7_see_30 : decode cX7_see 30 = .ok (.bipush 6, 2) := by decide +kernel
theorem dX7_see_32 : decode cX7_see 32 = .ok (.if_icmp .lt 6, 3) := by decide +kernel
theorem dX7_see_35 : decode cX7_see 35 = .ok (.bipush (-3), 2) := by decide +kernel
theorem dX7_see_37 : decode cX7_see 37 = .ok (.ireturn, 1) := by decide +kernel
theorem dX7_see_38 : decode cX7_see 38 = .ok (.aload_n 0, 1) := by decide +kernel
theorem dX7_see_39 : decode cX7_see 39 = .ok (.getfield 37, 3) := by decide +kernel
theorem dX7_see_42 : decode cX7_see 42 = .ok (.iload_n 1, 1) := by decide +kernel
theorem dX7_see_43 : decode cX7_see 43 = .ok (.iload_n 2, 1) := by decide +kernel
theorem dX7_see_44 : decode cX7_see 44 = .ok (.iload_n 3, 1) := by decide +kernel
theorem dX7_see_45 : decode cX7_see 45 = .ok (.invokevirtual 264, 3) := by decide +kernel
theorem dX7_see_48 : decode cX7_see 48 = .ok (.aload_n 0, 1) := by decide +kernel
theorem dX7_see_49 : decode cX7_see 49 = .ok (.getfield 37, 3) := by decide +kernel
theorem dX7_see_52 : decode cX7_see 52 = .ok (.getfield 92, 3) := by decide +kernel
theorem dX7_see_55 : decode cX7_see 55 = .ok (.ireturn, 1) := by decide +kernel
theorem dX7_forget_0 : decode cX7_forget 0 = .ok (.iload_n 1, 1) := by decide +kernel
theorem dX7_forget_1 : decode cX7_forget 1 = .ok (.ifCond .lt 14, 3) := by decide +kernel
theorem dX7_forget_4 : decode cX7_forget 4 = .ok (.iload_n 1, 1) := by decide +kernel
theorem dX7_forget_5 : decode cX7_forget 5 = .ok (.aload_n 0, 1) := by decide +kernel
theorem dX7_forget_6 : decode cX7_forget 6 = .ok (.getfield 37, 3) := by decide +kernel
theorem dX7_forget_9 : decode cX7_forget 9 = .ok (.getfield 92, 3) := by decide +kernel
theorem dX7_forget_12 : decode cX7_forget 12 = .ok (.if_icmp .le 5, 3) := by decide +kernel
theorem dX7_forget_15 : decode cX7_forget 15 = .ok (.iconst (-1), 1) := by decide +kernel
theorem dX7_forget_16 : decode cX7_forget 16 = .ok (.ireturn, 1) := by decide +kernel
theorem dX7_forget_17 : decode cX7_forget 17 = .ok (.aload_n 0, 1) := by decide +kernel
theorem dX7_forget_18 : decode cX7_forget 18 = .ok (.getfield 37, 3) := by decide +kernel
theorem dX7_forget_21 : decode cX7_forget 21 = .ok (.getfield 92, 3) := by decide +kernel
theorem dX7_forget_24 : decode cX7_forget 24 = .ok (.istore_n 2, 1) := by decide +kernel
theorem dX7_forget_25 : decode cX7_forget 25 = .ok (.aload_n 0, 1) := by decide +kernel
theorem dX7_forget_26 : decode cX7_forget 26 = .ok (.getfield 37, 3) := by decide +kernel
theorem dX7_forget_29 : decode cX7_forget 29 = .ok (.iload_n 1, 1) := by decide +kernel
theorem dX7_forget_30 : decode cX7_forget 30 = .ok (.putfield 92, 3) := by decide +kernel
theorem dX7_forget_33 : decode cX7_forget 33 = .ok (.iload_n 2, 1) := by decide +kernel
theorem dX7_forget_34 : decode cX7_forget 34 = .ok (.ireturn, 1) := by decide +kernel
theorem dX7_fits_0 : decode cX7_fits 0 = .ok (.iload_n 1, 1) := by decide +kernel
theorem dX7_fits_1 : decode cX7_fits 1 = .ok (.ifCond .lt 8, 3) := by decide +kernel
theorem dX7_fits_4 : decode cX7_fits 4 = .ok (.iload_n 1, 1) := by decide +kernel
theorem dX7_fits_5 : decode cX7_fits 5 = .ok (.iconst 3, 1) := by decide +kernel
theorem dX7_fits_6 : decode cX7_fits 6 = .ok (.if_icmp .le 5, 3) := by decide +kernel
theorem dX7_fits_9 : decode cX7_fits 9 = .ok (.iconst (-1), 1) := by decide +kernel
theorem dX7_fits_10 : decode cX7_fits 10 = .ok (.ireturn, 1) := by decide +kernel
theorem dX7_fits_11 : decode cX7_fits 11 = .ok (.aload_n 0, 1) := by decide +kernel
theorem dX7_fits_12 : decode cX7_fits 12 = .ok (.getfield 51, 3) := by decide +kernel
theorem dX7_fits_15 : decode cX7_fits 15 = .ok (.invokevirtual 201, 3) := by decide +kernel
theorem dX7_fits_18 : decode cX7_fits 18 = .ok (.iconst 0, 1) := by decide +kernel
theorem dX7_fits_19 : decode cX7_fits 19 = .ok (.istore_n 2, 1) := by decide +kernel
theorem dX7_fits_20 : decode cX7_fits 20 = .ok (.iload_n 2, 1) := by decide +kernel
theorem dX7_fits_21 : decode cX7_fits 21 = .ok (.aload_n 0, 1) := by decide +kernel
theorem dX7_fits_22 : decode cX7_fits 22 = .ok (.getfield 10, 3) := by decide +kernel
theorem dX7_fits_25 : decode cX7_fits 25 = .ok (.invokevirtual 210, 3) := by decide +kernel
theorem dX7_fits_28 : decode cX7_fits 28 = .ok (.if_icmp .ge 32, 3) := by decide +kernel
theorem dX7_fits_31 : decode cX7_fits 31 = .ok (.aload_n 0, 1) := by decide +kernel
theorem dX7_fits_32 : decode cX7_fits 32 = .ok (.getfield 37, 3) := by decide +kernel
theorem dX7_fits_35 : decode cX7_fits 35 = .ok (.aload_n 0, 1) := by decide +kernel
theorem dX7_fits_36 : decode cX7_fits 36 = .ok (.getfield 10, 3) := by decide +kernel
theorem dX7_fits_39 : decode cX7_fits 39 = .ok (.iload_n 2, 1) := by decide +kernel
theorem dX7_fits_40 : decode cX7_fits 40 = .ok (.invokevirtual 268, 3) := by decide +kernel
theorem dX7_fits_43 : decode cX7_fits 43 = .ok (.ifCond .eq 11, 3) := by decide +kernel
theorem dX7_fits_46 : decode cX7_fits 46 = .ok (.aload_n 0, 1) := by decide +kernel
theorem dX7_fits_47 : decode cX7_fits 47 = .ok (.getfield 51, 3) := by decide +kernel
theorem dX7_fits_50 : decode cX7_fits 50 = .ok (.iload_n 2, 1) := by decide +kernel
theorem dX7_fits_51 : decode cX7_fits 51 = .ok (.invokevirtual 204, 3) := by decide +kernel
theorem dX7_fits_54 : decode cX7_fits 54 = .ok (.iinc 2 1, 3) := by decide +kernel
theorem dX7_fits_57 : decode cX7_fits 57 = .ok (.goto (-37), 3) := by decide +kernel
theorem dX7_fits_60 : decode cX7_fits 60 = .ok (.aload_n 0, 1) := by decide +kernel
theorem dX7_fits_61 : decode cX7_fits 61 = .ok (.getfield 51, 3) := by decide +kernel
theorem dX7_fits_64 : decode cX7_fits 64 = .ok (.iload_n 1, 1) := by decide +kernel
theorem dX7_fits_65 : decode cX7_fits 65 = .ok (.invokevirtual 207, 3) := by decide +kernel
theorem dX7_fits_68 : decode cX7_fits 68 = .ok (.ireturn, 1) := by decide +kernel
theorem dX7_look_0 : decode cX7_look 0 = .ok (.iload_n 1, 1) := by decide +kernel
theorem dX7_look_1 : decode cX7_look 1 = .ok (.invokestatic 148, 3) := by decide +kernel
theorem dX7_look_4 : decode cX7_look 4 = .ok (.ifCond .ne 5, 3) := by decide +kernel
theorem dX7_look_7 : decode cX7_look 7 = .ok (.iconst (-1), 1) := by decide +kernel
theorem dX7_look_8 : decode cX7_look 8 = .ok (.ireturn, 1) := by decide +kernel
theorem dX7_look_9 : decode cX7_look 9 = .ok (.aload_n 0, 1) := by decide +kernel
theorem dX7_look_10 : decode cX7_look 10 = .ok (.getfield 37, 3) := by decide +kernel
theorem dX7_look_13 : decode cX7_look 13 = .ok (.aload_n 0, 1) := by decide +kernel
theorem dX7_look_14 : decode cX7_look 14 = .ok (.getfield 10, 3) := by decide +kernel
theorem dX7_look_17 : decode cX7_look 17 = .ok (.invokevirtual 272, 3) := by decide +kernel
theorem dX7_look_20 : decode cX7_look 20 = .ok (.aload_n 0, 1) := by decide +kernel
theorem dX7_look_21 : decode cX7_look 21 = .ok (.getfield 37, 3) := by decide +kernel
theorem dX7_look_24 : decode cX7_look 24 = .ok (.getfield 275, 3) := by decide +kernel
theorem dX7_look_27 : decode cX7_look 27 = .ok (.istore_n 2, 1) := by decide +kernel
theorem dX7_look_28 : decode cX7_look 28 = .ok (.bipush (-4), 2) := by decide +kernel
theorem dX7_look_30 : decode cX7_look 30 = .ok (.istore_n 3, 1) := by decide +kernel
theorem dX7_look_31 : decode cX7_look 31 = .ok (.iconst 0, 1) := by decide +kernel
theorem dX7_look_32 : decode cX7_look 32 = .ok (.istore 4, 2) := by decide +kernel
theorem dX7_look_34 : decode cX7_look 34 = .ok (.iload 4, 2) := by decide +kernel
theorem dX7_look_36 : decode cX7_look 36 = .ok (.bipush 9, 2) := by decide +kernel
theorem dX7_look_38 : decode cX7_look 38 = .ok (.if_icmp .gt 70, 3) := by decide +kernel
theorem dX7_look_41 : decode cX7_look 41 = .ok (.iconst 0, 1) := by decide +kernel
theorem dX7_look_42 : decode cX7_look 42 = .ok (.istore 5, 2) := by decide +kernel
theorem dX7_look_44 : decode cX7_look 44 = .ok (.iload 5, 2) := by decide +kernel
theorem dX7_look_46 : decode cX7_look 46 = .ok (.aload_n 0, 1) := by decide +kernel
theorem dX7_look_47 : decode cX7_look 47 = .ok (.getfield 10, 3) := by decide +kernel
theorem dX7_look_50 : decode cX7_look 50 = .ok (.getfield 98, 3) := by decide +kernel
theorem dX7_look_53 : decode cX7_look 53 = .ok (.if_icmp .ge 38, 3) := by decide +kernel
theorem dX7_look_56 : decode cX7_look 56 = .ok (.aload_n 0, 1) := by decide +kernel
theorem dX7_look_57 : decode cX7_look 57 = .ok (.getfield 37, 3) := by decide +kernel
theorem dX7_look_60 : decode cX7_look 60 = .ok (.iload 5, 2) := by decide +kernel
theorem dX7_look_62 : decode cX7_look 62 = .ok (.invokevirtual 278, 3) := by decide +kernel
theorem dX7_look_65 : decode cX7_look 65 = .ok (.istore 6, 2) := by decide +kernel
theorem dX7_look_67 : decode cX7_look 67 = .ok (.iload 6, 2) := by decide +kernel
theorem dX7_look_69 : decode cX7_look 69 = .ok (.iload_n 2, 1) := by decide +kernel
theorem dX7_look_70 : decode cX7_look 70 = .ok (.if_icmp .ge 15, 3) := by decide +kernel
theorem dX7_look_73 : decode cX7_look 73 = .ok (.iload 6, 2) := by decide +kernel
theorem dX7_look_75 : decode cX7_look 75 = .ok (.istore_n 2, 1) := by decide +kernel
theorem dX7_look_76 : decode cX7_look 76 = .ok (.bipush 10, 2) := by decide +kernel
theorem dX7_look_78 : decode cX7_look 78 = .ok (.iload 4, 2) := by decide +kernel
theorem dX7_look_80 : decode cX7_look 80 = .ok (.imul, 1) := by decide +kernel
theorem dX7_look_81 : decode cX7_look 81 = .ok (.iload 5, 2) := by decide +kernel
theorem dX7_look_83 : decode cX7_look 83 = .ok (.iadd, 1) := by decide +kernel
theorem dX7_look_84 : decode cX7_look 84 = .ok (.istore_n 3, 1) := by decide +kernel
theorem dX7_look_85 : decode cX7_look 85 = .ok (.iinc 5 1, 3) := by decide +kernel
theorem dX7_look_88 : decode cX7_look 88 = .ok (.goto (-44), 3) := by decide +kernel
theorem dX7_look_91 : decode cX7_look 91 = .ok (.aload_n 0, 1) := by decide +kernel
theorem dX7_look_92 : decode cX7_look 92 = .ok (.getfield 37, 3) := by decide +kernel
theorem dX7_look_95 : decode cX7_look 95 = .ok (.aload_n 0, 1) := by decide +kernel
theorem dX7_look_96 : decode cX7_look 96 = .ok (.getfield 10, 3) := by decide +kernel
theorem dX7_look_99 : decode cX7_look 99 = .ok (.invokevirtual 281, 3) := by decide +kernel
theorem dX7_look_102 : decode cX7_look 102 = .ok (.iinc 4 1, 3) := by decide +kernel
theorem dX7_look_105 : decode cX7_look 105 = .ok (.goto (-71), 3) := by decide +kernel
theorem dX7_look_108 : decode cX7_look 108 = .ok (.iload_n 1, 1) := by decide +kernel
theorem dX7_look_109 : decode cX7_look 109 = .ok (.ifCond .eq 9, 3) := by decide +kernel
theorem dX7_look_112 : decode cX7_look 112 = .ok (.iload_n 3, 1) := by decide +kernel
theorem dX7_look_113 : decode cX7_look 113 = .ok (.bipush (-4), 2) := by decide +kernel
theorem dX7_look_115 : decode cX7_look 115 = .ok (.if_icmp .ne 7, 3) := by decide +kernel
theorem dX7_look_118 : decode cX7_look 118 = .ok (.iload_n 3, 1) := by decide +kernel
theorem dX7_look_119 : decode cX7_look 119 = .ok (.goto 4, 3) := by decide +kernel
theorem dX7_look_122 : decode cX7_look 122 = .ok (.iload_n 2, 1) := by decide +kernel
theorem dX7_look_123 : decode cX7_look 123 = .ok (.ireturn, 1) := by decide +kernel
theorem dX7_drift_0 : decode cX7_drift 0 = .ok (.iload_n 2, 1) := by decide +kernel
theorem dX7_drift_1 : decode cX7_drift 1 = .ok (.iconst 1, 1) := by decide +kernel
theorem dX7_drift_2 : decode cX7_drift 2 = .ok (.if_icmp .lt 16, 3) := by decide +kernel
theorem dX7_drift_5 : decode cX7_drift 5 = .ok (.iload_n 2, 1) := by decide +kernel
theorem dX7_drift_6 : decode cX7_drift 6 = .ok (.bipush 60, 2) := by decide +kernel
theorem dX7_drift_8 : decode cX7_drift 8 = .ok (.if_icmp .gt 10, 3) := by decide +kernel
theorem dX7_drift_11 : decode cX7_drift 11 = .ok (.iload_n 3, 1) := by decide +kernel
theorem dX7_drift_12 : decode cX7_drift 12 = .ok (.invokestatic 148, 3) := by decide +kernel
theorem dX7_drift_15 : decode cX7_drift 15 = .ok (.ifCond .ne 5, 3) := by decide +kernel
theorem dX7_drift_18 : decode cX7_drift 18 = .ok (.iconst (-1), 1) := by decide +kernel
theorem dX7_drift_19 : decode cX7_drift 19 = .ok (.ireturn, 1) := by decide +kernel
theorem dX7_drift_20 : decode cX7_drift 20 = .ok (.aload_n 0, 1) := by decide +kernel
theorem dX7_drift_21 : decode cX7_drift 21 = .ok (.getfield 10, 3) := by decide +kernel
theorem dX7_drift_24 : decode cX7_drift 24 = .ok (.getfield 98, 3) := by decide +kernel
theorem dX7_drift_27 : decode cX7_drift 27 = .ok (.ifCond .ne 6, 3) := by decide +kernel
theorem dX7_drift_30 : decode cX7_drift 30 = .ok (.bipush (-2), 2) := by decide +kernel
theorem dX7_drift_32 : decode cX7_drift 32 = .ok (.ireturn, 1) := by decide +kernel
theorem dX7_drift_33 : decode cX7_drift 33 = .ok (.aload_n 0, 1) := by decide +kernel
theorem dX7_drift_34 : decode cX7_drift 34 = .ok (.getfield 10, 3) := by decide +kernel
theorem dX7_drift_37 : decode cX7_drift 37 = .ok (.getfield 110, 3) := by decide +kernel
theorem dX7_drift_40 : decode cX7_drift 40 = .ok (.istore 4, 2) := by decide +kernel
theorem dX7_drift_42 : decode cX7_drift 42 = .ok (.iconst 0, 1) := by decide +kernel
theorem dX7_drift_43 : decode cX7_drift 43 = .ok (.istore 5, 2) := by decide +kernel
theorem dX7_drift_45 : decode cX7_drift 45 = .ok (.iload_n 1, 1) := by decide +kernel
theorem dX7_drift_46 : decode cX7_drift 46 = .ok (.istore 6, 2) := by decide +kernel
theorem dX7_drift_48 : decode cX7_drift 48 = .ok (.iconst 0, 1) := by decide +kernel
theorem dX7_drift_49 : decode cX7_drift 49 = .ok (.istore 7, 2) := by decide +kernel
theorem dX7_drift_51 : decode cX7_drift 51 = .ok (.iload 7, 2) := by decide +kernel
theorem dX7_drift_53 : decode cX7_drift 53 = .ok (.iload_n 2, 1) := by decide +kernel
theorem dX7_drift_54 : decode cX7_drift 54 = .ok (.if_icmp .ge 73, 3) := by decide +kernel
theorem dX7_drift_57 : decode cX7_drift 57 = .ok (.iload 6, 2) := by decide +kernel
theorem dX7_drift_59 : decode cX7_drift 59 = .ok (.ldc_w 284, 3) := by decide +kernel
theorem dX7_drift_62 : decode cX7_drift 62 = .ok (.imul, 1) := by decide +kernel
theorem dX7_drift_63 : decode cX7_drift 63 = .ok (.sipush 12345, 3) := by decide +kernel
theorem dX7_drift_66 : decode cX7_drift 66 = .ok (.iadd, 1) := by decide +kernel
theorem dX7_drift_67 : decode cX7_drift 67 = .ok (.istore 6, 2) := by decide +kernel
theorem dX7_drift_69 : decode cX7_drift 69 = .ok (.iload 6, 2) := by decide +kernel
theorem dX7_drift_71 : decode cX7_drift 71 = .ok (.bipush 16, 2) := by decide +kernel
theorem dX7_drift_73 : decode cX7_drift 73 = .ok (.iushr, 1) := by decide +kernel
theorem dX7_drift_74 : decode cX7_drift 74 = .ok (.sipush 32767, 3) := by decide +kernel
theorem dX7_drift_77 : decode cX7_drift 77 = .ok (.iand, 1) := by decide +kernel
theorem dX7_drift_78 : decode cX7_drift 78 = .ok (.aload_n 0, 1) := by decide +kernel
theorem dX7_drift_79 : decode cX7_drift 79 = .ok (.getfield 10, 3) := by decide +kernel
theorem dX7_drift_82 : decode cX7_drift 82 = .ok (.getfield 98, 3) := by decide +kernel
theorem dX7_drift_85 : decode cX7_drift 85 = .ok (.irem, 1) := by decide +kernel
theorem dX7_drift_86 : decode cX7_drift 86 = .ok (.istore 8, 2) := by decide +kernel
theorem dX7_drift_88 : decode cX7_drift 88 = .ok (.aload_n 0, 1) := by decide +kernel
theorem dX7_drift_89 : decode cX7_drift 89 = .ok (.getfield 10, 3) := by decide +kernel
theorem dX7_drift_92 : decode cX7_drift 92 = .ok (.iload 4, 2) := by decide +kernel
theorem dX7_drift_94 : decode cX7_drift 94 = .ok (.iload 8, 2) := by decide +kernel
theorem dX7_drift_96 : decode cX7_drift 96 = .ok (.invokestatic 175, 3) := by decide +kernel
theorem dX7_drift_99 : decode cX7_drift 99 = .ok (.invokevirtual 194, 3) := by decide +kernel
theorem dX7_drift_102 : decode cX7_drift 102 = .ok (.istore 4, 2) := by decide +kernel
theorem dX7_drift_104 : decode cX7_drift 104 = .ok (.iload 5, 2) := by decide +kernel
theorem dX7_drift_106 : decode cX7_drift 106 = .ok (.aload_n 0, 1) := by decide +kernel
theorem dX7_drift_107 : decode cX7_drift 107 = .ok (.getfield 10, 3) := by decide +kernel
theorem dX7_drift_110 : decode cX7_drift 110 = .ok (.iload 4, 2) := by decide +kernel
theorem dX7_drift_112 : decode cX7_drift 112 = .ok (.invokevirtual 113, 3) := by decide +kernel
theorem dX7_drift_115 : decode cX7_drift 115 = .ok (.invokestatic 117, 3) := by decide +kernel
theorem dX7_drift_118 : decode cX7_drift 118 = .ok (.iadd, 1) := by decide +kernel
theorem dX7_drift_119 : decode cX7_drift 119 = .ok (.istore 5, 2) := by decide +kernel
theorem dX7_drift_121 : decode cX7_drift 121 = .ok (.iinc 7 1, 3) := by decide +kernel
theorem dX7_drift_124 : decode cX7_drift 124 = .ok (.goto (-73), 3) := by decide +kernel
theorem dX7_drift_127 : decode cX7_drift 127 = .ok (.iload_n 3, 1) := by decide +kernel
theorem dX7_drift_128 : decode cX7_drift 128 = .ok (.ifCond .ne 8, 3) := by decide +kernel
theorem dX7_drift_131 : decode cX7_drift 131 = .ok (.iload 5, 2) := by decide +kernel
theorem dX7_drift_133 : decode cX7_drift 133 = .ok (.goto 5, 3) := by decide +kernel
theorem dX7_drift_136 : decode cX7_drift 136 = .ok (.iload 4, 2) := by decide +kernel
theorem dX7_drift_138 : decode cX7_drift 138 = .ok (.ireturn, 1) := by decide +kernel
theorem dX7_keep_0 : decode cX7_keep 0 = .ok (.iload_n 1, 1) := by decide +kernel
theorem dX7_keep_1 : decode cX7_keep 1 = .ok (.ifCond .lt 8, 3) := by decide +kernel
theorem dX7_keep_4 : decode cX7_keep 4 = .ok (.iload_n 1, 1) := by decide +kernel
theorem dX7_keep_5 : decode cX7_keep 5 = .ok (.iconst 2, 1) := by decide +kernel
theorem dX7_keep_6 : decode cX7_keep 6 = .ok (.if_icmp .lt 5, 3) := by decide +kernel
theorem dX7_keep_9 : decode cX7_keep 9 = .ok (.iconst (-1), 1) := by decide +kernel
theorem dX7_keep_10 : decode cX7_keep 10 = .ok (.ireturn, 1) := by decide +kernel
theorem dX7_keep_11 : decode cX7_keep 11 = .ok (.aload_n 0, 1) := by decide +kernel
theorem dX7_keep_12 : decode cX7_keep 12 = .ok (.getfield 23, 3) := by decide +kernel
theorem dX7_keep_15 : decode cX7_keep 15 = .ok (.iload_n 1, 1) := by decide +kernel
theorem dX7_keep_16 : decode cX7_keep 16 = .ok (.baload, 1) := by decide +kernel
theorem dX7_keep_17 : decode cX7_keep 17 = .ok (.invokestatic 117, 3) := by decide +kernel
theorem dX7_keep_20 : decode cX7_keep 20 = .ok (.istore_n 2, 1) := by decide +kernel
theorem dX7_keep_21 : decode cX7_keep 21 = .ok (.aload_n 0, 1) := by decide +kernel
theorem dX7_keep_22 : decode cX7_keep 22 = .ok (.getfield 19, 3) := by decide +kernel
theorem dX7_keep_25 : decode cX7_keep 25 = .ok (.iload_n 1, 1) := by decide +kernel
theorem dX7_keep_26 : decode cX7_keep 26 = .ok (.aaload, 1) := by decide +kernel
theorem dX7_keep_27 : decode cX7_keep 27 = .ok (.aload_n 0, 1) := by decide +kernel
theorem dX7_keep_28 : decode cX7_keep 28 = .ok (.getfield 10, 3) := by decide +kernel
theorem dX7_keep_31 : decode cX7_keep 31 = .ok (.invokevirtual 88, 3) := by decide +kernel
theorem dX7_keep_34 : decode cX7_keep 34 = .ok (.aload_n 0, 1) := by decide +kernel
theorem dX7_keep_35 : decode cX7_keep 35 = .ok (.getfield 23, 3) := by decide +kernel
theorem dX7_keep_38 : decode cX7_keep 38 = .ok (.iload_n 1, 1) := by decide +kernel
theorem dX7_keep_39 : decode cX7_keep 39 = .ok (.iconst 1, 1) := by decide +kernel
theorem dX7_keep_40 : decode cX7_keep 40 = .ok (.bastore, 1) := by decide +kernel
theorem dX7_keep_41 : decode cX7_keep 41 = .ok (.iload_n 2, 1) := by decide +kernel
theorem dX7_keep_42 : decode cX7_keep 42 = .ok (.ireturn, 1) := by decide +kernel
theorem dX7_back_0 : decode cX7_back 0 = .ok (.iload_n 1, 1) := by decide +kernel
theorem dX7_back_1 : decode cX7_back 1 = .ok (.ifCond .lt 8, 3) := by decide +kernel
theorem dX7_back_4 : decode cX7_back 4 = .ok (.iload_n 1, 1) := by decide +kernel
theorem dX7_back_5 : decode cX7_back 5 = .ok (.iconst 2, 1) := by decide +kernel
theorem dX7_back_6 : decode cX7_back 6 = .ok (.if_icmp .lt 5, 3) := by decide +kernel
theorem dX7_back_9 : decode cX7_back 9 = .ok (.iconst (-1), 1) := by decide +kernel
theorem dX7_back_10 : decode cX7_back 10 = .ok (.ireturn, 1) := by decide +kernel
theorem dX7_back_11 : decode cX7_back 11 = .ok (.aload_n 0, 1) := by decide +kernel
theorem dX7_back_12 : decode cX7_back 12 = .ok (.getfield 23, 3) := by decide +kernel
theorem dX7_back_15 : decode cX7_back 15 = .ok (.iload_n 1, 1) := by decide +kernel
theorem dX7_back_16 : decode cX7_back 16 = .ok (.baload, 1) := by decide +kernel
theorem dX7_back_17 : decode cX7_back 17 = .ok (.ifCond .ne 6, 3) := by decide +kernel
theorem dX7_back_20 : decode cX7_back 20 = .ok (.bipush (-2), 2) := by decide +kernel
theorem dX7_back_22 : decode cX7_back 22 = .ok (.ireturn, 1) := by decide +kernel
theorem dX7_back_23 : decode cX7_back 23 = .ok (.aload_n 0, 1) := by decide +kernel
theorem dX7_back_24 : decode cX7_back 24 = .ok (.getfield 10, 3) := by decide +kernel
theorem dX7_back_27 : decode cX7_back 27 = .ok (.aload_n 0, 1) := by decide +kernel
theorem dX7_back_28 : decode cX7_back 28 = .ok (.getfield 19, 3) := by decide +kernel
theorem dX7_back_31 : decode cX7_back 31 = .ok (.iload_n 1, 1) := by decide +kernel
theorem dX7_back_32 : decode cX7_back 32 = .ok (.aaload, 1) := by decide +kernel
theorem dX7_back_33 : decode cX7_back 33 = .ok (.invokevirtual 88, 3) := by decide +kernel
theorem dX7_back_36 : decode cX7_back 36 = .ok (.aload_n 0, 1) := by decide +kernel
theorem dX7_back_37 : decode cX7_back 37 = .ok (.getfield 10, 3) := by decide +kernel
theorem dX7_back_40 : decode cX7_back 40 = .ok (.getfield 107, 3) := by decide +kernel
theorem dX7_back_43 : decode cX7_back 43 = .ok (.ireturn, 1) := by decide +kernel
theorem dX7_sheet_0 : decode cX7_sheet 0 = .ok (.iload_n 1, 1) := by decide +kernel
theorem dX7_sheet_1 : decode cX7_sheet 1 = .ok (.invokestatic 285, 3) := by decide +kernel
theorem dX7_sheet_4 : decode cX7_sheet 4 = .ok (.ifCond .eq 16, 3) := by decide +kernel
theorem dX7_sheet_7 : decode cX7_sheet 7 = .ok (.iload_n 2, 1) := by decide +kernel
theorem dX7_sheet_8 : decode cX7_sheet 8 = .ok (.invokestatic 288, 3) := by decide +kernel
theorem dX7_sheet_11 : decode cX7_sheet 11 = .ok (.ifCond .eq 9, 3) := by decide +kernel
theorem dX7_sheet_14 : decode cX7_sheet 14 = .ok (.iload_n 3, 1) := by decide +kernel
theorem dX7_sheet_15 : decode cX7_sheet 15 = .ok (.bipush 40, 2) := by decide +kernel
theorem dX7_sheet_17 : decode cX7_sheet 17 = .ok (.if_icmp .le 5, 3) := by decide +kernel
theorem dX7_sheet_20 : decode cX7_sheet 20 = .ok (.iconst (-1), 1) := by decide +kernel
theorem dX7_sheet_21 : decode cX7_sheet 21 = .ok (.ireturn, 1) := by decide +kernel
theorem dX7_sheet_22 : decode cX7_sheet 22 = .ok (.iload_n 3, 1) := by decide +kernel
theorem dX7_sheet_23 : decode cX7_sheet 23 = .ok (.ifCond .ge 6, 3) := by decide +kernel
theorem dX7_sheet_26 : decode cX7_sheet 26 = .ok (.bipush (-14), 2) := by decide +kernel
theorem dX7_sheet_28 : decode cX7_sheet 28 = .ok (.ireturn, 1) := by decide +kernel
theorem dX7_sheet_29 : decode cX7_sheet 29 = .ok (.aload_n 0, 1) := by decide +kernel
theorem dX7_sheet_30 : decode cX7_sheet 30 = .ok (.getfield 57, 3) := by decide +kernel
theorem dX7_sheet_33 : decode cX7_sheet 33 = .ok (.iload_n 1, 1) := by decide +kernel
theorem dX7_sheet_34 : decode cX7_sheet 34 = .ok (.aaload, 1) := by decide +kernel
theorem dX7_sheet_35 : decode cX7_sheet 35 = .ok (.iload_n 2, 1) := by decide +kernel
theorem dX7_sheet_36 : decode cX7_sheet 36 = .ok (.iload_n 3, 1) := by decide +kernel
theorem dX7_sheet_37 : decode cX7_sheet 37 = .ok (.invokevirtual 291, 3) := by decide +kernel
theorem dX7_sheet_40 : decode cX7_sheet 40 = .ok (.iconst 1, 1) := by decide +kernel
theorem dX7_sheet_41 : decode cX7_sheet 41 = .ok (.ireturn, 1) := by decide +kernel
theorem dX7_lay_0 : decode cX7_lay 0 = .ok (.iload_n 1, 1) := by decide +kernel
theorem dX7_lay_1 : decode cX7_lay 1 = .ok (.invokestatic 285, 3) := by decide +kernel
theorem dX7_lay_4 : decode cX7_lay 4 = .ok (.ifCond .ne 5, 3) := by decide +kernel
theorem dX7_lay_7 : decode cX7_lay 7 = .ok (.iconst (-1), 1) := by decide +kernel
theorem dX7_lay_8 : decode cX7_lay 8 = .ok (.ireturn, 1) := by decide +kernel
theorem dX7_lay_9 : decode cX7_lay 9 = .ok (.aload_n 0, 1) := by decide +kernel
theorem dX7_lay_10 : decode cX7_lay 10 = .ok (.getfield 57, 3) := by decide +kernel
theorem dX7_lay_13 : decode cX7_lay 13 = .ok (.iload_n 1, 1) := by decide +kernel
theorem dX7_lay_14 : decode cX7_lay 14 = .ok (.aaload, 1) := by decide +kernel
theorem dX7_lay_15 : decode cX7_lay 15 = .ok (.astore 4, 2) := by decide +kernel
theorem dX7_lay_17 : decode cX7_lay 17 = .ok (.aload 4, 2) := by decide +kernel
theorem dX7_lay_19 : decode cX7_lay 19 = .ok (.aload 4, 2) := by decide +kernel
theorem dX7_lay_21 : decode cX7_lay 21 = .ok (.getfield 294, 3) := by decide +kernel
theorem dX7_lay_24 : decode cX7_lay 24 = .ok (.iload_n 2, 1) := by decide +kernel
theorem dX7_lay_25 : decode cX7_lay 25 = .ok (.invokevirtual 297, 3) := by decide +kernel
theorem dX7_lay_28 : decode cX7_lay 28 = .ok (.istore 5, 2) := by decide +kernel
theorem dX7_lay_30 : decode cX7_lay 30 = .ok (.iload 5, 2) := by decide +kernel
theorem dX7_lay_32 : decode cX7_lay 32 = .ok (.ifCond .eq 9, 3) := by decide +kernel
theorem dX7_lay_35 : decode cX7_lay 35 = .ok (.bipush (-10), 2) := by decide +kernel
theorem dX7_lay_37 : decode cX7_lay 37 = .ok (.iload 5, 2) := by decide +kernel
theorem dX7_lay_39 : decode cX7_lay 39 = .ok (.isub, 1) := by decide +kernel
theorem dX7_lay_40 : decode cX7_lay 40 = .ok (.ireturn, 1) := by decide +kernel
theorem dX7_lay_41 : decode cX7_lay 41 = .ok (.aload 4, 2) := by decide +kernel
theorem dX7_lay_43 : decode cX7_lay 43 = .ok (.iload_n 2, 1) := by decide +kernel
theorem dX7_lay_44 : decode cX7_lay 44 = .ok (.iload_n 3, 1) := by decide +kernel
theorem dX7_lay_45 : decode cX7_lay 45 = .ok (.invokevirtual 300, 3) := by decide +kernel
theorem dX7_lay_48 : decode cX7_lay 48 = .ok (.iconst 1, 1) := by decide +kernel
theorem dX7_lay_49 : decode cX7_lay 49 = .ok (.ireturn, 1) := by decide +kernel
theorem dX7_read_0 : decode cX7_read 0 = .ok (.iload_n 1, 1) := by decide +kernel
theorem dX7_read_1 : decode cX7_read 1 = .ok (.invokestatic 285, 3) := by decide +kernel
theorem dX7_read_4 : decode cX7_read 4 = .ok (.ifCond .eq 22, 3) := by decide +kernel
theorem dX7_read_7 : decode cX7_read 7 = .ok (.iload_n 2, 1) := by decide +kernel
theorem dX7_read_8 : decode cX7_read 8 = .ok (.invokestatic 288, 3) := by decide +kernel
theorem dX7_read_11 : decode cX7_read 11 = .ok (.ifCond .eq 15, 3) := by decide +kernel
theorem dX7_read_14 : decode cX7_read 14 = .ok (.iload 4, 2) := by decide +kernel
theorem dX7_read_16 : decode cX7_read 16 = .ok (.ifCond .lt 10, 3) := by decide +kernel
theorem dX7_read_19 : decode cX7_read 19 = .ok (.iload 4, 2) := by decide +kernel
theorem dX7_read_21 : decode cX7_read 21 = .ok (.bipush 20, 2) := by decide +kernel
theorem dX7_read_23 : decode cX7_read 23 = .ok (.if_icmp .le 5, 3) := by decide +kernel
theorem dX7_read_26 : decode cX7_read 26 = .ok (.iconst (-1), 1) := by decide +kernel
theorem dX7_read_27 : decode cX7_read 27 = .ok (.ireturn, 1) := by decide +kernel
theorem dX7_read_28 : decode cX7_read 28 = .ok (.aload_n 0, 1) := by decide +kernel
theorem dX7_read_29 : decode cX7_read 29 = .ok (.getfield 10, 3) := by decide +kernel
theorem dX7_read_32 : decode cX7_read 32 = .ok (.getfield 110, 3) := by decide +kernel
theorem dX7_read_35 : decode cX7_read 35 = .ok (.istore 5, 2) := by decide +kernel
theorem dX7_read_37 : decode cX7_read 37 = .ok (.aload_n 0, 1) := by decide +kernel
theorem dX7_read_38 : decode cX7_read 38 = .ok (.getfield 10, 3) := by decide +kernel
theorem dX7_read_41 : decode cX7_read 41 = .ok (.getfield 107, 3) := by decide +kernel
theorem dX7_read_44 : decode cX7_read 44 = .ok (.istore 6, 2) := by decide +kernel
theorem dX7_read_46 : decode cX7_read 46 = .ok (.iconst 0, 1) := by decide +kernel
theorem dX7_read_47 : decode cX7_read 47 = .ok (.istore 7, 2) := by decide +kernel
theorem dX7_read_49 : decode cX7_read 49 = .ok (.iconst 0, 1) := by decide +kernel
theorem dX7_read_50 : decode cX7_read 50 = .ok (.istore 8, 2) := by decide +kernel
theorem dX7_read_52 : decode cX7_read 52 = .ok (.iload 8, 2) := by decide +kernel
theorem dX7_read_54 : decode cX7_read 54 = .ok (.iload 4, 2) := by decide +kernel
theorem dX7_read_56 : decode cX7_read 56 = .ok (.if_icmp .ge 80, 3) := by decide +kernel
theorem dX7_read_59 : decode cX7_read 59 = .ok (.iload 7, 2) := by decide +kernel
theorem dX7_read_61 : decode cX7_read 61 = .ok (.ifCond .ne 75, 3) := by decide +kernel
theorem dX7_read_64 : decode cX7_read 64 = .ok (.aload_n 0, 1) := by decide +kernel
theorem dX7_read_65 : decode cX7_read 65 = .ok (.getfield 57, 3) := by decide +kernel
theorem dX7_read_68 : decode cX7_read 68 = .ok (.iload_n 1, 1) := by decide +kernel
theorem dX7_read_69 : decode cX7_read 69 = .ok (.aaload, 1) := by decide +kernel
theorem dX7_read_70 : decode cX7_read 70 = .ok (.iload_n 2, 1) := by decide +kernel
theorem dX7_read_71 : decode cX7_read 71 = .ok (.iload_n 3, 1) := by decide +kernel
theorem dX7_read_72 : decode cX7_read 72 = .ok (.iload 8, 2) := by decide +kernel
theorem dX7_read_74 : decode cX7_read 74 = .ok (.iadd, 1) := by decide +kernel
theorem dX7_read_75 : decode cX7_read 75 = .ok (.invokevirtual 297, 3) := by decide +kernel
theorem dX7_read_78 : decode cX7_read 78 = .ok (.istore 7, 2) := by decide +kernel
theorem dX7_read_80 : decode cX7_read 80 = .ok (.iload 7, 2) := by decide +kernel
theorem dX7_read_82 : decode cX7_read 82 = .ok (.ifCond .ne (-30), 3) := by decide +kernel
theorem dX7_read_85 : decode cX7_read 85 = .ok (.aload_n 0, 1) := by decide +kernel
theorem dX7_read_86 : decode cX7_read 86 = .ok (.aload_n 0, 1) := by decide +kernel
theorem dX7_read_87 : decode cX7_read 87 = .ok (.getfield 57, 3) := by decide +kernel
theorem dX7_read_90 : decode cX7_read 90 = .ok (.iload_n 1, 1) := by decide +kernel
theorem dX7_read_91 : decode cX7_read 91 = .ok (.aaload, 1) := by decide +kernel
theorem dX7_read_92 : decode cX7_read 92 = .ok (.getfield 302, 3) := by decide +kernel
theorem dX7_read_95 : decode cX7_read 95 = .ok (.iload_n 3, 1) := by decide +kernel
theorem dX7_read_96 : decode cX7_read 96 = .ok (.iload 8, 2) := by decide +kernel
theorem dX7_read_98 : decode cX7_read 98 = .ok (.iadd, 1) := by decide +kernel
theorem dX7_read_99 : decode cX7_read 99 = .ok (.iaload, 1) := by decide +kernel
theorem dX7_read_100 : decode cX7_read 100 = .ok (.invokevirtual 305, 3) := by decide +kernel
theorem dX7_read_103 : decode cX7_read 103 = .ok (.ifCond .ne 27, 3) := by decide +kernel
theorem dX7_read_106 : decode cX7_read 106 = .ok (.aload_n 0, 1) := by decide +kernel
theorem dX7_read_107 : decode cX7_read 107 = .ok (.getfield 10, 3) := by decide +kernel
theorem dX7_read_110 : decode cX7_read 110 = .ok (.iload 5, 2) := by decide +kernel
theorem dX7_read_112 : decode cX7_read 112 = .ok (.putfield 110, 3) := by decide +kernel
theorem dX7_read_115 : decode cX7_read 115 = .ok (.aload_n 0, 1) := by decide +kernel
theorem dX7_read_116 : decode cX7_read 116 = .ok (.getfield 10, 3) := by decide +kernel
theorem dX7_read_119 : decode cX7_read 119 = .ok (.iload 6, 2) := by decide +kernel
theorem dX7_read_121 : decode cX7_read 121 = .ok (.putfield 107, 3) := by decide +kernel
theorem dX7_read_124 : decode cX7_read 124 = .ok (.bipush (-20), 2) := by decide +kernel
theorem dX7_read_126 : decode cX7_read 126 = .ok (.iload 8, 2) := by decide +kernel
theorem dX7_read_128 : decode cX7_read 128 = .ok (.isub, 1) := by decide +kernel
theorem dX7_read_129 : decode cX7_read 129 = .ok (.ireturn, 1) := by decide +kernel
theorem dX7_read_130 : decode cX7_read 130 = .ok (.iinc 8 1, 3) := by decide +kernel
theorem dX7_read_133 : decode cX7_read 133 = .ok (.goto (-81), 3) := by decide +kernel
theorem dX7_read_136 : decode cX7_read 136 = .ok (.aload_n 0, 1) := by decide +kernel
theorem dX7_read_137 : decode cX7_read 137 = .ok (.iload 7, 2) := by decide +kernel
theorem dX7_read_139 : decode cX7_read 139 = .ok (.putfield 308, 3) := by decide +kernel
theorem dX7_read_142 : decode cX7_read 142 = .ok (.iload 8, 2) := by decide +kernel
theorem dX7_read_144 : decode cX7_read 144 = .ok (.ireturn, 1) := by decide +kernel
theorem dX7_torn_0 : decode cX7_torn 0 = .ok (.aload_n 0, 1) := by decide +kernel
theorem dX7_torn_1 : decode cX7_torn 1 = .ok (.getfield 308, 3) := by decide +kernel
theorem dX7_torn_4 : decode cX7_torn 4 = .ok (.ireturn, 1) := by decide +kernel
theorem dX7_count_0 : decode cX7_count 0 = .ok (.iload_n 1, 1) := by decide +kernel
theorem dX7_count_1 : decode cX7_count 1 = .ok (.tableswitch 125 0 5 #[39, 47, 67, 78, 106, 117], 39) := by decide +kernel
theorem dX7_count_40 : decode cX7_count 40 = .ok (.aload_n 0, 1) := by decide +kernel
theorem dX7_count_41 : decode cX7_count 41 = .ok (.getfield 37, 3) := by decide +kernel
theorem dX7_count_44 : decode cX7_count 44 = .ok (.getfield 92, 3) := by decide +kernel
theorem dX7_count_47 : decode cX7_count 47 = .ok (.ireturn, 1) := by decide +kernel
theorem dX7_count_48 : decode cX7_count 48 = .ok (.aload_n 0, 1) := by decide +kernel
theorem dX7_count_49 : decode cX7_count 49 = .ok (.getfield 23, 3) := by decide +kernel
theorem dX7_count_52 : decode cX7_count 52 = .ok (.iconst 0, 1) := by decide +kernel
theorem dX7_count_53 : decode cX7_count 53 = .ok (.baload, 1) := by decide +kernel
theorem dX7_count_54 : decode cX7_count 54 = .ok (.invokestatic 117, 3) := by decide +kernel
theorem dX7_count_57 : decode cX7_count 57 = .ok (.aload_n 0, 1) := by decide +kernel
theorem dX7_count_58 : decode cX7_count 58 = .ok (.getfield 23, 3) := by decide +kernel
theorem dX7_count_61 : decode cX7_count 61 = .ok (.iconst 1, 1) := by decide +kernel
theorem dX7_count_62 : decode cX7_count 62 = .ok (.baload, 1) := by decide +kernel
theorem dX7_count_63 : decode cX7_count 63 = .ok (.invokestatic 117, 3) := by decide +kernel
theorem dX7_count_66 : decode cX7_count 66 = .ok (.iadd, 1) := by decide +kernel
theorem dX7_count_67 : decode cX7_count 67 = .ok (.ireturn, 1) := by decide +kernel
theorem dX7_count_68 : decode cX7_count 68 = .ok (.aload_n 0, 1) := by decide +kernel
theorem dX7_count_69 : decode cX7_count 69 = .ok (.getfield 30, 3) := by decide +kernel
theorem dX7_count_72 : decode cX7_count 72 = .ok (.getfield 62, 3) := by decide +kernel
theorem dX7_count_75 : decode cX7_count 75 = .ok (.getfield 66, 3) := by decide +kernel
theorem dX7_count_78 : decode cX7_count 78 = .ok (.ireturn, 1) := by decide +kernel
theorem dX7_count_79 : decode cX7_count 79 = .ok (.aload_n 0, 1) := by decide +kernel
theorem dX7_count_80 : decode cX7_count 80 = .ok (.getfield 57, 3) := by decide +kernel
theorem dX7_count_83 : decode cX7_count 83 = .ok (.iconst 0, 1) := by decide +kernel
theorem dX7_count_84 : decode cX7_count 84 = .ok (.aaload, 1) := by decide +kernel
theorem dX7_count_85 : decode cX7_count 85 = .ok (.getfield 294, 3) := by decide +kernel
theorem dX7_count_88 : decode cX7_count 88 = .ok (.iconst (-1), 1) := by decide +kernel
theorem dX7_count_89 : decode cX7_count 89 = .ok (.if_icmp .ne 8, 3) := by decide +kernel
theorem dX7_count_92 : decode cX7_count 92 = .ok (.bipush (-4), 2) := by decide +kernel
theorem dX7_count_94 : decode cX7_count 94 = .ok (.goto 12, 3) := by decide +kernel
theorem dX7_count_97 : decode cX7_count 97 = .ok (.aload_n 0, 1) := by decide +kernel
theorem dX7_count_98 : decode cX7_count 98 = .ok (.getfield 57, 3) := by decide +kernel
theorem dX7_count_101 : decode cX7_count 101 = .ok (.iconst 0, 1) := by decide +kernel
theorem dX7_count_102 : decode cX7_count 102 = .ok (.aaload, 1) := by decide +kernel
theorem dX7_count_103 : decode cX7_count 103 = .ok (.getfield 311, 3) := by decide +kernel
theorem dX7_count_106 : decode cX7_count 106 = .ok (.ireturn, 1) := by decide +kernel
theorem dX7_count_107 : decode cX7_count 107 = .ok (.aload_n 0, 1) := by decide +kernel
theorem dX7_count_108 : decode cX7_count 108 = .ok (.getfield 10, 3) := by decide +kernel
theorem dX7_count_111 : decode cX7_count 111 = .ok (.getfield 110, 3) := by decide +kernel
theorem dX7_count_114 : decode cX7_count 114 = .ok (.invokestatic 314, 3) := by decide +kernel
theorem dX7_count_117 : decode cX7_count 117 = .ok (.ireturn, 1) := by decide +kernel
theorem dX7_count_118 : decode cX7_count 118 = .ok (.aload_n 0, 1) := by decide +kernel
theorem dX7_count_119 : decode cX7_count 119 = .ok (.getfield 10, 3) := by decide +kernel
theorem dX7_count_122 : decode cX7_count 122 = .ok (.invokevirtual 318, 3) := by decide +kernel
theorem dX7_count_125 : decode cX7_count 125 = .ok (.ireturn, 1) := by decide +kernel
theorem dX7_count_126 : decode cX7_count 126 = .ok (.iconst (-1), 1) := by decide +kernel
theorem dX7_count_127 : decode cX7_count 127 = .ok (.ireturn, 1) := by decide +kernel
theorem dX7_visit_0 : decode cX7_visit 0 = .ok (.aload_n 0, 1) := by decide +kernel
theorem dX7_visit_1 : decode cX7_visit 1 = .ok (.iload_n 1, 1) := by decide +kernel
theorem dX7_visit_2 : decode cX7_visit 2 = .ok (.invokevirtual 321, 3) := by decide +kernel
theorem dX7_visit_5 : decode cX7_visit 5 = .ok (.ifCond .lt 15, 3) := by decide +kernel
theorem dX7_visit_8 : decode cX7_visit 8 = .ok (.aload_n 0, 1) := by decide +kernel
theorem dX7_visit_9 : decode cX7_visit 9 = .ok (.iconst 1, 1) := by decide +kernel
theorem dX7_visit_10 : decode cX7_visit 10 = .ok (.invokevirtual 324, 3) := by decide +kernel
theorem dX7_visit_13 : decode cX7_visit 13 = .ok (.ifCond .lt 7, 3) := by decide +kernel
theorem dX7_visit_16 : decode cX7_visit 16 = .ok (.iconst 1, 1) := by decide +kernel
theorem dX7_visit_17 : decode cX7_visit 17 = .ok (.goto 4, 3) := by decide +kernel
theorem dX7_visit_20 : decode cX7_visit 20 = .ok (.iconst 0, 1) := by decide +kernel
theorem dX7_visit_21 : decode cX7_visit 21 = .ok (.ireturn, 1) := by decide +kernel
theorem dX7_afterSlips_0 : decode cX7_afterSlips 0 = .ok (.iload_n 1, 1) := by decide +kernel
theorem dX7_afterSlips_1 : decode cX7_afterSlips 1 = .ok (.ifCond .lt 16, 3) := by decide +kernel
theorem dX7_afterSlips_4 : decode cX7_afterSlips 4 = .ok (.iload_n 1, 1) := by decide +kernel
theorem dX7_afterSlips_5 : decode cX7_afterSlips 5 = .ok (.bipush 10, 2) := by decide +kernel
theorem dX7_afterSlips_7 : decode cX7_afterSlips 7 = .ok (.if_icmp .gt 10, 3) := by decide +kernel
theorem dX7_afterSlips_10 : decode cX7_afterSlips 10 = .ok (.iload_n 2, 1) := by decide +kernel
theorem dX7_afterSlips_11 : decode cX7_afterSlips 11 = .ok (.invokestatic 148, 3) := by decide +kernel
theorem dX7_afterSlips_14 : decode cX7_afterSlips 14 = .ok (.ifCond .ne 7, 3) := by decide +kernel
theorem dX7_afterSlips_17 : decode cX7_afterSlips 17 = .ok (.ldc2_w 327, 3) := by decide +kernel
theorem dX7_afterSlips_20 : decode cX7_afterSlips 20 = .ok (.lreturn, 1) := by decide +kernel
theorem dX7_afterSlips_21 : decode cX7_afterSlips 21 = .ok (.aload_n 0, 1) := by decide +kernel
theorem dX7_afterSlips_22 : decode cX7_afterSlips 22 = .ok (.getfield 10, 3) := by decide +kernel
theorem dX7_afterSlips_25 : decode cX7_afterSlips 25 = .ok (.aload_n 0, 1) := by decide +kernel
theorem dX7_afterSlips_26 : decode cX7_afterSlips 26 = .ok (.getfield 10, 3) := by decide +kernel
theorem dX7_afterSlips_29 : decode cX7_afterSlips 29 = .ok (.getfield 110, 3) := by decide +kernel
theorem dX7_afterSlips_32 : decode cX7_afterSlips 32 = .ok (.invokevirtual 194, 3) := by decide +kernel
theorem dX7_afterSlips_35 : decode cX7_afterSlips 35 = .ok (.istore 4, 2) := by decide +kernel
theorem dX7_afterSlips_37 : decode cX7_afterSlips 37 = .ok (.lconst 0, 1) := by decide +kernel
theorem dX7_afterSlips_38 : decode cX7_afterSlips 38 = .ok (.lstore 5, 2) := by decide +kernel
theorem dX7_afterSlips_40 : decode cX7_afterSlips 40 = .ok (.iconst 0, 1) := by decide +kernel
theorem dX7_afterSlips_41 : decode cX7_afterSlips 41 = .ok (.istore 7, 2) := by decide +kernel
theorem dX7_afterSlips_43 : decode cX7_afterSlips 43 = .ok (.iload 7, 2) := by decide +kernel
theorem dX7_afterSlips_45 : decode cX7_afterSlips 45 = .ok (.aload_n 0, 1) := by decide +kernel
theorem dX7_afterSlips_46 : decode cX7_afterSlips 46 = .ok (.getfield 10, 3) := by decide +kernel
theorem dX7_afterSlips_49 : decode cX7_afterSlips 49 = .ok (.invokevirtual 210, 3) := by decide +kernel
theorem dX7_afterSlips_52 : decode cX7_afterSlips 52 = .ok (.if_icmp .ge 64, 3) := by decide +kernel
theorem dX7_afterSlips_55 : decode cX7_afterSlips 55 = .ok (.iload 7, 2) := by decide +kernel
theorem dX7_afterSlips_57 : decode cX7_afterSlips 57 = .ok (.invokestatic 314, 3) := by decide +kernel
theorem dX7_afterSlips_60 : decode cX7_afterSlips 60 = .ok (.istore 8, 2) := by decide +kernel
theorem dX7_afterSlips_62 : decode cX7_afterSlips 62 = .ok (.iload_n 1, 1) := by decide +kernel
theorem dX7_afterSlips_63 : decode cX7_afterSlips 63 = .ok (.iload 8, 2) := by decide +kernel
theorem dX7_afterSlips_65 : decode cX7_afterSlips 65 = .ok (.invokestatic 329, 3) := by decide +kernel
theorem dX7_afterSlips_68 : decode cX7_afterSlips 68 = .ok (.bipush 10, 2) := by decide +kernel
theorem dX7_afterSlips_70 : decode cX7_afterSlips 70 = .ok (.iload_n 1, 1) := by decide +kernel
theorem dX7_afterSlips_71 : decode cX7_afterSlips 71 = .ok (.isub, 1) := by decide +kernel
theorem dX7_afterSlips_72 : decode cX7_afterSlips 72 = .ok (.aload_n 0, 1) := by decide +kernel
theorem dX7_afterSlips_73 : decode cX7_afterSlips 73 = .ok (.getfield 10, 3) := by decide +kernel
theorem dX7_afterSlips_76 : decode cX7_afterSlips 76 = .ok (.getfield 98, 3) := by decide +kernel
theorem dX7_afterSlips_79 : decode cX7_afterSlips 79 = .ok (.iload 8, 2) := by decide +kernel
theorem dX7_afterSlips_81 : decode cX7_afterSlips 81 = .ok (.isub, 1) := by decide +kernel
theorem dX7_afterSlips_82 : decode cX7_afterSlips 82 = .ok (.invokestatic 329, 3) := by decide +kernel
theorem dX7_afterSlips_85 : decode cX7_afterSlips 85 = .ok (.lmul, 1) := by decide +kernel
theorem dX7_afterSlips_86 : decode cX7_afterSlips 86 = .ok (.lstore 9, 2) := by decide +kernel
theorem dX7_afterSlips_88 : decode cX7_afterSlips 88 = .ok (.lload 5, 2) := by decide +kernel
theorem dX7_afterSlips_90 : decode cX7_afterSlips 90 = .ok (.lload 9, 2) := by decide +kernel
theorem dX7_afterSlips_92 : decode cX7_afterSlips 92 = .ok (.aload_n 0, 1) := by decide +kernel
theorem dX7_afterSlips_93 : decode cX7_afterSlips 93 = .ok (.getfield 10, 3) := by decide +kernel
theorem dX7_afterSlips_96 : decode cX7_afterSlips 96 = .ok (.iload 4, 2) := by decide +kernel
theorem dX7_afterSlips_98 : decode cX7_afterSlips 98 = .ok (.iload 7, 2) := by decide +kernel
theorem dX7_afterSlips_100 : decode cX7_afterSlips 100 = .ok (.ixor, 1) := by decide +kernel
theorem dX7_afterSlips_101 : decode cX7_afterSlips 101 = .ok (.iload_n 3, 1) := by decide +kernel
theorem dX7_afterSlips_102 : decode cX7_afterSlips 102 = .ok (.invokevirtual 333, 3) := by decide +kernel
theorem dX7_afterSlips_105 : decode cX7_afterSlips 105 = .ok (.i2l, 1) := by decide +kernel
theorem dX7_afterSlips_106 : decode cX7_afterSlips 106 = .ok (.lmul, 1) := by decide +kernel
theorem dX7_afterSlips_107 : decode cX7_afterSlips 107 = .ok (.ladd, 1) := by decide +kernel
theorem dX7_afterSlips_108 : decode cX7_afterSlips 108 = .ok (.lstore 5, 2) := by decide +kernel
theorem dX7_afterSlips_110 : decode cX7_afterSlips 110 = .ok (.iinc 7 1, 3) := by decide +kernel
theorem dX7_afterSlips_113 : decode cX7_afterSlips 113 = .ok (.goto (-70), 3) := by decide +kernel
theorem dX7_afterSlips_116 : decode cX7_afterSlips 116 = .ok (.bipush 10, 2) := by decide +kernel
theorem dX7_afterSlips_118 : decode cX7_afterSlips 118 = .ok (.aload_n 0, 1) := by decide +kernel
theorem dX7_afterSlips_119 : decode cX7_afterSlips 119 = .ok (.getfield 10, 3) := by decide +kernel
theorem dX7_afterSlips_122 : decode cX7_afterSlips 122 = .ok (.getfield 98, 3) := by decide +kernel
theorem dX7_afterSlips_125 : decode cX7_afterSlips 125 = .ok (.invokestatic 329, 3) := by decide +kernel
theorem dX7_afterSlips_128 : decode cX7_afterSlips 128 = .ok (.lstore 7, 2) := by decide +kernel
theorem dX7_afterSlips_130 : decode cX7_afterSlips 130 = .ok (.lload 5, 2) := by decide +kernel
theorem dX7_afterSlips_132 : decode cX7_afterSlips 132 = .ok (.lload 7, 2) := by decide +kernel
theorem dX7_afterSlips_134 : decode cX7_afterSlips 134 = .ok (.invokestatic 336, 3) := by decide +kernel
theorem dX7_afterSlips_137 : decode cX7_afterSlips 137 = .ok (.lstore 9, 2) := by decide +kernel
theorem dX7_afterSlips_139 : decode cX7_afterSlips 139 = .ok (.lload 9, 2) := by decide +kernel
theorem dX7_afterSlips_141 : decode cX7_afterSlips 141 = .ok (.lconst 1, 1) := by decide +kernel
theorem dX7_afterSlips_142 : decode cX7_afterSlips 142 = .ok (.lcmp, 1) := by decide +kernel
theorem dX7_afterSlips_143 : decode cX7_afterSlips 143 = .ok (.ifCond .ge 7, 3) := by decide +kernel
theorem dX7_afterSlips_146 : decode cX7_afterSlips 146 = .ok (.ldc2_w 327, 3) := by decide +kernel
theorem dX7_afterSlips_149 : decode cX7_afterSlips 149 = .ok (.lreturn, 1) := by decide +kernel
theorem dX7_afterSlips_150 : decode cX7_afterSlips 150 = .ok (.iload_n 2, 1) := by decide +kernel
theorem dX7_afterSlips_151 : decode cX7_afterSlips 151 = .ok (.ifCond .ne 8, 3) := by decide +kernel
theorem dX7_afterSlips_154 : decode cX7_afterSlips 154 = .ok (.lload 5, 2) := by decide +kernel
theorem dX7_afterSlips_156 : decode cX7_afterSlips 156 = .ok (.goto 5, 3) := by decide +kernel
theorem dX7_afterSlips_159 : decode cX7_afterSlips 159 = .ok (.lload 7, 2) := by decide +kernel
theorem dX7_afterSlips_161 : decode cX7_afterSlips 161 = .ok (.lload 9, 2) := by decide +kernel
theorem dX7_afterSlips_163 : decode cX7_afterSlips 163 = .ok (.ldiv, 1) := by decide +kernel
theorem dX7_afterSlips_164 : decode cX7_afterSlips 164 = .ok (.lreturn, 1) := by decide +kernel
theorem dX7_power_0 : decode cX7_power 0 = .ok (.lconst 1, 1) := by decide +kernel
theorem dX7_power_1 : decode cX7_power 1 = .ok (.lstore_n 2, 1) := by decide +kernel
theorem dX7_power_2 : decode cX7_power 2 = .ok (.iconst 0, 1) := by decide +kernel
theorem dX7_power_3 : decode cX7_power 3 = .ok (.istore 4, 2) := by decide +kernel
theorem dX7_power_5 : decode cX7_power 5 = .ok (.iload 4, 2) := by decide +kernel
theorem dX7_power_7 : decode cX7_power 7 = .ok (.iload_n 1, 1) := by decide +kernel
theorem dX7_power_8 : decode cX7_power 8 = .ok (.if_icmp .ge 14, 3) := by decide +kernel
theorem dX7_power_11 : decode cX7_power 11 = .ok (.lload_n 2, 1) := by decide +kernel
theorem dX7_power_12 : decode cX7_power 12 = .ok (.iload_n 0, 1) := by decide +kernel
theorem dX7_power_13 : decode cX7_power 13 = .ok (.i2l, 1) := by decide +kernel
theorem dX7_power_14 : decode cX7_power 14 = .ok (.lmul, 1) := by decide +kernel
theorem dX7_power_15 : decode cX7_power 15 = .ok (.lstore_n 2, 1) := by decide +kernel
theorem dX7_power_16 : decode cX7_power 16 = .ok (.iinc 4 1, 3) := by decide +kernel
theorem dX7_power_19 : decode cX7_power 19 = .ok (.goto (-14), 3) := by decide +kernel
theorem dX7_power_22 : decode cX7_power 22 = .ok (.lload_n 2, 1) := by decide +kernel
theorem dX7_power_23 : decode cX7_power 23 = .ok (.lreturn, 1) := by decide +kernel
theorem dX7_commonDivisor_0 : decode cX7_commonDivisor 0 = .ok (.lload_n 0, 1) := by decide +kernel
theorem dX7_commonDivisor_1 : decode cX7_commonDivisor 1 = .ok (.lstore 4, 2) := by decide +kernel
theorem dX7_commonDivisor_3 : decode cX7_commonDivisor 3 = .ok (.lload_n 2, 1) := by decide +kernel
theorem dX7_commonDivisor_4 : decode cX7_commonDivisor 4 = .ok (.lstore 6, 2) := by decide +kernel
theorem dX7_commonDivisor_6 : decode cX7_commonDivisor 6 = .ok (.iconst 0, 1) := by decide +kernel
theorem dX7_commonDivisor_7 : decode cX7_commonDivisor 7 = .ok (.istore 8, 2) := by decide +kernel
theorem dX7_commonDivisor_9 : decode cX7_commonDivisor 9 = .ok (.iload 8, 2) := by decide +kernel
theorem dX7_commonDivisor_11 : decode cX7_commonDivisor 11 = .ok (.bipush 100, 2) := by decide +kernel
theorem dX7_commonDivisor_13 : decode cX7_commonDivisor 13 = .ok (.if_icmp .ge 31, 3) := by decide +kernel
theorem dX7_commonDivisor_16 : decode cX7_commonDivisor 16 = .ok (.lload 6, 2) := by decide +kernel
theorem dX7_commonDivisor_18 : decode cX7_commonDivisor 18 = .ok (.lconst 0, 1) := by decide +kernel
theorem dX7_commonDivisor_19 : decode cX7_commonDivisor 19 = .ok (.lcmp, 1) := by decide +kernel
theorem dX7_commonDivisor_20 : decode cX7_commonDivisor 20 = .ok (.ifCond .eq 24, 3) := by decide +kernel
theorem dX7_commonDivisor_23 : decode cX7_commonDivisor 23 = .ok (.lload 4, 2) := by decide +kernel
theorem dX7_commonDivisor_25 : decode cX7_commonDivisor 25 = .ok (.lload 6, 2) := by decide +kernel
theorem dX7_commonDivisor_27 : decode cX7_commonDivisor 27 = .ok (.lrem, 1) := by decide +kernel
theorem dX7_commonDivisor_28 : decode cX7_commonDivisor 28 = .ok (.lstore 9, 2) := by decide +kernel
theorem dX7_commonDivisor_30 : decode cX7_commonDivisor 30 = .ok (.lload 6, 2) := by decide +kernel
theorem dX7_commonDivisor_32 : decode cX7_commonDivisor 32 = .ok (.lstore 4, 2) := by decide +kernel
theorem dX7_commonDivisor_34 : decode cX7_commonDivisor 34 = .ok (.lload 9, 2) := by decide +kernel
theorem dX7_commonDivisor_36 : decode cX7_commonDivisor 36 = .ok (.lstore 6, 2) := by decide +kernel
theorem dX7_commonDivisor_38 : decode cX7_commonDivisor 38 = .ok (.iinc 8 1, 3) := by decide +kernel
theorem dX7_commonDivisor_41 : decode cX7_commonDivisor 41 = .ok (.goto (-32), 3) := by decide +kernel
theorem dX7_commonDivisor_44 : decode cX7_commonDivisor 44 = .ok (.lload 4, 2) := by decide +kernel
theorem dX7_commonDivisor_46 : decode cX7_commonDivisor 46 = .ok (.lreturn, 1) := by decide +kernel
theorem dX7_bit_0 : decode cX7_bit 0 = .ok (.iload_n 0, 1) := by decide +kernel
theorem dX7_bit_1 : decode cX7_bit 1 = .ok (.ifCond .eq 7, 3) := by decide +kernel
theorem dX7_bit_4 : decode cX7_bit 4 = .ok (.iconst 1, 1) := by decide +kernel
theorem dX7_bit_5 : decode cX7_bit 5 = .ok (.goto 4, 3) := by decide +kernel
theorem dX7_bit_8 : decode cX7_bit 8 = .ok (.iconst 0, 1) := by decide +kernel
theorem dX7_bit_9 : decode cX7_bit 9 = .ok (.ireturn, 1) := by decide +kernel
theorem dX7_isBit_0 : decode cX7_isBit 0 = .ok (.iload_n 0, 1) := by decide +kernel
theorem dX7_isBit_1 : decode cX7_isBit 1 = .ok (.ifCond .eq 8, 3) := by decide +kernel
theorem dX7_isBit_4 : decode cX7_isBit 4 = .ok (.iload_n 0, 1) := by decide +kernel
theorem dX7_isBit_5 : decode cX7_isBit 5 = .ok (.iconst 1, 1) := by decide +kernel
theorem dX7_isBit_6 : decode cX7_isBit 6 = .ok (.if_icmp .ne 7, 3) := by decide +kernel
theorem dX7_isBit_9 : decode cX7_isBit 9 = .ok (.iconst 1, 1) := by decide +kernel
theorem dX7_isBit_10 : decode cX7_isBit 10 = .ok (.goto 4, 3) := by decide +kernel
theorem dX7_isBit_13 : decode cX7_isBit 13 = .ok (.iconst 0, 1) := by decide +kernel
theorem dX7_isBit_14 : decode cX7_isBit 14 = .ok (.ireturn, 1) := by decide +kernel
theorem dX7_isSo_0 : decode cX7_isSo 0 = .ok (.iload_n 0, 1) := by decide +kernel
theorem dX7_isSo_1 : decode cX7_isSo 1 = .ok (.iload_n 1, 1) := by decide +kernel
theorem dX7_isSo_2 : decode cX7_isSo 2 = .ok (.ishr, 1) := by decide +kernel
theorem dX7_isSo_3 : decode cX7_isSo 3 = .ok (.iconst 1, 1) := by decide +kernel
theorem dX7_isSo_4 : decode cX7_isSo 4 = .ok (.iand, 1) := by decide +kernel
theorem dX7_isSo_5 : decode cX7_isSo 5 = .ok (.iconst 1, 1) := by decide +kernel
theorem dX7_isSo_6 : decode cX7_isSo 6 = .ok (.if_icmp .ne 7, 3) := by decide +kernel
theorem dX7_isSo_9 : decode cX7_isSo 9 = .ok (.iconst 1, 1) := by decide +kernel
theorem dX7_isSo_10 : decode cX7_isSo 10 = .ok (.goto 4, 3) := by decide +kernel
theorem dX7_isSo_13 : decode cX7_isSo 13 = .ok (.iconst 0, 1) := by decide +kernel
theorem dX7_isSo_14 : decode cX7_isSo 14 = .ok (.ireturn, 1) := by decide +kernel
theorem dX7_undone_0 : decode cX7_undone 0 = .ok (.iload_n 0, 1) := by decide +kernel
theorem dX7_undone_1 : decode cX7_undone 1 = .ok (.iconst 1, 1) := by decide +kernel
theorem dX7_undone_2 : decode cX7_undone 2 = .ok (.iload_n 1, 1) := by decide +kernel
theorem dX7_undone_3 : decode cX7_undone 3 = .ok (.ishl, 1) := by decide +kernel
theorem dX7_undone_4 : decode cX7_undone 4 = .ok (.ixor, 1) := by decide +kernel
theorem dX7_undone_5 : decode cX7_undone 5 = .ok (.ireturn, 1) := by decide +kernel
theorem dX7_isWayYear_0 : decode cX7_isWayYear 0 = .ok (.iload_n 0, 1) := by decide +kernel
theorem dX7_isWayYear_1 : decode cX7_isWayYear 1 = .ok (.bipush 10, 2) := by decide +kernel
theorem dX7_isWayYear_3 : decode cX7_isWayYear 3 = .ok (.if_icmp .lt 13, 3) := by decide +kernel
theorem dX7_isWayYear_6 : decode cX7_isWayYear 6 = .ok (.iload_n 0, 1) := by decide +kernel
theorem dX7_isWayYear_7 : decode cX7_isWayYear 7 = .ok (.bipush 14, 2) := by decide +kernel
theorem dX7_isWayYear_9 : decode cX7_isWayYear 9 = .ok (.if_icmp .ge 7, 3) := by decide +kernel
theorem dX7_isWayYear_12 : decode cX7_isWayYear 12 = .ok (.iconst 1, 1) := by decide +kernel
theorem dX7_isWayYear_13 : decode cX7_isWayYear 13 = .ok (.goto 4, 3) := by decide +kernel
theorem dX7_isWayYear_16 : decode cX7_isWayYear 16 = .ok (.iconst 0, 1) := by decide +kernel
theorem dX7_isWayYear_17 : decode cX7_isWayYear 17 = .ok (.ireturn, 1) := by decide +kernel
theorem dX7_isSheet_0 : decode cX7_isSheet 0 = .ok (.iload_n 0, 1) := by decide +kernel
theorem dX7_isSheet_1 : decode cX7_isSheet 1 = .ok (.ifCond .lt 12, 3) := by decide +kernel
theorem dX7_isSheet_4 : decode cX7_isSheet 4 = .ok (.iload_n 0, 1) := by decide +kernel
theorem dX7_isSheet_5 : decode cX7_isSheet 5 = .ok (.iconst 4, 1) := by decide +kernel
theorem dX7_isSheet_6 : decode cX7_isSheet 6 = .ok (.if_icmp .ge 7, 3) := by decide +kernel
theorem dX7_isSheet_9 : decode cX7_isSheet 9 = .ok (.iconst 1, 1) := by decide +kernel
theorem dX7_isSheet_10 : decode cX7_isSheet 10 = .ok (.goto 4, 3) := by decide +kernel
theorem dX7_isSheet_13 : decode cX7_isSheet 13 = .ok (.iconst 0, 1) := by decide +kernel
theorem dX7_isSheet_14 : decode cX7_isSheet 14 = .ok (.ireturn, 1) := by decide +kernel
theorem dX7_isLane_0 : decode cX7_isLane 0 = .ok (.iload_n 0, 1) := by decide +kernel
theorem dX7_isLane_1 : decode cX7_isLane 1 = .ok (.ifCond .lt 12, 3) := by decide +kernel
theorem dX7_isLane_4 : decode cX7_isLane 4 = .ok (.iload_n 0, 1) := by decide +kernel
theorem dX7_isLane_5 : decode cX7_isLane 5 = .ok (.iconst 3, 1) := by decide +kernel
theorem dX7_isLane_6 : decode cX7_isLane 6 = .ok (.if_icmp .ge 7, 3) := by decide +kernel
theorem dX7_isLane_9 : decode cX7_isLane 9 = .ok (.iconst 1, 1) := by decide +kernel
theorem dX7_isLane_10 : decode cX7_isLane 10 = .ok (.goto 4, 3) := by decide +kernel
theorem dX7_isLane_13 : decode cX7_isLane 13 = .ok (.iconst 0, 1) := by decide +kernel
theorem dX7_isLane_14 : decode cX7_isLane 14 = .ok (.ireturn, 1) := by decide +kernel
