theorem dX0_init_0 : decode cX0_init 0 = .ok (.aload_n 0, 1) := by decide +kernel
theorem dX0_init_1 : decode cX0_init 1 = .ok (.invokespecial 3, 3) := by decide +kernel
theorem dX0_init_4 : decode cX0_init 4 = .ok (.aload_n 0, 1) := by decide +kernel
theorem dX0_init_5 : decode cX0_init 5 = .ok (.bipush 6, 2) := by decide +kernel
theorem dX0_init_7 : decode cX0_init 7 = .ok (.newarray .int, 2) := by decide +kernel
theorem dX0_init_9 : decode cX0_init 9 = .ok (.putfield 9, 3) := by decide +kernel
theorem dX0_init_12 : decode cX0_init 12 = .ok (.aload_n 0, 1) := by decide +kernel
theorem dX0_init_13 : decode cX0_init 13 = .ok (.bipush 6, 2) := by decide +kernel
theorem dX0_init_15 : decode cX0_init 15 = .ok (.newarray .int, 2) := by decide +kernel
theorem dX0_init_17 : decode cX0_init 17 = .ok (.putfield 15, 3) := by decide +kernel
theorem dX0_init_20 : decode cX0_init 20 = .ok (.aload_n 0, 1) := by decide +kernel
theorem dX0_init_21 : decode cX0_init 21 = .ok (.bipush 6, 2) := by decide +kernel
theorem dX0_init_23 : decode cX0_init 23 = .ok (.newarray .int, 2) := by decide +kernel
theorem dX0_init_25 : decode cX0_init 25 = .ok (.putfield 18, 3) := by decide +kernel
theorem dX0_init_28 : decode cX0_init 28 = .ok (.aload_n 0, 1) := by decide +kernel
theorem dX0_init_29 : decode cX0_init 29 = .ok (.iconst 4, 1) := by decide +kernel
theorem dX0_init_30 : decode cX0_init 30 = .ok (.newarray .int, 2) := by decide +kernel
theorem dX0_init_32 : decode cX0_init 32 = .ok (.putfield 21, 3) := by decide +kernel
theorem dX0_init_35 : decode cX0_init 35 = .ok (.aload_n 0, 1) := by decide +kernel
theorem dX0_init_36 : decode cX0_init 36 = .ok (.iconst 4, 1) := by decide +kernel
theorem dX0_init_37 : decode cX0_init 37 = .ok (.newarray .int, 2) := by decide +kernel
theorem dX0_init_39 : decode cX0_init 39 = .ok (.putfield 24, 3) := by decide +kernel
theorem dX0_init_42 : decode cX0_init 42 = .ok (.aload_n 0, 1) := by decide +kernel
theorem dX0_init_43 : decode cX0_init 43 = .ok (.iconst 4, 1) := by decide +kernel
theorem dX0_init_44 : decode cX0_init 44 = .ok (.newarray .int, 2) := by decide +kernel
theorem dX0_init_46 : decode cX0_init 46 = .ok (.putfield 27, 3) := by decide +kernel
theorem dX0_init_49 : decode cX0_init 49 = .ok (.aload_n 0, 1) := by decide +kernel
theorem dX0_init_50 : decode cX0_init 50 = .ok (.iconst 4, 1) := by decide +kernel
theorem dX0_init_51 : decode cX0_init 51 = .ok (.newarray .int, 2) := by decide +kernel
theorem dX0_init_53 : decode cX0_init 53 = .ok (.putfield 30, 3) := by decide +kernel
theorem dX0_init_56 : decode cX0_init 56 = .ok (.return_, 1) := by decide +kernel
theorem dX0_clear_0 : decode cX0_clear 0 = .ok (.aload_n 0, 1) := by decide +kernel
theorem dX0_clear_1 : decode cX0_clear 1 = .ok (.iconst 0, 1) := by decide +kernel
theorem dX0_clear_2 : decode cX0_clear 2 = .ok (.putfield 33, 3) := by decide +kernel
theorem dX0_clear_5 : decode cX0_clear 5 = .ok (.aload_n 0, 1) := by decide +kernel
theorem dX0_clear_6 : decode cX0_clear 6 = .ok (.iconst 0, 1) := by decide +kernel
theorem dX0_clear_7 : decode cX0_clear 7 = .ok (.putfield 37, 3) := by decide +kernel
theorem dX0_clear_10 : decode cX0_clear 10 = .ok (.aload_n 0, 1) := by decide +kernel
theorem dX0_clear_11 : decode cX0_clear 11 = .ok (.iconst 0, 1) := by decide +kernel
theorem dX0_clear_12 : decode cX0_clear 12 = .ok (.putfield 40, 3) := by decide +kernel
theorem dX0_clear_15 : decode cX0_clear 15 = .ok (.aload_n 0, 1) := by decide +kernel
theorem dX0_clear_16 : decode cX0_clear 16 = .ok (.iconst 0, 1) := by decide +kernel
theorem dX0_clear_17 : decode cX0_clear 17 = .ok (.putfield 43, 3) := by decide +kernel
theorem dX0_clear_20 : decode cX0_clear 20 = .ok (.aload_n 0, 1) := by decide +kernel
theorem dX0_clear_21 : decode cX0_clear 21 = .ok (.iconst 0, 1) := by decide +kernel
theorem dX0_clear_22 : decode cX0_clear 22 = .ok (.putfield 46, 3) := by decide +kernel
theorem dX0_clear_25 : decode cX0_clear 25 = .ok (.return_, 1) := by decide +kernel
theorem dX0_copyFrom_0 : decode cX0_copyFrom 0 = .ok (.aload_n 0, 1) := by decide +kernel
theorem dX0_copyFrom_1 : decode cX0_copyFrom 1 = .ok (.aload_n 1, 1) := by decide +kernel
theorem dX0_copyFrom_2 : decode cX0_copyFrom 2 = .ok (.getfield 33, 3) := by decide +kernel
theorem dX0_copyFrom_5 : decode cX0_copyFrom 5 = .ok (.putfield 33, 3) := by decide +kernel
theorem dX0_copyFrom_8 : decode cX0_copyFrom 8 = .ok (.aload_n 1, 1) := by decide +kernel
theorem dX0_copyFrom_9 : decode cX0_copyFrom 9 = .ok (.getfield 9, 3) := by decide +kernel
theorem dX0_copyFrom_12 : decode cX0_copyFrom 12 = .ok (.iconst 0, 1) := by decide +kernel
theorem dX0_copyFrom_13 : decode cX0_copyFrom 13 = .ok (.aload_n 0, 1) := by decide +kernel
theorem dX0_copyFrom_14 : decode cX0_copyFrom 14 = .ok (.getfield 9, 3) := by decide +kernel
theorem dX0_copyFrom_17 : decode cX0_copyFrom 17 = .ok (.iconst 0, 1) := by decide +kernel
theorem dX0_copyFrom_18 : decode cX0_copyFrom 18 = .ok (.bipush 6, 2) := by decide +kernel
theorem dX0_copyFrom_20 : decode cX0_copyFrom 20 = .ok (.invokestatic 49, 3) := by decide +kernel
theorem dX0_copyFrom_23 : decode cX0_copyFrom 23 = .ok (.aload_n 1, 1) := by decide +kernel
theorem dX0_copyFrom_24 : decode cX0_copyFrom 24 = .ok (.getfield 15, 3) := by decide +kernel
theorem dX0_copyFrom_27 : decode cX0_copyFrom 27 = .ok (.iconst 0, 1) := by decide +kernel
theorem dX0_copyFrom_28 : decode cX0_copyFrom 28 = .ok (.aload_n 0, 1) := by decide +kernel
theorem dX0_copyFrom_29 : decode cX0_copyFrom 29 = .ok (.getfield 15, 3) := by decide +kernel
theorem dX0_copyFrom_32 : decode cX0_copyFrom 32 = .ok (.iconst 0, 1) := by decide +kernel
theorem dX0_copyFrom_33 : decode cX0_copyFrom 33 = .ok (.bipush 6, 2) := by decide +kernel
theorem dX0_copyFrom_35 : decode cX0_copyFrom 35 = .ok (.invokestatic 49, 3) := by decide +kernel
theorem dX0_copyFrom_38 : decode cX0_copyFrom 38 = .ok (.aload_n 1, 1) := by decide +kernel
theorem dX0_copyFrom_39 : decode cX0_copyFrom 39 = .ok (.getfield 18, 3) := by decide +kernel
theorem dX0_copyFrom_42 : decode cX0_copyFrom 42 = .ok (.iconst 0, 1) := by decide +kernel
theorem dX0_copyFrom_43 : decode cX0_copyFrom 43 = .ok (.aload_n 0, 1) := by decide +kernel
theorem dX0_copyFrom_44 : decode cX0_copyFrom 44 = .ok (.getfield 18, 3) := by decide +kernel
theorem dX0_copyFrom_47 : decode cX0_copyFrom 47 = .ok (.iconst 0, 1) := by decide +kernel
theorem dX0_copyFrom_48 : decode cX0_copyFrom 48 = .ok (.bipush 6, 2) := by decide +kernel
theorem dX0_copyFrom_50 : decode cX0_copyFrom 50 = .ok (.invokestatic 49, 3) := by decide +kernel
theorem dX0_copyFrom_53 : decode cX0_copyFrom 53 = .ok (.aload_n 0, 1) := by decide +kernel
theorem dX0_copyFrom_54 : decode cX0_copyFrom 54 = .ok (.aload_n 1, 1) := by decide +kernel
theorem dX0_copyFrom_55 : decode cX0_copyFrom 55 = .ok (.getfield 37, 3) := by decide +kernel
theorem dX0_copyFrom_58 : decode cX0_copyFrom 58 = .ok (.putfield 37, 3) := by decide +kernel
theorem dX0_copyFrom_61 : decode cX0_copyFrom 61 = .ok (.aload_n 0, 1) := by decide +kernel
theorem dX0_copyFrom_62 : decode cX0_copyFrom 62 = .ok (.aload_n 1, 1) := by decide +kernel
theorem dX0_copyFrom_63 : decode cX0_copyFrom 63 = .ok (.getfield 40, 3) := by decide +kernel
theorem dX0_copyFrom_66 : decode cX0_copyFrom 66 = .ok (.putfield 40, 3) := by decide +kernel
theorem dX0_copyFrom_69 : decode cX0_copyFrom 69 = .ok (.aload_n 1, 1) := by decide +kernel
theorem dX0_copyFrom_70 : decode cX0_copyFrom 70 = .ok (.getfield 21, 3) := by decide +kernel
theorem dX0_copyFrom_73 : decode cX0_copyFrom 73 = .ok (.iconst 0, 1) := by decide +kernel
theorem dX0_copyFrom_74 : decode cX0_copyFrom 74 = .ok (.aload_n 0, 1) := by decide +kernel
theorem dX0_copyFrom_75 : decode cX0_copyFrom 75 = .ok (.getfield 21, 3) := by decide +kernel
theorem dX0_copyFrom_78 : decode cX0_copyFrom 78 = .ok (.iconst 0, 1) := by decide +kernel
theorem dX0_copyFrom_79 : decode cX0_copyFrom 79 = .ok (.iconst 4, 1) := by decide +kernel
theorem dX0_copyFrom_80 : decode cX0_copyFrom 80 = .ok (.invokestatic 49, 3) := by decide +kernel
theorem dX0_copyFrom_83 : decode cX0_copyFrom 83 = .ok (.aload_n 1, 1) := by decide +kernel
theorem dX0_copyFrom_84 : decode cX0_copyFrom 84 = .ok (.getfield 24, 3) := by decide +kernel
theorem dX0_copyFrom_87 : decode cX0_copyFrom 87 = .ok (.iconst 0, 1) := by decide +kernel
theorem dX0_copyFrom_88 : decode cX0_copyFrom 88 = .ok (.aload_n 0, 1) := by decide +kernel
theorem dX0_copyFrom_89 : decode cX0_copyFrom 89 = .ok (.getfield 24, 3) := by decide +kernel
theorem dX0_copyFrom_92 : decode cX0_copyFrom 92 = .ok (.iconst 0, 1) := by decide +kernel
theorem dX0_copyFrom_93 : decode cX0_copyFrom 93 = .ok (.iconst 4, 1) := by decide +kernel
theorem dX0_copyFrom_94 : decode cX0_copyFrom 94 = .ok (.invokestatic 49, 3) := by decide +kernel
theorem dX0_copyFrom_97 : decode cX0_copyFrom 97 = .ok (.aload_n 0, 1) := by decide +kernel
theorem dX0_copyFrom_98 : decode cX0_copyFrom 98 = .ok (.aload_n 1, 1) := by decide +kernel
theorem dX0_copyFrom_99 : decode cX0_copyFrom 99 = .ok (.getfield 43, 3) := by decide +kernel
theorem dX0_copyFrom_102 : decode cX0_copyFrom 102 = .ok (.putfield 43, 3) := by decide +kernel
theorem dX0_copyFrom_105 : decode cX0_copyFrom 105 = .ok (.aload_n 1, 1) := by decide +kernel
theorem dX0_copyFrom_106 : decode cX0_copyFrom 106 = .ok (.getfield 27, 3) := by decide +kernel
theorem dX0_copyFrom_109 : decode cX0_copyFrom 109 = .ok (.iconst 0, 1) := by decide +kernel
theorem dX0_copyFrom_110 : decode cX0_copyFrom 110 = .ok (.aload_n 0, 1) := by decide +kernel
theorem dX0_copyFrom_111 : decode cX0_copyFrom 111 = .ok (.getfield 27, 3) := by decide +kernel
theorem dX0_copyFrom_114 : decode cX0_copyFrom 114 = .ok (.iconst 0, 1) := by decide +kernel
theorem dX0_copyFrom_115 : decode cX0_copyFrom 115 = .ok (.iconst 4, 1) := by decide +kernel
theorem dX0_copyFrom_116 : decode cX0_copyFrom 116 = .ok (.invokestatic 49, 3) := by decide +kernel
theorem dX0_copyFrom_119 : decode cX0_copyFrom 119 = .ok (.aload_n 1, 1) := by decide +kernel
theorem dX0_copyFrom_120 : decode cX0_copyFrom 120 = .ok (.getfield 30, 3) := by decide +kernel
theorem dX0_copyFrom_123 : decode cX0_copyFrom 123 = .ok (.iconst 0, 1) := by decide +kernel
theorem dX0_copyFrom_124 : decode cX0_copyFrom 124 = .ok (.aload_n 0, 1) := by decide +kernel
theorem dX0_copyFrom_125 : decode cX0_copyFrom 125 = .ok (.getfield 30, 3) := by decide +kernel
theorem dX0_copyFrom_128 : decode cX0_copyFrom 128 = .ok (.iconst 0, 1) := by decide +kernel
theorem dX0_copyFrom_129 : decode cX0_copyFrom 129 = .ok (.iconst 4, 1) := by decide +kernel
theorem dX0_copyFrom_130 : decode cX0_copyFrom 130 = .ok (.invokestatic 49, 3) := by decide +kernel
theorem dX0_copyFrom_133 : decode cX0_copyFrom 133 = .ok (.aload_n 0, 1) := by decide +kernel
theorem dX0_copyFrom_134 : decode cX0_copyFrom 134 = .ok (.aload_n 1, 1) := by decide +kernel
theorem dX0_copyFrom_135 : decode cX0_copyFrom 135 = .ok (.getfield 46, 3) := by decide +kernel
theorem dX0_copyFrom_138 : decode cX0_copyFrom 138 = .ok (.putfield 46, 3) := by decide +kernel
theorem dX0_copyFrom_141 : decode cX0_copyFrom 141 = .ok (.return_, 1) := by decide +kernel
theorem dX0_hasThing_0 : decode cX0_hasThing 0 = .ok (.iload_n 1, 1) := by decide +kernel
theorem dX0_hasThing_1 : decode cX0_hasThing 1 = .ok (.ifCond .lt 15, 3) := by decide +kernel
theorem dX0_hasThing_4 : decode cX0_hasThing 4 = .ok (.iload_n 1, 1) := by decide +kernel
theorem dX0_hasThing_5 : decode cX0_hasThing 5 = .ok (.aload_n 0, 1) := by decide +kernel
theorem dX0_hasThing_6 : decode cX0_hasThing 6 = .ok (.getfield 33, 3) := by decide +kernel
theorem dX0_hasThing_9 : decode cX0_hasThing 9 = .ok (.if_icmp .ge 7, 3) := by decide +kernel
theorem dX0_hasThing_12 : decode cX0_hasThing 12 = .ok (.iconst 1, 1) := by decide +kernel
theorem dX0_hasThing_13 : decode cX0_hasThing 13 = .ok (.goto 4, 3) := by decide +kernel
theorem dX0_hasThing_16 : decode cX0_hasThing 16 = .ok (.iconst 0, 1) := by decide +kernel
theorem dX0_hasThing_17 : decode cX0_hasThing 17 = .ok (.ireturn, 1) := by decide +kernel
theorem dX0_hasGuest_0 : decode cX0_hasGuest 0 = .ok (.iload_n 1, 1) := by decide +kernel
theorem dX0_hasGuest_1 : decode cX0_hasGuest 1 = .ok (.ifCond .lt 15, 3) := by decide +kernel
theorem dX0_hasGuest_4 : decode cX0_hasGuest 4 = .ok (.iload_n 1, 1) := by decide +kernel
theorem dX0_hasGuest_5 : decode cX0_hasGuest 5 = .ok (.aload_n 0, 1) := by decide +kernel
theorem dX0_hasGuest_6 : decode cX0_hasGuest 6 = .ok (.getfield 40, 3) := by decide +kernel
theorem dX0_hasGuest_9 : decode cX0_hasGuest 9 = .ok (.if_icmp .ge 7, 3) := by decide +kernel
theorem dX0_hasGuest_12 : decode cX0_hasGuest 12 = .ok (.iconst 1, 1) := by decide +kernel
theorem dX0_hasGuest_13 : decode cX0_hasGuest 13 = .ok (.goto 4, 3) := by decide +kernel
theorem dX0_hasGuest_16 : decode cX0_hasGuest 16 = .ok (.iconst 0, 1) := by decide +kernel
theorem dX0_hasGuest_17 : decode cX0_hasGuest 17 = .ok (.ireturn, 1) := by decide +kernel
theorem dX0_hasBan_0 : decode cX0_hasBan 0 = .ok (.iload_n 1, 1) := by decide +kernel
theorem dX0_hasBan_1 : decode cX0_hasBan 1 = .ok (.ifCond .lt 15, 3) := by decide +kernel
theorem dX0_hasBan_4 : decode cX0_hasBan 4 = .ok (.iload_n 1, 1) := by decide +kernel
theorem dX0_hasBan_5 : decode cX0_hasBan 5 = .ok (.aload_n 0, 1) := by decide +kernel
theorem dX0_hasBan_6 : decode cX0_hasBan 6 = .ok (.getfield 43, 3) := by decide +kernel
theorem dX0_hasBan_9 : decode cX0_hasBan 9 = .ok (.if_icmp .ge 7, 3) := by decide +kernel
theorem dX0_hasBan_12 : decode cX0_hasBan 12 = .ok (.iconst 1, 1) := by decide +kernel
theorem dX0_hasBan_13 : decode cX0_hasBan 13 = .ok (.goto 4, 3) := by decide +kernel
theorem dX0_hasBan_16 : decode cX0_hasBan 16 = .ok (.iconst 0, 1) := by decide +kernel
theorem dX0_hasBan_17 : decode cX0_hasBan 17 = .ok (.ireturn, 1) := by decide +kernel
theorem dX0_isWhole_0 : decode cX0_isWhole 0 = .ok (.aload_n 0, 1) := by decide +kernel
theorem dX0_isWhole_1 : decode cX0_isWhole 1 = .ok (.getfield 37, 3) := by decide +kernel
theorem dX0_isWhole_4 : decode cX0_isWhole 4 = .ok (.aload_n 0, 1) := by decide +kernel
theorem dX0_isWhole_5 : decode cX0_isWhole 5 = .ok (.invokevirtual 55, 3) := by decide +kernel
theorem dX0_isWhole_8 : decode cX0_isWhole 8 = .ok (.if_icmp .ge 7, 3) := by decide +kernel
theorem dX0_isWhole_11 : decode cX0_isWhole 11 = .ok (.iconst 1, 1) := by decide +kernel
theorem dX0_isWhole_12 : decode cX0_isWhole 12 = .ok (.goto 4, 3) := by decide +kernel
theorem dX0_isWhole_15 : decode cX0_isWhole 15 = .ok (.iconst 0, 1) := by decide +kernel
theorem dX0_isWhole_16 : decode cX0_isWhole 16 = .ok (.istore_n 1, 1) := by decide +kernel
theorem dX0_isWhole_17 : decode cX0_isWhole 17 = .ok (.iconst 0, 1) := by decide +kernel
theorem dX0_isWhole_18 : decode cX0_isWhole 18 = .ok (.istore_n 2, 1) := by decide +kernel
theorem dX0_isWhole_19 : decode cX0_isWhole 19 = .ok (.iload_n 2, 1) := by decide +kernel
theorem dX0_isWhole_20 : decode cX0_isWhole 20 = .ok (.aload_n 0, 1) := by decide +kernel
theorem dX0_isWhole_21 : decode cX0_isWhole 21 = .ok (.getfield 33, 3) := by decide +kernel
theorem dX0_isWhole_24 : decode cX0_isWhole 24 = .ok (.if_icmp .ge 43, 3) := by decide +kernel
theorem dX0_isWhole_27 : decode cX0_isWhole 27 = .ok (.iload_n 1, 1) := by decide +kernel
theorem dX0_isWhole_28 : decode cX0_isWhole 28 = .ok (.aload_n 0, 1) := by decide +kernel
theorem dX0_isWhole_29 : decode cX0_isWhole 29 = .ok (.aload_n 0, 1) := by decide +kernel
theorem dX0_isWhole_30 : decode cX0_isWhole 30 = .ok (.getfield 15, 3) := by decide +kernel
theorem dX0_isWhole_33 : decode cX0_isWhole 33 = .ok (.iload_n 2, 1) := by decide +kernel
theorem dX0_isWhole_34 : decode cX0_isWhole 34 = .ok (.iaload, 1) := by decide +kernel
theorem dX0_isWhole_35 : decode cX0_isWhole 35 = .ok (.invokevirtual 59, 3) := by decide +kernel
theorem dX0_isWhole_38 : decode cX0_isWhole 38 = .ok (.ifCond .eq 20, 3) := by decide +kernel
theorem dX0_isWhole_41 : decode cX0_isWhole 41 = .ok (.aload_n 0, 1) := by decide +kernel
theorem dX0_isWhole_42 : decode cX0_isWhole 42 = .ok (.aload_n 0, 1) := by decide +kernel
theorem dX0_isWhole_43 : decode cX0_isWhole 43 = .ok (.getfield 18, 3) := by decide +kernel
theorem dX0_isWhole_46 : decode cX0_isWhole 46 = .ok (.iload_n 2, 1) := by decide +kernel
theorem dX0_isWhole_47 : decode cX0_isWhole 47 = .ok (.iaload, 1) := by decide +kernel
theorem dX0_isWhole_48 : decode cX0_isWhole 48 = .ok (.invokevirtual 59, 3) := by decide +kernel
theorem dX0_isWhole_51 : decode cX0_isWhole 51 = .ok (.ifCond .eq 7, 3) := by decide +kernel
theorem dX0_isWhole_54 : decode cX0_isWhole 54 = .ok (.iconst 1, 1) := by decide +kernel
theorem dX0_isWhole_55 : decode cX0_isWhole 55 = .ok (.goto 4, 3) := by decide +kernel
theorem dX0_isWhole_58 : decode cX0_isWhole 58 = .ok (.iconst 0, 1) := by decide +kernel
theorem dX0_isWhole_59 : decode cX0_isWhole 59 = .ok (.iand, 1) := by decide +kernel
theorem dX0_isWhole_60 : decode cX0_isWhole 60 = .ok (.istore_n 1, 1) := by decide +kernel
theorem dX0_isWhole_61 : decode cX0_isWhole 61 = .ok (.iinc 2 1, 3) := by decide +kernel
theorem dX0_isWhole_64 : decode cX0_isWhole 64 = .ok (.goto (-45), 3) := by decide +kernel
theorem dX0_isWhole_67 : decode cX0_isWhole 67 = .ok (.iconst 0, 1) := by decide +kernel
theorem dX0_isWhole_68 : decode cX0_isWhole 68 = .ok (.istore_n 2, 1) := by decide +kernel
theorem dX0_isWhole_69 : decode cX0_isWhole 69 = .ok (.iload_n 2, 1) := by decide +kernel
theorem dX0_isWhole_70 : decode cX0_isWhole 70 = .ok (.aload_n 0, 1) := by decide +kernel
theorem dX0_isWhole_71 : decode cX0_isWhole 71 = .ok (.getfield 40, 3) := by decide +kernel
theorem dX0_isWhole_74 : decode cX0_isWhole 74 = .ok (.if_icmp .ge 22, 3) := by decide +kernel
theorem dX0_isWhole_77 : decode cX0_isWhole 77 = .ok (.iload_n 1, 1) := by decide +kernel
theorem dX0_isWhole_78 : decode cX0_isWhole 78 = .ok (.aload_n 0, 1) := by decide +kernel
theorem dX0_isWhole_79 : decode cX0_isWhole 79 = .ok (.aload_n 0, 1) := by decide +kernel
theorem dX0_isWhole_80 : decode cX0_isWhole 80 = .ok (.getfield 21, 3) := by decide +kernel
theorem dX0_isWhole_83 : decode cX0_isWhole 83 = .ok (.iload_n 2, 1) := by decide +kernel
theorem dX0_isWhole_84 : decode cX0_isWhole 84 = .ok (.iaload, 1) := by decide +kernel
theorem dX0_isWhole_85 : decode cX0_isWhole 85 = .ok (.invokevirtual 59, 3) := by decide +kernel
theorem dX0_isWhole_88 : decode cX0_isWhole 88 = .ok (.iand, 1) := by decide +kernel
theorem dX0_isWhole_89 : decode cX0_isWhole 89 = .ok (.istore_n 1, 1) := by decide +kernel
theorem dX0_isWhole_90 : decode cX0_isWhole 90 = .ok (.iinc 2 1, 3) := by decide +kernel
theorem dX0_isWhole_93 : decode cX0_isWhole 93 = .ok (.goto (-24), 3) := by decide +kernel
theorem dX0_isWhole_96 : decode cX0_isWhole 96 = .ok (.iconst 0, 1) := by decide +kernel
theorem dX0_isWhole_97 : decode cX0_isWhole 97 = .ok (.istore_n 2, 1) := by decide +kernel
theorem dX0_isWhole_98 : decode cX0_isWhole 98 = .ok (.iload_n 2, 1) := by decide +kernel
theorem dX0_isWhole_99 : decode cX0_isWhole 99 = .ok (.aload_n 0, 1) := by decide +kernel
theorem dX0_isWhole_100 : decode cX0_isWhole 100 = .ok (.getfield 43, 3) := by decide +kernel
theorem dX0_isWhole_103 : decode cX0_isWhole 103 = .ok (.if_icmp .ge 43, 3) := by decide +kernel
theorem dX0_isWhole_106 : decode cX0_isWhole 106 = .ok (.iload_n 1, 1) := by decide +kernel
theorem dX0_isWhole_107 : decode cX0_isWhole 107 = .ok (.aload_n 0, 1) := by decide +kernel
theorem dX0_isWhole_108 : decode cX0_isWhole 108 = .ok (.aload_n 0, 1) := by decide +kernel
theorem dX0_isWhole_109 : decode cX0_isWhole 109 = .ok (.getfield 27, 3) := by decide +kernel
theorem dX0_isWhole_112 : decode cX0_isWhole 112 = .ok (.iload_n 2, 1) := by decide +kernel
theorem dX0_isWhole_113 : decode cX0_isWhole 113 = .ok (.iaload, 1) := by decide +kernel
theorem dX0_isWhole_114 : decode cX0_isWhole 114 = .ok (.invokevirtual 59, 3) := by decide +kernel
theorem dX0_isWhole_117 : decode cX0_isWhole 117 = .ok (.ifCond .eq 20, 3) := by decide +kernel
theorem dX0_isWhole_120 : decode cX0_isWhole 120 = .ok (.aload_n 0, 1) := by decide +kernel
theorem dX0_isWhole_121 : decode cX0_isWhole 121 = .ok (.aload_n 0, 1) := by decide +kernel
theorem dX0_isWhole_122 : decode cX0_isWhole 122 = .ok (.getfield 30, 3) := by decide +kernel
theorem dX0_isWhole_125 : decode cX0_isWhole 125 = .ok (.iload_n 2, 1) := by decide +kernel
theorem dX0_isWhole_126 : decode cX0_isWhole 126 = .ok (.iaload, 1) := by decide +kernel
theorem dX0_isWhole_127 : decode cX0_isWhole 127 = .ok (.invokevirtual 59, 3) := by decide +kernel
theorem dX0_isWhole_130 : decode cX0_isWhole 130 = .ok (.ifCond .eq 7, 3) := by decide +kernel
theorem dX0_isWhole_133 : decode cX0_isWhole 133 = .ok (.iconst 1, 1) := by decide +kernel
theorem dX0_isWhole_134 : decode cX0_isWhole 134 = .ok (.goto 4, 3) := by decide +kernel
theorem dX0_isWhole_137 : decode cX0_isWhole 137 = .ok (.iconst 0, 1) := by decide +kernel
theorem dX0_isWhole_138 : decode cX0_isWhole 138 = .ok (.iand, 1) := by decide +kernel
theorem dX0_isWhole_139 : decode cX0_isWhole 139 = .ok (.istore_n 1, 1) := by decide +kernel
theorem dX0_isWhole_140 : decode cX0_isWhole 140 = .ok (.iinc 2 1, 3) := by decide +kernel
theorem dX0_isWhole_143 : decode cX0_isWhole 143 = .ok (.goto (-45), 3) := by decide +kernel
theorem dX0_isWhole_146 : decode cX0_isWhole 146 = .ok (.iload_n 1, 1) := by decide +kernel
theorem dX0_isWhole_147 : decode cX0_isWhole 147 = .ok (.ireturn, 1) := by decide +kernel
theorem dX0_hasState_0 : decode cX0_hasState 0 = .ok (.iload_n 1, 1) := by decide +kernel
theorem dX0_hasState_1 : decode cX0_hasState 1 = .ok (.ifCond .lt 15, 3) := by decide +kernel
theorem dX0_hasState_4 : decode cX0_hasState 4 = .ok (.iload_n 1, 1) := by decide +kernel
theorem dX0_hasState_5 : decode cX0_hasState 5 = .ok (.aload_n 0, 1) := by decide +kernel
theorem dX0_hasState_6 : decode cX0_hasState 6 = .ok (.invokevirtual 55, 3) := by decide +kernel
theorem dX0_hasState_9 : decode cX0_hasState 9 = .ok (.if_icmp .ge 7, 3) := by decide +kernel
theorem dX0_hasState_12 : decode cX0_hasState 12 = .ok (.iconst 1, 1) := by decide +kernel
theorem dX0_hasState_13 : decode cX0_hasState 13 = .ok (.goto 4, 3) := by decide +kernel
theorem dX0_hasState_16 : decode cX0_hasState 16 = .ok (.iconst 0, 1) := by decide +kernel
theorem dX0_hasState_17 : decode cX0_hasState 17 = .ok (.ireturn, 1) := by decide +kernel
theorem dX0_states_0 : decode cX0_states 0 = .ok (.iconst 1, 1) := by decide +kernel
theorem dX0_states_1 : decode cX0_states 1 = .ok (.aload_n 0, 1) := by decide +kernel
theorem dX0_states_2 : decode cX0_states 2 = .ok (.getfield 33, 3) := by decide +kernel
theorem dX0_states_5 : decode cX0_states 5 = .ok (.ishl, 1) := by decide +kernel
theorem dX0_states_6 : decode cX0_states 6 = .ok (.ireturn, 1) := by decide +kernel
theorem dX0_mayBecome_0 : decode cX0_mayBecome 0 = .ok (.iload_n 1, 1) := by decide +kernel
theorem dX0_mayBecome_1 : decode cX0_mayBecome 1 = .ok (.ifCond .ne 18, 3) := by decide +kernel
theorem dX0_mayBecome_4 : decode cX0_mayBecome 4 = .ok (.iload_n 2, 1) := by decide +kernel
theorem dX0_mayBecome_5 : decode cX0_mayBecome 5 = .ok (.ifCond .lt 12, 3) := by decide +kernel
theorem dX0_mayBecome_8 : decode cX0_mayBecome 8 = .ok (.iload_n 2, 1) := by decide +kernel
theorem dX0_mayBecome_9 : decode cX0_mayBecome 9 = .ok (.iconst 4, 1) := by decide +kernel
theorem dX0_mayBecome_10 : decode cX0_mayBecome 10 = .ok (.if_icmp .gt 7, 3) := by decide +kernel
theorem dX0_mayBecome_13 : decode cX0_mayBecome 13 = .ok (.iconst 1, 1) := by decide +kernel
theorem dX0_mayBecome_14 : decode cX0_mayBecome 14 = .ok (.goto 4, 3) := by decide +kernel
theorem dX0_mayBecome_17 : decode cX0_mayBecome 17 = .ok (.iconst 0, 1) := by decide +kernel
theorem dX0_mayBecome_18 : decode cX0_mayBecome 18 = .ok (.ireturn, 1) := by decide +kernel
theorem dX0_mayBecome_19 : decode cX0_mayBecome 19 = .ok (.iload_n 1, 1) := by decide +kernel
theorem dX0_mayBecome_20 : decode cX0_mayBecome 20 = .ok (.iconst 3, 1) := by decide +kernel
theorem dX0_mayBecome_21 : decode cX0_mayBecome 21 = .ok (.if_icmp .ne 10, 3) := by decide +kernel
theorem dX0_mayBecome_24 : decode cX0_mayBecome 24 = .ok (.iload_n 2, 1) := by decide +kernel
theorem dX0_mayBecome_25 : decode cX0_mayBecome 25 = .ok (.invokestatic 63, 3) := by decide +kernel
theorem dX0_mayBecome_28 : decode cX0_mayBecome 28 = .ok (.goto 8, 3) := by decide +kernel
theorem dX0_mayBecome_31 : decode cX0_mayBecome 31 = .ok (.aload_n 0, 1) := by decide +kernel
theorem dX0_mayBecome_32 : decode cX0_mayBecome 32 = .ok (.iload_n 2, 1) := by decide +kernel
theorem dX0_mayBecome_33 : decode cX0_mayBecome 33 = .ok (.invokevirtual 59, 3) := by decide +kernel
theorem dX0_mayBecome_36 : decode cX0_mayBecome 36 = .ok (.ireturn, 1) := by decide +kernel
theorem dX0_addThing_0 : decode cX0_addThing 0 = .ok (.aload_n 0, 1) := by decide +kernel
theorem dX0_addThing_1 : decode cX0_addThing 1 = .ok (.getfield 33, 3) := by decide +kernel
theorem dX0_addThing_4 : decode cX0_addThing 4 = .ok (.bipush 6, 2) := by decide +kernel
theorem dX0_addThing_6 : decode cX0_addThing 6 = .ok (.if_icmp .ge 43, 3) := by decide +kernel
theorem dX0_addThing_9 : decode cX0_addThing 9 = .ok (.aload_n 0, 1) := by decide +kernel
theorem dX0_addThing_10 : decode cX0_addThing 10 = .ok (.getfield 9, 3) := by decide +kernel
theorem dX0_addThing_13 : decode cX0_addThing 13 = .ok (.aload_n 0, 1) := by decide +kernel
theorem dX0_addThing_14 : decode cX0_addThing 14 = .ok (.getfield 33, 3) := by decide +kernel
theorem dX0_addThing_17 : decode cX0_addThing 17 = .ok (.iload_n 1, 1) := by decide +kernel
theorem dX0_addThing_18 : decode cX0_addThing 18 = .ok (.iastore, 1) := by decide +kernel
theorem dX0_addThing_19 : decode cX0_addThing 19 = .ok (.aload_n 0, 1) := by decide +kernel
theorem dX0_addThing_20 : decode cX0_addThing 20 = .ok (.getfield 15, 3) := by decide +kernel
theorem dX0_addThing_23 : decode cX0_addThing 23 = .ok (.aload_n 0, 1) := by decide +kernel
theorem dX0_addThing_24 : decode cX0_addThing 24 = .ok (.getfield 33, 3) := by decide +kernel
theorem dX0_addThing_27 : decode cX0_addThing 27 = .ok (.iload_n 2, 1) := by decide +kernel
theorem dX0_addThing_28 : decode cX0_addThing 28 = .ok (.iastore, 1) := by decide +kernel
theorem dX0_addThing_29 : decode cX0_addThing 29 = .ok (.aload_n 0, 1) := by decide +kernel
theorem dX0_addThing_30 : decode cX0_addThing 30 = .ok (.getfield 18, 3) := by decide +kernel
theorem dX0_addThing_33 : decode cX0_addThing 33 = .ok (.aload_n 0, 1) := by decide +kernel
theorem dX0_addThing_34 : decode cX0_addThing 34 = .ok (.getfield 33, 3) := by decide +kernel
theorem dX0_addThing_37 : decode cX0_addThing 37 = .ok (.iload_n 3, 1) := by decide +kernel
theorem dX0_addThing_38 : decode cX0_addThing 38 = .ok (.iastore, 1) := by decide +kernel
theorem dX0_addThing_39 : decode cX0_addThing 39 = .ok (.aload_n 0, 1) := by decide +kernel
theorem dX0_addThing_40 : decode cX0_addThing 40 = .ok (.dup, 1) := by decide +kernel
theorem dX0_addThing_41 : decode cX0_addThing 41 = .ok (.getfield 33, 3) := by decide +kernel
theorem dX0_addThing_44 : decode cX0_addThing 44 = .ok (.iconst 1, 1) := by decide +kernel
theorem dX0_addThing_45 : decode cX0_addThing 45 = .ok (.iadd, 1) := by decide +kernel
theorem dX0_addThing_46 : decode cX0_addThing 46 = .ok (.putfield 33, 3) := by decide +kernel
theorem dX0_addThing_49 : decode cX0_addThing 49 = .ok (.return_, 1) := by decide +kernel
theorem dX0_addGuest_0 : decode cX0_addGuest 0 = .ok (.aload_n 0, 1) := by decide +kernel
theorem dX0_addGuest_1 : decode cX0_addGuest 1 = .ok (.getfield 40, 3) := by decide +kernel
theorem dX0_addGuest_4 : decode cX0_addGuest 4 = .ok (.iconst 4, 1) := by decide +kernel
theorem dX0_addGuest_5 : decode cX0_addGuest 5 = .ok (.if_icmp .ge 33, 3) := by decide +kernel
theorem dX0_addGuest_8 : decode cX0_addGuest 8 = .ok (.aload_n 0, 1) := by decide +kernel
theorem dX0_addGuest_9 : decode cX0_addGuest 9 = .ok (.getfield 21, 3) := by decide +kernel
theorem dX0_addGuest_12 : decode cX0_addGuest 12 = .ok (.aload_n 0, 1) := by decide +kernel
theorem dX0_addGuest_13 : decode cX0_addGuest 13 = .ok (.getfield 40, 3) := by decide +kernel
theorem dX0_addGuest_16 : decode cX0_addGuest 16 = .ok (.iload_n 1, 1) := by decide +kernel
theorem dX0_addGuest_17 : decode cX0_addGuest 17 = .ok (.iastore, 1) := by decide +kernel
theorem dX0_addGuest_18 : decode cX0_addGuest 18 = .ok (.aload_n 0, 1) := by decide +kernel
theorem dX0_addGuest_19 : decode cX0_addGuest 19 = .ok (.getfield 24, 3) := by decide +kernel
theorem dX0_addGuest_22 : decode cX0_addGuest 22 = .ok (.aload_n 0, 1) := by decide +kernel
theorem dX0_addGuest_23 : decode cX0_addGuest 23 = .ok (.getfield 40, 3) := by decide +kernel
theorem dX0_addGuest_26 : decode cX0_addGuest 26 = .ok (.iload_n 2, 1) := by decide +kernel
theorem dX0_addGuest_27 : decode cX0_addGuest 27 = .ok (.iastore, 1) := by decide +kernel
theorem dX0_addGuest_28 : decode cX0_addGuest 28 = .ok (.aload_n 0, 1) := by decide +kernel
theorem dX0_addGuest_29 : decode cX0_addGuest 29 = .ok (.dup, 1) := by decide +kernel
theorem dX0_addGuest_30 : decode cX0_addGuest 30 = .ok (.getfield 40, 3) := by decide +kernel
theorem dX0_addGuest_33 : decode cX0_addGuest 33 = .ok (.iconst 1, 1) := by decide +kernel
theorem dX0_addGuest_34 : decode cX0_addGuest 34 = .ok (.iadd, 1) := by decide +kernel
theorem dX0_addGuest_35 : decode cX0_addGuest 35 = .ok (.putfield 40, 3) := by decide +kernel
theorem dX0_addGuest_38 : decode cX0_addGuest 38 = .ok (.return_, 1) := by decide +kernel
theorem dX0_addBan_0 : decode cX0_addBan 0 = .ok (.aload_n 0, 1) := by decide +kernel
theorem dX0_addBan_1 : decode cX0_addBan 1 = .ok (.getfield 43, 3) := by decide +kernel
theorem dX0_addBan_4 : decode cX0_addBan 4 = .ok (.iconst 4, 1) := by decide +kernel
theorem dX0_addBan_5 : decode cX0_addBan 5 = .ok (.if_icmp .ge 33, 3) := by decide +kernel
theorem dX0_addBan_8 : decode cX0_addBan 8 = .ok (.aload_n 0, 1) := by decide +kernel
theorem dX0_addBan_9 : decode cX0_addBan 9 = .ok (.getfield 27, 3) := by decide +kernel
theorem dX0_addBan_12 : decode cX0_addBan 12 = .ok (.aload_n 0, 1) := by decide +kernel
theorem dX0_addBan_13 : decode cX0_addBan 13 = .ok (.getfield 43, 3) := by decide +kernel
theorem dX0_addBan_16 : decode cX0_addBan 16 = .ok (.iload_n 1, 1) := by decide +kernel
theorem dX0_addBan_17 : decode cX0_addBan 17 = .ok (.iastore, 1) := by decide +kernel
theorem dX0_addBan_18 : decode cX0_addBan 18 = .ok (.aload_n 0, 1) := by decide +kernel
theorem dX0_addBan_19 : decode cX0_addBan 19 = .ok (.getfield 30, 3) := by decide +kernel
theorem dX0_addBan_22 : decode cX0_addBan 22 = .ok (.aload_n 0, 1) := by decide +kernel
theorem dX0_addBan_23 : decode cX0_addBan 23 = .ok (.getfield 43, 3) := by decide +kernel
theorem dX0_addBan_26 : decode cX0_addBan 26 = .ok (.iload_n 2, 1) := by decide +kernel
theorem dX0_addBan_27 : decode cX0_addBan 27 = .ok (.iastore, 1) := by decide +kernel
theorem dX0_addBan_28 : decode cX0_addBan 28 = .ok (.aload_n 0, 1) := by decide +kernel
theorem dX0_addBan_29 : decode cX0_addBan 29 = .ok (.dup, 1) := by decide +kernel
theorem dX0_addBan_30 : decode cX0_addBan 30 = .ok (.getfield 43, 3) := by decide +kernel
theorem dX0_addBan_33 : decode cX0_addBan 33 = .ok (.iconst 1, 1) := by decide +kernel
theorem dX0_addBan_34 : decode cX0_addBan 34 = .ok (.iadd, 1) := by decide +kernel
theorem dX0_addBan_35 : decode cX0_addBan 35 = .ok (.putfield 43, 3) := by decide +kernel
theorem dX0_addBan_38 : decode cX0_addBan 38 = .ok (.return_, 1) := by decide +kernel
theorem dX0_dropBan_0 : decode cX0_dropBan 0 = .ok (.iload_n 1, 1) := by decide +kernel
theorem dX0_dropBan_1 : decode cX0_dropBan 1 = .ok (.istore_n 2, 1) := by decide +kernel
theorem dX0_dropBan_2 : decode cX0_dropBan 2 = .ok (.iload_n 2, 1) := by decide +kernel
theorem dX0_dropBan_3 : decode cX0_dropBan 3 = .ok (.iconst 1, 1) := by decide +kernel
theorem dX0_dropBan_4 : decode cX0_dropBan 4 = .ok (.iadd, 1) := by decide +kernel
theorem dX0_dropBan_5 : decode cX0_dropBan 5 = .ok (.aload_n 0, 1) := by decide +kernel
theorem dX0_dropBan_6 : decode cX0_dropBan 6 = .ok (.getfield 43, 3) := by decide +kernel
theorem dX0_dropBan_9 : decode cX0_dropBan 9 = .ok (.if_icmp .ge 37, 3) := by decide +kernel
theorem dX0_dropBan_12 : decode cX0_dropBan 12 = .ok (.aload_n 0, 1) := by decide +kernel
theorem dX0_dropBan_13 : decode cX0_dropBan 13 = .ok (.getfield 27, 3) := by decide +kernel
theorem dX0_dropBan_16 : decode cX0_dropBan 16 = .ok (.iload_n 2, 1) := by decide +kernel
theorem dX0_dropBan_17 : decode cX0_dropBan 17 = .ok (.aload_n 0, 1) := by decide +kernel
theorem dX0_dropBan_18 : decode cX0_dropBan 18 = .ok (.getfield 27, 3) := by decide +kernel
theorem dX0_dropBan_21 : decode cX0_dropBan 21 = .ok (.iload_n 2, 1) := by decide +kernel
theorem dX0_dropBan_22 : decode cX0_dropBan 22 = .ok (.iconst 1, 1) := by decide +kernel
theorem dX0_dropBan_23 : decode cX0_dropBan 23 = .ok (.iadd, 1) := by decide +kernel
theorem dX0_dropBan_24 : decode cX0_dropBan 24 = .ok (.iaload, 1) := by decide +kernel
theorem dX0_dropBan_25 : decode cX0_dropBan 25 = .ok (.iastore, 1) := by decide +kernel
theorem dX0_dropBan_26 : decode cX0_dropBan 26 = .ok (.aload_n 0, 1) := by decide +kernel
theorem dX0_dropBan_27 : decode cX0_dropBan 27 = .ok (.getfield 30, 3) := by decide +kernel
theorem dX0_dropBan_30 : decode cX0_dropBan 30 = .ok (.iload_n 2, 1) := by decide +kernel
theorem dX0_dropBan_31 : decode cX0_dropBan 31 = .ok (.aload_n 0, 1) := by decide +kernel
theorem dX0_dropBan_32 : decode cX0_dropBan 32 = .ok (.getfield 30, 3) := by decide +kernel
theorem dX0_dropBan_35 : decode cX0_dropBan 35 = .ok (.iload_n 2, 1) := by decide +kernel
theorem dX0_dropBan_36 : decode cX0_dropBan 36 = .ok (.iconst 1, 1) := by decide +kernel
theorem dX0_dropBan_37 : decode cX0_dropBan 37 = .ok (.iadd, 1) := by decide +kernel
theorem dX0_dropBan_38 : decode cX0_dropBan 38 = .ok (.iaload, 1) := by decide +kernel
theorem dX0_dropBan_39 : decode cX0_dropBan 39 = .ok (.iastore, 1) := by decide +kernel
theorem dX0_dropBan_40 : decode cX0_dropBan 40 = .ok (.iinc 2 1, 3) := by decide +kernel
theorem dX0_dropBan_43 : decode cX0_dropBan 43 = .ok (.goto (-41), 3) := by decide +kernel
theorem dX0_dropBan_46 : decode cX0_dropBan 46 = .ok (.aload_n 0, 1) := by decide +kernel
theorem dX0_dropBan_47 : decode cX0_dropBan 47 = .ok (.dup, 1) := by decide +kernel
theorem dX0_dropBan_48 : decode cX0_dropBan 48 = .ok (.getfield 43, 3) := by decide +kernel
theorem dX0_dropBan_51 : decode cX0_dropBan 51 = .ok (.iconst 1, 1) := by decide +kernel
theorem dX0_dropBan_52 : decode cX0_dropBan 52 = .ok (.isub, 1) := by decide +kernel
theorem dX0_dropBan_53 : decode cX0_dropBan 53 = .ok (.putfield 43, 3) := by decide +kernel
theorem dX0_dropBan_56 : decode cX0_dropBan 56 = .ok (.return_, 1) := by decide +kernel
theorem dX0_allPrices_0 : decode cX0_allPrices 0 = .ok (.iconst 0, 1) := by decide +kernel
theorem dX0_allPrices_1 : decode cX0_allPrices 1 = .ok (.istore_n 1, 1) := by decide +kernel
theorem dX0_allPrices_2 : decode cX0_allPrices 2 = .ok (.iconst 0, 1) := by decide +kernel
theorem dX0_allPrices_3 : decode cX0_allPrices 3 = .ok (.istore_n 2, 1) := by decide +kernel
theorem dX0_allPrices_4 : decode cX0_allPrices 4 = .ok (.iload_n 2, 1) := by decide +kernel
theorem dX0_allPrices_5 : decode cX0_allPrices 5 = .ok (.aload_n 0, 1) := by decide +kernel
theorem dX0_allPrices_6 : decode cX0_allPrices 6 = .ok (.getfield 40, 3) := by decide +kernel
theorem dX0_allPrices_9 : decode cX0_allPrices 9 = .ok (.if_icmp .ge 18, 3) := by decide +kernel
theorem dX0_allPrices_12 : decode cX0_allPrices 12 = .ok (.iload_n 1, 1) := by decide +kernel
theorem dX0_allPrices_13 : decode cX0_allPrices 13 = .ok (.aload_n 0, 1) := by decide +kernel
theorem dX0_allPrices_14 : decode cX0_allPrices 14 = .ok (.getfield 24, 3) := by decide +kernel
theorem dX0_allPrices_17 : decode cX0_allPrices 17 = .ok (.iload_n 2, 1) := by decide +kernel
theorem dX0_allPrices_18 : decode cX0_allPrices 18 = .ok (.iaload, 1) := by decide +kernel
theorem dX0_allPrices_19 : decode cX0_allPrices 19 = .ok (.iadd, 1) := by decide +kernel
theorem dX0_allPrices_20 : decode cX0_allPrices 20 = .ok (.istore_n 1, 1) := by decide +kernel
theorem dX0_allPrices_21 : decode cX0_allPrices 21 = .ok (.iinc 2 1, 3) := by decide +kernel
theorem dX0_allPrices_24 : decode cX0_allPrices 24 = .ok (.goto (-20), 3) := by decide +kernel
theorem dX0_allPrices_27 : decode cX0_allPrices 27 = .ok (.iload_n 1, 1) := by decide +kernel
theorem dX0_allPrices_28 : decode cX0_allPrices 28 = .ok (.ireturn, 1) := by decide +kernel
theorem dX0_soAfter_0 : decode cX0_soAfter 0 = .ok (.iload_n 2, 1) := by decide +kernel
theorem dX0_soAfter_1 : decode cX0_soAfter 1 = .ok (.aload_n 0, 1) := by decide +kernel
theorem dX0_soAfter_2 : decode cX0_soAfter 2 = .ok (.getfield 15, 3) := by decide +kernel
theorem dX0_soAfter_5 : decode cX0_soAfter 5 = .ok (.iload_n 1, 1) := by decide +kernel
theorem dX0_soAfter_6 : decode cX0_soAfter 6 = .ok (.iaload, 1) := by decide +kernel
theorem dX0_soAfter_7 : decode cX0_soAfter 7 = .ok (.ishr, 1) := by decide +kernel
theorem dX0_soAfter_8 : decode cX0_soAfter 8 = .ok (.iconst 1, 1) := by decide +kernel
theorem dX0_soAfter_9 : decode cX0_soAfter 9 = .ok (.iand, 1) := by decide +kernel
theorem dX0_soAfter_10 : decode cX0_soAfter 10 = .ok (.istore_n 3, 1) := by decide +kernel
theorem dX0_soAfter_11 : decode cX0_soAfter 11 = .ok (.iload_n 2, 1) := by decide +kernel
theorem dX0_soAfter_12 : decode cX0_soAfter 12 = .ok (.aload_n 0, 1) := by decide +kernel
theorem dX0_soAfter_13 : decode cX0_soAfter 13 = .ok (.getfield 18, 3) := by decide +kernel
theorem dX0_soAfter_16 : decode cX0_soAfter 16 = .ok (.iload_n 1, 1) := by decide +kernel
theorem dX0_soAfter_17 : decode cX0_soAfter 17 = .ok (.iaload, 1) := by decide +kernel
theorem dX0_soAfter_18 : decode cX0_soAfter 18 = .ok (.ishr, 1) := by decide +kernel
theorem dX0_soAfter_19 : decode cX0_soAfter 19 = .ok (.iconst 1, 1) := by decide +kernel
theorem dX0_soAfter_20 : decode cX0_soAfter 20 = .ok (.iand, 1) := by decide +kernel
theorem dX0_soAfter_21 : decode cX0_soAfter 21 = .ok (.istore 4, 2) := by decide +kernel
theorem dX0_soAfter_23 : decode cX0_soAfter 23 = .ok (.aload_n 0, 1) := by decide +kernel
theorem dX0_soAfter_24 : decode cX0_soAfter 24 = .ok (.getfield 9, 3) := by decide +kernel
theorem dX0_soAfter_27 : decode cX0_soAfter 27 = .ok (.iload_n 1, 1) := by decide +kernel
theorem dX0_soAfter_28 : decode cX0_soAfter 28 = .ok (.iaload, 1) := by decide +kernel
theorem dX0_soAfter_29 : decode cX0_soAfter 29 = .ok (.tableswitch 49 1 4 #[31, 33, 37, 44], 31) := by decide +kernel
theorem dX0_soAfter_60 : decode cX0_soAfter 60 = .ok (.iload_n 3, 1) := by decide +kernel
theorem dX0_soAfter_61 : decode cX0_soAfter 61 = .ok (.ireturn, 1) := by decide +kernel
theorem dX0_soAfter_62 : decode cX0_soAfter 62 = .ok (.iconst 1, 1) := by decide +kernel
theorem dX0_soAfter_63 : decode cX0_soAfter 63 = .ok (.iload_n 3, 1) := by decide +kernel
theorem dX0_soAfter_64 : decode cX0_soAfter 64 = .ok (.isub, 1) := by decide +kernel
theorem dX0_soAfter_65 : decode cX0_soAfter 65 = .ok (.ireturn, 1) := by decide +kernel
theorem dX0_soAfter_66 : decode cX0_soAfter 66 = .ok (.iload_n 3, 1) := by decide +kernel
theorem dX0_soAfter_67 : decode cX0_soAfter 67 = .ok (.iconst 1, 1) := by decide +kernel
theorem dX0_soAfter_68 : decode cX0_soAfter 68 = .ok (.iload 4, 2) := by decide +kernel
theorem dX0_soAfter_70 : decode cX0_soAfter 70 = .ok (.isub, 1) := by decide +kernel
theorem dX0_soAfter_71 : decode cX0_soAfter 71 = .ok (.iand, 1) := by decide +kernel
theorem dX0_soAfter_72 : decode cX0_soAfter 72 = .ok (.ireturn, 1) := by decide +kernel
theorem dX0_soAfter_73 : decode cX0_soAfter 73 = .ok (.iload_n 3, 1) := by decide +kernel
theorem dX0_soAfter_74 : decode cX0_soAfter 74 = .ok (.iload 4, 2) := by decide +kernel
theorem dX0_soAfter_76 : decode cX0_soAfter 76 = .ok (.ior, 1) := by decide +kernel
theorem dX0_soAfter_77 : decode cX0_soAfter 77 = .ok (.ireturn, 1) := by decide +kernel
theorem dX0_soAfter_78 : decode cX0_soAfter 78 = .ok (.iload_n 2, 1) := by decide +kernel
theorem dX0_soAfter_79 : decode cX0_soAfter 79 = .ok (.iload_n 1, 1) := by decide +kernel
theorem dX0_soAfter_80 : decode cX0_soAfter 80 = .ok (.ishr, 1) := by decide +kernel
theorem dX0_soAfter_81 : decode cX0_soAfter 81 = .ok (.iconst 1, 1) := by decide +kernel
theorem dX0_soAfter_82 : decode cX0_soAfter 82 = .ok (.iand, 1) := by decide +kernel
theorem dX0_soAfter_83 : decode cX0_soAfter 83 = .ok (.ireturn, 1) := by decide +kernel
theorem dX0_afterYear_0 : decode cX0_afterYear 0 = .ok (.iconst 0, 1) := by decide +kernel
theorem dX0_afterYear_1 : decode cX0_afterYear 1 = .ok (.istore_n 2, 1) := by decide +kernel
theorem dX0_afterYear_2 : decode cX0_afterYear 2 = .ok (.iconst 0, 1) := by decide +kernel
theorem dX0_afterYear_3 : decode cX0_afterYear 3 = .ok (.istore_n 3, 1) := by decide +kernel
theorem dX0_afterYear_4 : decode cX0_afterYear 4 = .ok (.iload_n 3, 1) := by decide +kernel
theorem dX0_afterYear_5 : decode cX0_afterYear 5 = .ok (.aload_n 0, 1) := by decide +kernel
theorem dX0_afterYear_6 : decode cX0_afterYear 6 = .ok (.getfield 33, 3) := by decide +kernel
theorem dX0_afterYear_9 : decode cX0_afterYear 9 = .ok (.if_icmp .ge 20, 3) := by decide +kernel
theorem dX0_afterYear_12 : decode cX0_afterYear 12 = .ok (.iload_n 2, 1) := by decide +kernel
theorem dX0_afterYear_13 : decode cX0_afterYear 13 = .ok (.aload_n 0, 1) := by decide +kernel
theorem dX0_afterYear_14 : decode cX0_afterYear 14 = .ok (.iload_n 3, 1) := by decide +kernel
theorem dX0_afterYear_15 : decode cX0_afterYear 15 = .ok (.iload_n 1, 1) := by decide +kernel
theorem dX0_afterYear_16 : decode cX0_afterYear 16 = .ok (.invokevirtual 66, 3) := by decide +kernel
theorem dX0_afterYear_19 : decode cX0_afterYear 19 = .ok (.iload_n 3, 1) := by decide +kernel
theorem dX0_afterYear_20 : decode cX0_afterYear 20 = .ok (.ishl, 1) := by decide +kernel
theorem dX0_afterYear_21 : decode cX0_afterYear 21 = .ok (.ior, 1) := by decide +kernel
theorem dX0_afterYear_22 : decode cX0_afterYear 22 = .ok (.istore_n 2, 1) := by decide +kernel
theorem dX0_afterYear_23 : decode cX0_afterYear 23 = .ok (.iinc 3 1, 3) := by decide +kernel
theorem dX0_afterYear_26 : decode cX0_afterYear 26 = .ok (.goto (-22), 3) := by decide +kernel
theorem dX0_afterYear_29 : decode cX0_afterYear 29 = .ok (.iload_n 2, 1) := by decide +kernel
theorem dX0_afterYear_30 : decode cX0_afterYear 30 = .ok (.ireturn, 1) := by decide +kernel
theorem dX0_afterYears_0 : decode cX0_afterYears 0 = .ok (.iload_n 1, 1) := by decide +kernel
theorem dX0_afterYears_1 : decode cX0_afterYears 1 = .ok (.istore_n 3, 1) := by decide +kernel
theorem dX0_afterYears_2 : decode cX0_afterYears 2 = .ok (.iconst 0, 1) := by decide +kernel
theorem dX0_afterYears_3 : decode cX0_afterYears 3 = .ok (.istore 4, 2) := by decide +kernel
theorem dX0_afterYears_5 : decode cX0_afterYears 5 = .ok (.iload 4, 2) := by decide +kernel
theorem dX0_afterYears_7 : decode cX0_afterYears 7 = .ok (.iload_n 2, 1) := by decide +kernel
theorem dX0_afterYears_8 : decode cX0_afterYears 8 = .ok (.if_icmp .ge 15, 3) := by decide +kernel
theorem dX0_afterYears_11 : decode cX0_afterYears 11 = .ok (.aload_n 0, 1) := by decide +kernel
theorem dX0_afterYears_12 : decode cX0_afterYears 12 = .ok (.iload_n 3, 1) := by decide +kernel
theorem dX0_afterYears_13 : decode cX0_afterYears 13 = .ok (.invokevirtual 70, 3) := by decide +kernel
theorem dX0_afterYears_16 : decode cX0_afterYears 16 = .ok (.istore_n 3, 1) := by decide +kernel
theorem dX0_afterYears_17 : decode cX0_afterYears 17 = .ok (.iinc 4 1, 3) := by decide +kernel
theorem dX0_afterYears_20 : decode cX0_afterYears 20 = .ok (.goto (-15), 3) := by decide +kernel
theorem dX0_afterYears_23 : decode cX0_afterYears 23 = .ok (.iload_n 3, 1) := by decide +kernel
theorem dX0_afterYears_24 : decode cX0_afterYears 24 = .ok (.ireturn, 1) := by decide +kernel
theorem dX0_breaks_0 : decode cX0_breaks 0 = .ok (.iload_n 2, 1) := by decide +kernel
theorem dX0_breaks_1 : decode cX0_breaks 1 = .ok (.aload_n 0, 1) := by decide +kernel
theorem dX0_breaks_2 : decode cX0_breaks 2 = .ok (.getfield 27, 3) := by decide +kernel
theorem dX0_breaks_5 : decode cX0_breaks 5 = .ok (.iload_n 1, 1) := by decide +kernel
theorem dX0_breaks_6 : decode cX0_breaks 6 = .ok (.iaload, 1) := by decide +kernel
theorem dX0_breaks_7 : decode cX0_breaks 7 = .ok (.invokestatic 74, 3) := by decide +kernel
theorem dX0_breaks_10 : decode cX0_breaks 10 = .ok (.ifCond .eq 20, 3) := by decide +kernel
theorem dX0_breaks_13 : decode cX0_breaks 13 = .ok (.iload_n 2, 1) := by decide +kernel
theorem dX0_breaks_14 : decode cX0_breaks 14 = .ok (.aload_n 0, 1) := by decide +kernel
theorem dX0_breaks_15 : decode cX0_breaks 15 = .ok (.getfield 30, 3) := by decide +kernel
theorem dX0_breaks_18 : decode cX0_breaks 18 = .ok (.iload_n 1, 1) := by decide +kernel
theorem dX0_breaks_19 : decode cX0_breaks 19 = .ok (.iaload, 1) := by decide +kernel
theorem dX0_breaks_20 : decode cX0_breaks 20 = .ok (.invokestatic 74, 3) := by decide +kernel
theorem dX0_breaks_23 : decode cX0_breaks 23 = .ok (.ifCond .eq 7, 3) := by decide +kernel
theorem dX0_breaks_26 : decode cX0_breaks 26 = .ok (.iconst 1, 1) := by decide +kernel
theorem dX0_breaks_27 : decode cX0_breaks 27 = .ok (.goto 4, 3) := by decide +kernel
theorem dX0_breaks_30 : decode cX0_breaks 30 = .ok (.iconst 0, 1) := by decide +kernel
theorem dX0_breaks_31 : decode cX0_breaks 31 = .ok (.ireturn, 1) := by decide +kernel
theorem dX0_allows_0 : decode cX0_allows 0 = .ok (.iconst 0, 1) := by decide +kernel
theorem dX0_allows_1 : decode cX0_allows 1 = .ok (.istore_n 2, 1) := by decide +kernel
theorem dX0_allows_2 : decode cX0_allows 2 = .ok (.iload_n 2, 1) := by decide +kernel
theorem dX0_allows_3 : decode cX0_allows 3 = .ok (.aload_n 0, 1) := by decide +kernel
theorem dX0_allows_4 : decode cX0_allows 4 = .ok (.getfield 43, 3) := by decide +kernel
theorem dX0_allows_7 : decode cX0_allows 7 = .ok (.if_icmp .ge 20, 3) := by decide +kernel
theorem dX0_allows_10 : decode cX0_allows 10 = .ok (.aload_n 0, 1) := by decide +kernel
theorem dX0_allows_11 : decode cX0_allows 11 = .ok (.iload_n 2, 1) := by decide +kernel
theorem dX0_allows_12 : decode cX0_allows 12 = .ok (.iload_n 1, 1) := by decide +kernel
theorem dX0_allows_13 : decode cX0_allows 13 = .ok (.invokevirtual 78, 3) := by decide +kernel
theorem dX0_allows_16 : decode cX0_allows 16 = .ok (.ifCond .eq 5, 3) := by decide +kernel
theorem dX0_allows_19 : decode cX0_allows 19 = .ok (.iconst 0, 1) := by decide +kernel
theorem dX0_allows_20 : decode cX0_allows 20 = .ok (.ireturn, 1) := by decide +kernel
theorem dX0_allows_21 : decode cX0_allows 21 = .ok (.iinc 2 1, 3) := by decide +kernel
theorem dX0_allows_24 : decode cX0_allows 24 = .ok (.goto (-22), 3) := by decide +kernel
theorem dX0_allows_27 : decode cX0_allows 27 = .ok (.iconst 1, 1) := by decide +kernel
theorem dX0_allows_28 : decode cX0_allows 28 = .ok (.ireturn, 1) := by decide +kernel
theorem dX0_agrees_0 : decode cX0_agrees 0 = .ok (.aload_n 0, 1) := by decide +kernel
theorem dX0_agrees_1 : decode cX0_agrees 1 = .ok (.iload_n 1, 1) := by decide +kernel
theorem dX0_agrees_2 : decode cX0_agrees 2 = .ok (.invokevirtual 70, 3) := by decide +kernel
theorem dX0_agrees_5 : decode cX0_agrees 5 = .ok (.iload_n 1, 1) := by decide +kernel
theorem dX0_agrees_6 : decode cX0_agrees 6 = .ok (.if_icmp .ne 7, 3) := by decide +kernel
theorem dX0_agrees_9 : decode cX0_agrees 9 = .ok (.iconst 1, 1) := by decide +kernel
theorem dX0_agrees_10 : decode cX0_agrees 10 = .ok (.goto 4, 3) := by decide +kernel
theorem dX0_agrees_13 : decode cX0_agrees 13 = .ok (.iconst 0, 1) := by decide +kernel
theorem dX0_agrees_14 : decode cX0_agrees 14 = .ok (.ireturn, 1) := by decide +kernel
theorem dX0_settles_0 : decode cX0_settles 0 = .ok (.aload_n 0, 1) := by decide +kernel
theorem dX0_settles_1 : decode cX0_settles 1 = .ok (.iload_n 1, 1) := by decide +kernel
theorem dX0_settles_2 : decode cX0_settles 2 = .ok (.invokevirtual 81, 3) := by decide +kernel
theorem dX0_settles_5 : decode cX0_settles 5 = .ok (.ifCond .eq 15, 3) := by decide +kernel
theorem dX0_settles_8 : decode cX0_settles 8 = .ok (.aload_n 0, 1) := by decide +kernel
theorem dX0_settles_9 : decode cX0_settles 9 = .ok (.iload_n 1, 1) := by decide +kernel
theorem dX0_settles_10 : decode cX0_settles 10 = .ok (.invokevirtual 84, 3) := by decide +kernel
theorem dX0_settles_13 : decode cX0_settles 13 = .ok (.ifCond .eq 7, 3) := by decide +kernel
theorem dX0_settles_16 : decode cX0_settles 16 = .ok (.iconst 1, 1) := by decide +kernel
theorem dX0_settles_17 : decode cX0_settles 17 = .ok (.goto 4, 3) := by decide +kernel
theorem dX0_settles_20 : decode cX0_settles 20 = .ok (.iconst 0, 1) := by decide +kernel
theorem dX0_settles_21 : decode cX0_settles 21 = .ok (.ireturn, 1) := by decide +kernel
theorem dX0_settled_0 : decode cX0_settled 0 = .ok (.iconst 0, 1) := by decide +kernel
theorem dX0_settled_1 : decode cX0_settled 1 = .ok (.istore_n 1, 1) := by decide +kernel
theorem dX0_settled_2 : decode cX0_settled 2 = .ok (.iconst 0, 1) := by decide +kernel
theorem dX0_settled_3 : decode cX0_settled 3 = .ok (.istore_n 2, 1) := by decide +kernel
theorem dX0_settled_4 : decode cX0_settled 4 = .ok (.iload_n 2, 1) := by decide +kernel
theorem dX0_settled_5 : decode cX0_settled 5 = .ok (.aload_n 0, 1) := by decide +kernel
theorem dX0_settled_6 : decode cX0_settled 6 = .ok (.invokevirtual 55, 3) := by decide +kernel
theorem dX0_settled_9 : decode cX0_settled 9 = .ok (.if_icmp .ge 20, 3) := by decide +kernel
theorem dX0_settled_12 : decode cX0_settled 12 = .ok (.iload_n 1, 1) := by decide +kernel
theorem dX0_settled_13 : decode cX0_settled 13 = .ok (.aload_n 0, 1) := by decide +kernel
theorem dX0_settled_14 : decode cX0_settled 14 = .ok (.iload_n 2, 1) := by decide +kernel
theorem dX0_settled_15 : decode cX0_settled 15 = .ok (.invokevirtual 87, 3) := by decide +kernel
theorem dX0_settled_18 : decode cX0_settled 18 = .ok (.invokestatic 90, 3) := by decide +kernel
theorem dX0_settled_21 : decode cX0_settled 21 = .ok (.iadd, 1) := by decide +kernel
theorem dX0_settled_22 : decode cX0_settled 22 = .ok (.istore_n 1, 1) := by decide +kernel
theorem dX0_settled_23 : decode cX0_settled 23 = .ok (.iinc 2 1, 3) := by decide +kernel
theorem dX0_settled_26 : decode cX0_settled 26 = .ok (.goto (-22), 3) := by decide +kernel
theorem dX0_settled_29 : decode cX0_settled 29 = .ok (.iload_n 1, 1) := by decide +kernel
theorem dX0_settled_30 : decode cX0_settled 30 = .ok (.ireturn, 1) := by decide +kernel
theorem dX0_settledWithout_0 : decode cX0_settledWithout 0 = .ok (.iconst 0, 1) := by decide +kernel
theorem dX0_settledWithout_1 : decode cX0_settledWithout 1 = .ok (.istore_n 3, 1) := by decide +kernel
theorem dX0_settledWithout_2 : decode cX0_settledWithout 2 = .ok (.iconst 0, 1) := by decide +kernel
theorem dX0_settledWithout_3 : decode cX0_settledWithout 3 = .ok (.istore 4, 2) := by decide +kernel
theorem dX0_settledWithout_5 : decode cX0_settledWithout 5 = .ok (.iload 4, 2) := by decide +kernel
theorem dX0_settledWithout_7 : decode cX0_settledWithout 7 = .ok (.aload_n 0, 1) := by decide +kernel
theorem dX0_settledWithout_8 : decode cX0_settledWithout 8 = .ok (.invokevirtual 55, 3) := by decide +kernel
theorem dX0_settledWithout_11 : decode cX0_settledWithout 11 = .ok (.if_icmp .ge 47, 3) := by decide +kernel
theorem dX0_settledWithout_14 : decode cX0_settledWithout 14 = .ok (.iload_n 3, 1) := by decide +kernel
theorem dX0_settledWithout_15 : decode cX0_settledWithout 15 = .ok (.aload_n 0, 1) := by decide +kernel
theorem dX0_settledWithout_16 : decode cX0_settledWithout 16 = .ok (.iload 4, 2) := by decide +kernel
theorem dX0_settledWithout_18 : decode cX0_settledWithout 18 = .ok (.invokevirtual 87, 3) := by decide +kernel
theorem dX0_settledWithout_21 : decode cX0_settledWithout 21 = .ok (.ifCond .eq 25, 3) := by decide +kernel
theorem dX0_settledWithout_24 : decode cX0_settledWithout 24 = .ok (.iload 4, 2) := by decide +kernel
theorem dX0_settledWithout_26 : decode cX0_settledWithout 26 = .ok (.iload_n 1, 1) := by decide +kernel
theorem dX0_settledWithout_27 : decode cX0_settledWithout 27 = .ok (.invokestatic 74, 3) := by decide +kernel
theorem dX0_settledWithout_30 : decode cX0_settledWithout 30 = .ok (.ifCond .eq 12, 3) := by decide +kernel
theorem dX0_settledWithout_33 : decode cX0_settledWithout 33 = .ok (.iload 4, 2) := by decide +kernel
theorem dX0_settledWithout_35 : decode cX0_settledWithout 35 = .ok (.iload_n 2, 1) := by decide +kernel
theorem dX0_settledWithout_36 : decode cX0_settledWithout 36 = .ok (.invokestatic 74, 3) := by decide +kernel
theorem dX0_settledWithout_39 : decode cX0_settledWithout 39 = .ok (.ifCond .ne 7, 3) := by decide +kernel
theorem dX0_settledWithout_42 : decode cX0_settledWithout 42 = .ok (.iconst 1, 1) := by decide +kernel
theorem dX0_settledWithout_43 : decode cX0_settledWithout 43 = .ok (.goto 4, 3) := by decide +kernel
theorem dX0_settledWithout_46 : decode cX0_settledWithout 46 = .ok (.iconst 0, 1) := by decide +kernel
theorem dX0_settledWithout_47 : decode cX0_settledWithout 47 = .ok (.invokestatic 90, 3) := by decide +kernel
theorem dX0_settledWithout_50 : decode cX0_settledWithout 50 = .ok (.iadd, 1) := by decide +kernel
theorem dX0_settledWithout_51 : decode cX0_settledWithout 51 = .ok (.istore_n 3, 1) := by decide +kernel
theorem dX0_settledWithout_52 : decode cX0_settledWithout 52 = .ok (.iinc 4 1, 3) := by decide +kernel
theorem dX0_settledWithout_55 : decode cX0_settledWithout 55 = .ok (.goto (-50), 3) := by decide +kernel
theorem dX0_settledWithout_58 : decode cX0_settledWithout 58 = .ok (.iload_n 3, 1) := by decide +kernel
theorem dX0_settledWithout_59 : decode cX0_settledWithout 59 = .ok (.ireturn, 1) := by decide +kernel
theorem dX0_ringFrom_0 : decode cX0_ringFrom 0 = .ok (.iload_n 1, 1) := by decide +kernel
theorem dX0_ringFrom_1 : decode cX0_ringFrom 1 = .ok (.istore_n 2, 1) := by decide +kernel
theorem dX0_ringFrom_2 : decode cX0_ringFrom 2 = .ok (.iconst 1, 1) := by decide +kernel
theorem dX0_ringFrom_3 : decode cX0_ringFrom 3 = .ok (.istore_n 3, 1) := by decide +kernel
theorem dX0_ringFrom_4 : decode cX0_ringFrom 4 = .ok (.iload_n 3, 1) := by decide +kernel
theorem dX0_ringFrom_5 : decode cX0_ringFrom 5 = .ok (.aload_n 0, 1) := by decide +kernel
theorem dX0_ringFrom_6 : decode cX0_ringFrom 6 = .ok (.invokevirtual 55, 3) := by decide +kernel
theorem dX0_ringFrom_9 : decode cX0_ringFrom 9 = .ok (.if_icmp .gt 22, 3) := by decide +kernel
theorem dX0_ringFrom_12 : decode cX0_ringFrom 12 = .ok (.aload_n 0, 1) := by decide +kernel
theorem dX0_ringFrom_13 : decode cX0_ringFrom 13 = .ok (.iload_n 2, 1) := by decide +kernel
theorem dX0_ringFrom_14 : decode cX0_ringFrom 14 = .ok (.invokevirtual 70, 3) := by decide +kernel
theorem dX0_ringFrom_17 : decode cX0_ringFrom 17 = .ok (.istore_n 2, 1) := by decide +kernel
theorem dX0_ringFrom_18 : decode cX0_ringFrom 18 = .ok (.iload_n 2, 1) := by decide +kernel
theorem dX0_ringFrom_19 : decode cX0_ringFrom 19 = .ok (.iload_n 1, 1) := by decide +kernel
theorem dX0_ringFrom_20 : decode cX0_ringFrom 20 = .ok (.if_icmp .ne 5, 3) := by decide +kernel
theorem dX0_ringFrom_23 : decode cX0_ringFrom 23 = .ok (.iload_n 3, 1) := by decide +kernel
theorem dX0_ringFrom_24 : decode cX0_ringFrom 24 = .ok (.ireturn, 1) := by decide +kernel
theorem dX0_ringFrom_25 : decode cX0_ringFrom 25 = .ok (.iinc 3 1, 3) := by decide +kernel
theorem dX0_ringFrom_28 : decode cX0_ringFrom 28 = .ok (.goto (-24), 3) := by decide +kernel
theorem dX0_ringFrom_31 : decode cX0_ringFrom 31 = .ok (.iconst 0, 1) := by decide +kernel
theorem dX0_ringFrom_32 : decode cX0_ringFrom 32 = .ok (.ireturn, 1) := by decide +kernel
theorem dX0_ringLedBy_0 : decode cX0_ringLedBy 0 = .ok (.iload_n 1, 1) := by decide +kernel
theorem dX0_ringLedBy_1 : decode cX0_ringLedBy 1 = .ok (.istore_n 2, 1) := by decide +kernel
theorem dX0_ringLedBy_2 : decode cX0_ringLedBy 2 = .ok (.iconst 1, 1) := by decide +kernel
theorem dX0_ringLedBy_3 : decode cX0_ringLedBy 3 = .ok (.istore_n 3, 1) := by decide +kernel
theorem dX0_ringLedBy_4 : decode cX0_ringLedBy 4 = .ok (.iload_n 3, 1) := by decide +kernel
theorem dX0_ringLedBy_5 : decode cX0_ringLedBy 5 = .ok (.aload_n 0, 1) := by decide +kernel
theorem dX0_ringLedBy_6 : decode cX0_ringLedBy 6 = .ok (.invokevirtual 55, 3) := by decide +kernel
theorem dX0_ringLedBy_9 : decode cX0_ringLedBy 9 = .ok (.if_icmp .gt 29, 3) := by decide +kernel
theorem dX0_ringLedBy_12 : decode cX0_ringLedBy 12 = .ok (.aload_n 0, 1) := by decide +kernel
theorem dX0_ringLedBy_13 : decode cX0_ringLedBy 13 = .ok (.iload_n 2, 1) := by decide +kernel
theorem dX0_ringLedBy_14 : decode cX0_ringLedBy 14 = .ok (.invokevirtual 70, 3) := by decide +kernel
theorem dX0_ringLedBy_17 : decode cX0_ringLedBy 17 = .ok (.istore_n 2, 1) := by decide +kernel
theorem dX0_ringLedBy_18 : decode cX0_ringLedBy 18 = .ok (.iload_n 2, 1) := by decide +kernel
theorem dX0_ringLedBy_19 : decode cX0_ringLedBy 19 = .ok (.iload_n 1, 1) := by decide +kernel
theorem dX0_ringLedBy_20 : decode cX0_ringLedBy 20 = .ok (.if_icmp .ne 5, 3) := by decide +kernel
theorem dX0_ringLedBy_23 : decode cX0_ringLedBy 23 = .ok (.iload_n 3, 1) := by decide +kernel
theorem dX0_ringLedBy_24 : decode cX0_ringLedBy 24 = .ok (.ireturn, 1) := by decide +kernel
theorem dX0_ringLedBy_25 : decode cX0_ringLedBy 25 = .ok (.iload_n 2, 1) := by decide +kernel
theorem dX0_ringLedBy_26 : decode cX0_ringLedBy 26 = .ok (.iload_n 1, 1) := by decide +kernel
theorem dX0_ringLedBy_27 : decode cX0_ringLedBy 27 = .ok (.if_icmp .ge 5, 3) := by decide +kernel
theorem dX0_ringLedBy_30 : decode cX0_ringLedBy 30 = .ok (.iconst 0, 1) := by decide +kernel
theorem dX0_ringLedBy_31 : decode cX0_ringLedBy 31 = .ok (.ireturn, 1) := by decide +kernel
theorem dX0_ringLedBy_32 : decode cX0_ringLedBy 32 = .ok (.iinc 3 1, 3) := by decide +kernel
theorem dX0_ringLedBy_35 : decode cX0_ringLedBy 35 = .ok (.goto (-31), 3) := by decide +kernel
theorem dX0_ringLedBy_38 : decode cX0_ringLedBy 38 = .ok (.iconst 0, 1) := by decide +kernel
theorem dX0_ringLedBy_39 : decode cX0_ringLedBy 39 = .ok (.ireturn, 1) := by decide +kernel
theorem dX0_worth_0 : decode cX0_worth 0 = .ok (.iload_n 2, 1) := by decide +kernel
theorem dX0_worth_1 : decode cX0_worth 1 = .ok (.lookupswitch 45 #[(0, 27), (1, 36)], 27) := by decide +kernel
theorem dX0_worth_28 : decode cX0_worth 28 = .ok (.aload_n 0, 1) := by decide +kernel
theorem dX0_worth_29 : decode cX0_worth 29 = .ok (.iload_n 1, 1) := by decide +kernel
theorem dX0_worth_30 : decode cX0_worth 30 = .ok (.invokevirtual 84, 3) := by decide +kernel
theorem dX0_worth_33 : decode cX0_worth 33 = .ok (.invokestatic 90, 3) := by decide +kernel
theorem dX0_worth_36 : decode cX0_worth 36 = .ok (.ireturn, 1) := by decide +kernel
theorem dX0_worth_37 : decode cX0_worth 37 = .ok (.aload_n 0, 1) := by decide +kernel
theorem dX0_worth_38 : decode cX0_worth 38 = .ok (.iload_n 1, 1) := by decide +kernel
theorem dX0_worth_39 : decode cX0_worth 39 = .ok (.invokevirtual 81, 3) := by decide +kernel
theorem dX0_worth_42 : decode cX0_worth 42 = .ok (.invokestatic 90, 3) := by decide +kernel
theorem dX0_worth_45 : decode cX0_worth 45 = .ok (.ireturn, 1) := by decide +kernel
theorem dX0_worth_46 : decode cX0_worth 46 = .ok (.iload_n 1, 1) := by decide +kernel
theorem dX0_worth_47 : decode cX0_worth 47 = .ok (.invokestatic 94, 3) := by decide +kernel
theorem dX0_worth_50 : decode cX0_worth 50 = .ok (.ireturn, 1) := by decide +kernel
theorem dX1_init_0 : decode cX1_init 0 = .ok (.aload_n 0, 1) := by decide +kernel
theorem dX1_init_1 : decode cX1_init 1 = .ok (.invokespecial 3, 3) := by decide +kernel
theorem dX1_init_4 : decode cX1_init 4 = .ok (.aload_n 0, 1) := by decide +kernel
theorem dX1_init_5 : decode cX1_init 5 = .ok (.new 9, 3) := by decide +kernel
theorem dX1_init_8 : decode cX1_init 8 = .ok (.dup, 1) := by decide +kernel
theorem dX1_init_9 : decode cX1_init 9 = .ok (.invokespecial 11, 3) := by decide +kernel
theorem dX1_init_12 : decode cX1_init 12 = .ok (.putfield 12, 3) := by decide +kernel
theorem dX1_init_15 : decode cX1_init 15 = .ok (.aload_n 0, 1) := by decide +kernel
theorem dX1_init_16 : decode cX1_init 16 = .ok (.new 18, 3) := by decide +kernel
theorem dX1_init_19 : decode cX1_init 19 = .ok (.dup, 1) := by decide +kernel
theorem dX1_init_20 : decode cX1_init 20 = .ok (.invokespecial 20, 3) := by decide +kernel
theorem dX1_init_23 : decode cX1_init 23 = .ok (.putfield 21, 3) := by decide +kernel
theorem dX1_init_26 : decode cX1_init 26 = .ok (.return_, 1) := by decide +kernel
theorem dX1_readAll_0 : decode cX1_readAll 0 = .ok (.aload_n 0, 1) := by decide +kernel
theorem dX1_readAll_1 : decode cX1_readAll 1 = .ok (.getfield 21, 3) := by decide +kernel
theorem dX1_readAll_4 : decode cX1_readAll 4 = .ok (.invokevirtual 25, 3) := by decide +kernel
theorem dX1_readAll_7 : decode cX1_readAll 7 = .ok (.aload_n 0, 1) := by decide +kernel
theorem dX1_readAll_8 : decode cX1_readAll 8 = .ok (.getfield 12, 3) := by decide +kernel
theorem dX1_readAll_11 : decode cX1_readAll 11 = .ok (.invokevirtual 28, 3) := by decide +kernel
theorem dX1_readAll_14 : decode cX1_readAll 14 = .ok (.aload_n 0, 1) := by decide +kernel
theorem dX1_readAll_15 : decode cX1_readAll 15 = .ok (.iconst 0, 1) := by decide +kernel
theorem dX1_readAll_16 : decode cX1_readAll 16 = .ok (.putfield 31, 3) := by decide +kernel
theorem dX1_readAll_19 : decode cX1_readAll 19 = .ok (.aload_n 0, 1) := by decide +kernel
theorem dX1_readAll_20 : decode cX1_readAll 20 = .ok (.iconst 0, 1) := by decide +kernel
theorem dX1_readAll_21 : decode cX1_readAll 21 = .ok (.putfield 35, 3) := by decide +kernel
theorem dX1_readAll_24 : decode cX1_readAll 24 = .ok (.aload_n 0, 1) := by decide +kernel
theorem dX1_readAll_25 : decode cX1_readAll 25 = .ok (.iconst 0, 1) := by decide +kernel
theorem dX1_readAll_26 : decode cX1_readAll 26 = .ok (.putfield 38, 3) := by decide +kernel
theorem dX1_readAll_29 : decode cX1_readAll 29 = .ok (.aload_n 0, 1) := by decide +kernel
theorem dX1_readAll_30 : decode cX1_readAll 30 = .ok (.getfield 38, 3) := by decide +kernel
theorem dX1_readAll_33 : decode cX1_readAll 33 = .ok (.sipush 160, 3) := by decide +kernel
theorem dX1_readAll_36 : decode cX1_readAll 36 = .ok (.if_icmp .ge 23, 3) := by decide +kernel
theorem dX1_readAll_39 : decode cX1_readAll 39 = .ok (.aload_n 0, 1) := by decide +kernel
theorem dX1_readAll_40 : decode cX1_readAll 40 = .ok (.invokevirtual 41, 3) := by decide +kernel
theorem dX1_readAll_43 : decode cX1_readAll 43 = .ok (.ifCond .eq 16, 3) := by decide +kernel
theorem dX1_readAll_46 : decode cX1_readAll 46 = .ok (.aload_n 0, 1) := by decide +kernel
theorem dX1_readAll_47 : decode cX1_readAll 47 = .ok (.dup, 1) := by decide +kernel
theorem dX1_readAll_48 : decode cX1_readAll 48 = .ok (.getfield 38, 3) := by decide +kernel
theorem dX1_readAll_51 : decode cX1_readAll 51 = .ok (.iconst 1, 1) := by decide +kernel
theorem dX1_readAll_52 : decode cX1_readAll 52 = .ok (.iadd, 1) := by decide +kernel
theorem dX1_readAll_53 : decode cX1_readAll 53 = .ok (.putfield 38, 3) := by decide +kernel
theorem dX1_readAll_56 : decode cX1_readAll 56 = .ok (.goto (-27), 3) := by decide +kernel
theorem dX1_readAll_59 : decode cX1_readAll 59 = .ok (.aload_n 0, 1) := by decide +kernel
theorem dX1_readAll_60 : decode cX1_readAll 60 = .ok (.aload_n 0, 1) := by decide +kernel
theorem dX1_readAll_61 : decode cX1_readAll 61 = .ok (.getfield 21, 3) := by decide +kernel
theorem dX1_readAll_64 : decode cX1_readAll 64 = .ok (.invokevirtual 45, 3) := by decide +kernel
theorem dX1_readAll_67 : decode cX1_readAll 67 = .ok (.ifCond .ne 7, 3) := by decide +kernel
theorem dX1_readAll_70 : decode cX1_readAll 70 = .ok (.iconst 1, 1) := by decide +kernel
theorem dX1_readAll_71 : decode cX1_readAll 71 = .ok (.goto 4, 3) := by decide +kernel
theorem dX1_readAll_74 : decode cX1_readAll 74 = .ok (.iconst 0, 1) := by decide +kernel
theorem dX1_readAll_75 : decode cX1_readAll 75 = .ok (.bipush 6, 2) := by decide +kernel
theorem dX1_readAll_77 : decode cX1_readAll 77 = .ok (.invokevirtual 48, 3) := by decide +kernel
theorem dX1_readAll_80 : decode cX1_readAll 80 = .ok (.return_, 1) := by decide +kernel
theorem dX1_readLine_0 : decode cX1_readLine 0 = .ok (.aload_n 0, 1) := by decide +kernel
theorem dX1_readLine_1 : decode cX1_readLine 1 = .ok (.invokevirtual 52, 3) := by decide +kernel
theorem dX1_readLine_4 : decode cX1_readLine 4 = .ok (.aload_n 0, 1) := by decide +kernel
theorem dX1_readLine_5 : decode cX1_readLine 5 = .ok (.getfield 31, 3) := by decide +kernel
theorem dX1_readLine_8 : decode cX1_readLine 8 = .ok (.ifCond .ne 14, 3) := by decide +kernel
theorem dX1_readLine_11 : decode cX1_readLine 11 = .ok (.aload_n 0, 1) := by decide +kernel
theorem dX1_readLine_12 : decode cX1_readLine 12 = .ok (.getfield 12, 3) := by decide +kernel
theorem dX1_readLine_15 : decode cX1_readLine 15 = .ok (.getfield 55, 3) := by decide +kernel
theorem dX1_readLine_18 : decode cX1_readLine 18 = .ok (.iconst 4, 1) := by decide +kernel
theorem dX1_readLine_19 : decode cX1_readLine 19 = .ok (.if_icmp .ne 5, 3) := by decide +kernel
theorem dX1_readLine_22 : decode cX1_readLine 22 = .ok (.iconst 0, 1) := by decide +kernel
theorem dX1_readLine_23 : decode cX1_readLine 23 = .ok (.ireturn, 1) := by decide +kernel
theorem dX1_readLine_24 : decode cX1_readLine 24 = .ok (.aload_n 0, 1) := by decide +kernel
theorem dX1_readLine_25 : decode cX1_readLine 25 = .ok (.invokevirtual 58, 3) := by decide +kernel
theorem dX1_readLine_28 : decode cX1_readLine 28 = .ok (.istore_n 1, 1) := by decide +kernel
theorem dX1_readLine_29 : decode cX1_readLine 29 = .ok (.iload_n 1, 1) := by decide +kernel
theorem dX1_readLine_30 : decode cX1_readLine 30 = .ok (.tableswitch 80 (-1) 7 #[50, 80, 80, 80, 80, 80, 59, 66, 73], 50) := by decide +kernel
theorem dX1_readLine_80 : decode cX1_readLine 80 = .ok (.aload_n 0, 1) := by decide +kernel
theorem dX1_readLine_81 : decode cX1_readLine 81 = .ok (.iconst 1, 1) := by decide +kernel
theorem dX1_readLine_82 : decode cX1_readLine 82 = .ok (.iconst 2, 1) := by decide +kernel
theorem dX1_readLine_83 : decode cX1_readLine 83 = .ok (.invokevirtual 48, 3) := by decide +kernel
theorem dX1_readLine_86 : decode cX1_readLine 86 = .ok (.goto 29, 3) := by decide +kernel
theorem dX1_readLine_89 : decode cX1_readLine 89 = .ok (.aload_n 0, 1) := by decide +kernel
theorem dX1_readLine_90 : decode cX1_readLine 90 = .ok (.invokevirtual 62, 3) := by decide +kernel
theorem dX1_readLine_93 : decode cX1_readLine 93 = .ok (.goto 22, 3) := by decide +kernel
theorem dX1_readLine_96 : decode cX1_readLine 96 = .ok (.aload_n 0, 1) := by decide +kernel
theorem dX1_readLine_97 : decode cX1_readLine 97 = .ok (.invokevirtual 65, 3) := by decide +kernel
theorem dX1_readLine_100 : decode cX1_readLine 100 = .ok (.goto 15, 3) := by decide +kernel
theorem dX1_readLine_103 : decode cX1_readLine 103 = .ok (.aload_n 0, 1) := by decide +kernel
theorem dX1_readLine_104 : decode cX1_readLine 104 = .ok (.invokevirtual 68, 3) := by decide +kernel
theorem dX1_readLine_107 : decode cX1_readLine 107 = .ok (.goto 8, 3) := by decide +kernel
theorem dX1_readLine_110 : decode cX1_readLine 110 = .ok (.aload_n 0, 1) := by decide +kernel
theorem dX1_readLine_111 : decode cX1_readLine 111 = .ok (.iload_n 1, 1) := by decide +kernel
theorem dX1_readLine_112 : decode cX1_readLine 112 = .ok (.invokevirtual 71, 3) := by decide +kernel
theorem dX1_readLine_115 : decode cX1_readLine 115 = .ok (.aload_n 0, 1) := by decide +kernel
theorem dX1_readLine_116 : decode cX1_readLine 116 = .ok (.getfield 31, 3) := by decide +kernel
theorem dX1_readLine_119 : decode cX1_readLine 119 = .ok (.ifCond .ne 7, 3) := by decide +kernel
theorem dX1_readLine_122 : decode cX1_readLine 122 = .ok (.iconst 1, 1) := by decide +kernel
theorem dX1_readLine_123 : decode cX1_readLine 123 = .ok (.goto 4, 3) := by decide +kernel
theorem dX1_readLine_126 : decode cX1_readLine 126 = .ok (.iconst 0, 1) := by decide +kernel
theorem dX1_readLine_127 : decode cX1_readLine 127 = .ok (.ireturn, 1) := by decide +kernel
theorem dX1_wordRead_0 : decode cX1_wordRead 0 = .ok (.aload_n 0, 1) := by decide +kernel
theorem dX1_wordRead_1 : decode cX1_wordRead 1 = .ok (.getfield 12, 3) := by decide +kernel
theorem dX1_wordRead_4 : decode cX1_wordRead 4 = .ok (.ldc 75, 2) := by decide +kernel
theorem dX1_wordRead_6 : decode cX1_wordRead 6 = .ok (.invokevirtual 77, 3) := by decide +kernel
theorem dX1_wordRead_9 : decode cX1_wordRead 9 = .ok (.ifCond .eq 5, 3) := by decide +kernel
theorem dX1_wordRead_12 : decode cX1_wordRead 12 = .ok (.iconst 0, 1) := by decide +kernel
theorem dX1_wordRead_13 : decode cX1_wordRead 13 = .ok (.ireturn, 1) := by decide +kernel
theorem dX1_wordRead_14 : decode cX1_wordRead 14 = .ok (.aload_n 0, 1) := by decide +kernel
theorem dX1_wordRead_15 : decode cX1_wordRead 15 = .ok (.getfield 12, 3) := by decide +kernel
theorem dX1_wordRead_18 : decode cX1_wordRead 18 = .ok (.ldc 81, 2) := by decide +kernel
theorem dX1_wordRead_20 : decode cX1_wordRead 20 = .ok (.invokevirtual 77, 3) := by decide +kernel
theorem dX1_wordRead_23 : decode cX1_wordRead 23 = .ok (.ifCond .eq 5, 3) := by decide +kernel
theorem dX1_wordRead_26 : decode cX1_wordRead 26 = .ok (.iconst 1, 1) := by decide +kernel
theorem dX1_wordRead_27 : decode cX1_wordRead 27 = .ok (.ireturn, 1) := by decide +kernel
theorem dX1_wordRead_28 : decode cX1_wordRead 28 = .ok (.aload_n 0, 1) := by decide +kernel
theorem dX1_wordRead_29 : decode cX1_wordRead 29 = .ok (.getfield 12, 3) := by decide +kernel
theorem dX1_wordRead_32 : decode cX1_wordRead 32 = .ok (.ldc 83, 2) := by decide +kernel
theorem dX1_wordRead_34 : decode cX1_wordRead 34 = .ok (.invokevirtual 77, 3) := by decide +kernel
theorem dX1_wordRead_37 : decode cX1_wordRead 37 = .ok (.ifCond .eq 5, 3) := by decide +kernel
theorem dX1_wordRead_40 : decode cX1_wordRead 40 = .ok (.iconst 2, 1) := by decide +kernel
theorem dX1_wordRead_41 : decode cX1_wordRead 41 = .ok (.ireturn, 1) := by decide +kernel
theorem dX1_wordRead_42 : decode cX1_wordRead 42 = .ok (.aload_n 0, 1) := by decide +kernel
theorem dX1_wordRead_43 : decode cX1_wordRead 43 = .ok (.getfield 12, 3) := by decide +kernel
theorem dX1_wordRead_46 : decode cX1_wordRead 46 = .ok (.ldc 85, 2) := by decide +kernel
theorem dX1_wordRead_48 : decode cX1_wordRead 48 = .ok (.invokevirtual 77, 3) := by decide +kernel
theorem dX1_wordRead_51 : decode cX1_wordRead 51 = .ok (.ifCond .eq 5, 3) := by decide +kernel
theorem dX1_wordRead_54 : decode cX1_wordRead 54 = .ok (.iconst 3, 1) := by decide +kernel
theorem dX1_wordRead_55 : decode cX1_wordRead 55 = .ok (.ireturn, 1) := by decide +kernel
theorem dX1_wordRead_56 : decode cX1_wordRead 56 = .ok (.aload_n 0, 1) := by decide +kernel
theorem dX1_wordRead_57 : decode cX1_wordRead 57 = .ok (.getfield 12, 3) := by decide +kernel
theorem dX1_wordRead_60 : decode cX1_wordRead 60 = .ok (.ldc 87, 2) := by decide +kernel
theorem dX1_wordRead_62 : decode cX1_wordRead 62 = .ok (.invokevirtual 77, 3) := by decide +kernel
theorem dX1_wordRead_65 : decode cX1_wordRead 65 = .ok (.ifCond .eq 5, 3) := by decide +kernel
theorem dX1_wordRead_68 : decode cX1_wordRead 68 = .ok (.iconst 4, 1) := by decide +kernel
theorem dX1_wordRead_69 : decode cX1_wordRead 69 = .ok (.ireturn, 1) := by decide +kernel
theorem dX1_wordRead_70 : decode cX1_wordRead 70 = .ok (.aload_n 0, 1) := by decide +kernel
theorem dX1_wordRead_71 : decode cX1_wordRead 71 = .ok (.getfield 12, 3) := by decide +kernel
theorem dX1_wordRead_74 : decode cX1_wordRead 74 = .ok (.ldc 89, 2) := by decide +kernel
theorem dX1_wordRead_76 : decode cX1_wordRead 76 = .ok (.invokevirtual 77, 3) := by decide +kernel
theorem dX1_wordRead_79 : decode cX1_wordRead 79 = .ok (.ifCond .eq 5, 3) := by decide +kernel
theorem dX1_wordRead_82 : decode cX1_wordRead 82 = .ok (.iconst 5, 1) := by decide +kernel
theorem dX1_wordRead_83 : decode cX1_wordRead 83 = .ok (.ireturn, 1) := by decide +kernel
theorem dX1_wordRead_84 : decode cX1_wordRead 84 = .ok (.aload_n 0, 1) := by decide +kernel
theorem dX1_wordRead_85 : decode cX1_wordRead 85 = .ok (.getfield 12, 3) := by decide +kernel
theorem dX1_wordRead_88 : decode cX1_wordRead 88 = .ok (.ldc 91, 2) := by decide +kernel
theorem dX1_wordRead_90 : decode cX1_wordRead 90 = .ok (.invokevirtual 77, 3) := by decide +kernel
theorem dX1_wordRead_93 : decode cX1_wordRead 93 = .ok (.ifCond .eq 6, 3) := by decide +kernel
theorem dX1_wordRead_96 : decode cX1_wordRead 96 = .ok (.bipush 6, 2) := by decide +kernel
theorem dX1_wordRead_98 : decode cX1_wordRead 98 = .ok (.ireturn, 1) := by decide +kernel
theorem dX1_wordRead_99 : decode cX1_wordRead 99 = .ok (.aload_n 0, 1) := by decide +kernel
theorem dX1_wordRead_100 : decode cX1_wordRead 100 = .ok (.getfield 12, 3) := by decide +kernel
theorem dX1_wordRead_103 : decode cX1_wordRead 103 = .ok (.ldc 93, 2) := by decide +kernel
theorem dX1_wordRead_105 : decode cX1_wordRead 105 = .ok (.invokevirtual 77, 3) := by decide +kernel
theorem dX1_wordRead_108 : decode cX1_wordRead 108 = .ok (.ifCond .eq 8, 3) := by decide +kernel
theorem dX1_wordRead_111 : decode cX1_wordRead 111 = .ok (.bipush 7, 2) := by decide +kernel
theorem dX1_wordRead_113 : decode cX1_wordRead 113 = .ok (.goto 4, 3) := by decide +kernel
theorem dX1_wordRead_116 : decode cX1_wordRead 116 = .ok (.iconst (-1), 1) := by decide +kernel
theorem dX1_wordRead_117 : decode cX1_wordRead 117 = .ok (.ireturn, 1) := by decide +kernel
theorem dX1_readThing_0 : decode cX1_readThing 0 = .ok (.aload_n 0, 1) := by decide +kernel
theorem dX1_readThing_1 : decode cX1_readThing 1 = .ok (.getfield 21, 3) := by decide +kernel
theorem dX1_readThing_4 : decode cX1_readThing 4 = .ok (.getfield 95, 3) := by decide +kernel
theorem dX1_readThing_7 : decode cX1_readThing 7 = .ok (.istore_n 2, 1) := by decide +kernel
theorem dX1_readThing_8 : decode cX1_readThing 8 = .ok (.aload_n 0, 1) := by decide +kernel
theorem dX1_readThing_9 : decode cX1_readThing 9 = .ok (.iload_n 2, 1) := by decide +kernel
theorem dX1_readThing_10 : decode cX1_readThing 10 = .ok (.bipush 6, 2) := by decide +kernel
theorem dX1_readThing_12 : decode cX1_readThing 12 = .ok (.if_icmp .lt 7, 3) := by decide +kernel
theorem dX1_readThing_15 : decode cX1_readThing 15 = .ok (.iconst 1, 1) := by decide +kernel
theorem dX1_readThing_16 : decode cX1_readThing 16 = .ok (.goto 4, 3) := by decide +kernel
theorem dX1_readThing_19 : decode cX1_readThing 19 = .ok (.iconst 0, 1) := by decide +kernel
theorem dX1_readThing_20 : decode cX1_readThing 20 = .ok (.iconst 5, 1) := by decide +kernel
theorem dX1_readThing_21 : decode cX1_readThing 21 = .ok (.invokevirtual 48, 3) := by decide +kernel
theorem dX1_readThing_24 : decode cX1_readThing 24 = .ok (.iload_n 1, 1) := by decide +kernel
theorem dX1_readThing_25 : decode cX1_readThing 25 = .ok (.ifCond .ne 7, 3) := by decide +kernel
theorem dX1_readThing_28 : decode cX1_readThing 28 = .ok (.iload_n 2, 1) := by decide +kernel
theorem dX1_readThing_29 : decode cX1_readThing 29 = .ok (.goto 8, 3) := by decide +kernel
theorem dX1_readThing_32 : decode cX1_readThing 32 = .ok (.aload_n 0, 1) := by decide +kernel
theorem dX1_readThing_33 : decode cX1_readThing 33 = .ok (.iconst 5, 1) := by decide +kernel
theorem dX1_readThing_34 : decode cX1_readThing 34 = .ok (.invokevirtual 98, 3) := by decide +kernel
theorem dX1_readThing_37 : decode cX1_readThing 37 = .ok (.istore_n 3, 1) := by decide +kernel
theorem dX1_readThing_38 : decode cX1_readThing 38 = .ok (.iload_n 1, 1) := by decide +kernel
theorem dX1_readThing_39 : decode cX1_readThing 39 = .ok (.iconst 3, 1) := by decide +kernel
theorem dX1_readThing_40 : decode cX1_readThing 40 = .ok (.if_icmp .eq 8, 3) := by decide +kernel
theorem dX1_readThing_43 : decode cX1_readThing 43 = .ok (.iload_n 1, 1) := by decide +kernel
theorem dX1_readThing_44 : decode cX1_readThing 44 = .ok (.iconst 4, 1) := by decide +kernel
theorem dX1_readThing_45 : decode cX1_readThing 45 = .ok (.if_icmp .ne 11, 3) := by decide +kernel
theorem dX1_readThing_48 : decode cX1_readThing 48 = .ok (.aload_n 0, 1) := by decide +kernel
theorem dX1_readThing_49 : decode cX1_readThing 49 = .ok (.iconst 5, 1) := by decide +kernel
theorem dX1_readThing_50 : decode cX1_readThing 50 = .ok (.invokevirtual 98, 3) := by decide +kernel
theorem dX1_readThing_53 : decode cX1_readThing 53 = .ok (.goto 4, 3) := by decide +kernel
theorem dX1_readThing_56 : decode cX1_readThing 56 = .ok (.iload_n 2, 1) := by decide +kernel
theorem dX1_readThing_57 : decode cX1_readThing 57 = .ok (.istore 4, 2) := by decide +kernel
theorem dX1_readThing_59 : decode cX1_readThing 59 = .ok (.aload_n 0, 1) := by decide +kernel
theorem dX1_readThing_60 : decode cX1_readThing 60 = .ok (.invokevirtual 102, 3) := by decide +kernel
theorem dX1_readThing_63 : decode cX1_readThing 63 = .ok (.aload_n 0, 1) := by decide +kernel
theorem dX1_readThing_64 : decode cX1_readThing 64 = .ok (.getfield 21, 3) := by decide +kernel
theorem dX1_readThing_67 : decode cX1_readThing 67 = .ok (.iload_n 1, 1) := by decide +kernel
theorem dX1_readThing_68 : decode cX1_readThing 68 = .ok (.iload_n 3, 1) := by decide +kernel
theorem dX1_readThing_69 : decode cX1_readThing 69 = .ok (.iload 4, 2) := by decide +kernel
theorem dX1_readThing_71 : decode cX1_readThing 71 = .ok (.invokevirtual 105, 3) := by decide +kernel
theorem dX1_readThing_74 : decode cX1_readThing 74 = .ok (.return_, 1) := by decide +kernel
theorem dX1_readSo_0 : decode cX1_readSo 0 = .ok (.aload_n 0, 1) := by decide +kernel
theorem dX1_readSo_1 : decode cX1_readSo 1 = .ok (.iconst 5, 1) := by decide +kernel
theorem dX1_readSo_2 : decode cX1_readSo 2 = .ok (.invokevirtual 98, 3) := by decide +kernel
theorem dX1_readSo_5 : decode cX1_readSo 5 = .ok (.istore_n 1, 1) := by decide +kernel
theorem dX1_readSo_6 : decode cX1_readSo 6 = .ok (.aload_n 0, 1) := by decide +kernel
theorem dX1_readSo_7 : decode cX1_readSo 7 = .ok (.aload_n 0, 1) := by decide +kernel
theorem dX1_readSo_8 : decode cX1_readSo 8 = .ok (.getfield 21, 3) := by decide +kernel
theorem dX1_readSo_11 : decode cX1_readSo 11 = .ok (.getfield 109, 3) := by decide +kernel
theorem dX1_readSo_14 : decode cX1_readSo 14 = .ok (.iload_n 1, 1) := by decide +kernel
theorem dX1_readSo_15 : decode cX1_readSo 15 = .ok (.invokestatic 112, 3) := by decide +kernel
theorem dX1_readSo_18 : decode cX1_readSo 18 = .ok (.iconst 4, 1) := by decide +kernel
theorem dX1_readSo_19 : decode cX1_readSo 19 = .ok (.invokevirtual 48, 3) := by decide +kernel
theorem dX1_readSo_22 : decode cX1_readSo 22 = .ok (.aload_n 0, 1) := by decide +kernel
theorem dX1_readSo_23 : decode cX1_readSo 23 = .ok (.invokevirtual 102, 3) := by decide +kernel
theorem dX1_readSo_26 : decode cX1_readSo 26 = .ok (.aload_n 0, 1) := by decide +kernel
theorem dX1_readSo_27 : decode cX1_readSo 27 = .ok (.getfield 21, 3) := by decide +kernel
theorem dX1_readSo_30 : decode cX1_readSo 30 = .ok (.dup, 1) := by decide +kernel
theorem dX1_readSo_31 : decode cX1_readSo 31 = .ok (.getfield 109, 3) := by decide +kernel
theorem dX1_readSo_34 : decode cX1_readSo 34 = .ok (.iconst 1, 1) := by decide +kernel
theorem dX1_readSo_35 : decode cX1_readSo 35 = .ok (.iload_n 1, 1) := by decide +kernel
theorem dX1_readSo_36 : decode cX1_readSo 36 = .ok (.ishl, 1) := by decide +kernel
theorem dX1_readSo_37 : decode cX1_readSo 37 = .ok (.ior, 1) := by decide +kernel
theorem dX1_readSo_38 : decode cX1_readSo 38 = .ok (.putfield 109, 3) := by decide +kernel
theorem dX1_readSo_41 : decode cX1_readSo 41 = .ok (.return_, 1) := by decide +kernel
theorem dX1_readGuest_0 : decode cX1_readGuest 0 = .ok (.aload_n 0, 1) := by decide +kernel
theorem dX1_readGuest_1 : decode cX1_readGuest 1 = .ok (.aload_n 0, 1) := by decide +kernel
theorem dX1_readGuest_2 : decode cX1_readGuest 2 = .ok (.getfield 21, 3) := by decide +kernel
theorem dX1_readGuest_5 : decode cX1_readGuest 5 = .ok (.getfield 116, 3) := by decide +kernel
theorem dX1_readGuest_8 : decode cX1_readGuest 8 = .ok (.iconst 4, 1) := by decide +kernel
theorem dX1_readGuest_9 : decode cX1_readGuest 9 = .ok (.if_icmp .lt 7, 3) := by decide +kernel
theorem dX1_readGuest_12 : decode cX1_readGuest 12 = .ok (.iconst 1, 1) := by decide +kernel
theorem dX1_readGuest_13 : decode cX1_readGuest 13 = .ok (.goto 4, 3) := by decide +kernel
theorem dX1_readGuest_16 : decode cX1_readGuest 16 = .ok (.iconst 0, 1) := by decide +kernel
theorem dX1_readGuest_17 : decode cX1_readGuest 17 = .ok (.iconst 5, 1) := by decide +kernel
theorem dX1_readGuest_18 : decode cX1_readGuest 18 = .ok (.invokevirtual 48, 3) := by decide +kernel
theorem dX1_readGuest_21 : decode cX1_readGuest 21 = .ok (.aload_n 0, 1) := by decide +kernel
theorem dX1_readGuest_22 : decode cX1_readGuest 22 = .ok (.iconst 5, 1) := by decide +kernel
theorem dX1_readGuest_23 : decode cX1_readGuest 23 = .ok (.invokevirtual 98, 3) := by decide +kernel
theorem dX1_readGuest_26 : decode cX1_readGuest 26 = .ok (.istore_n 1, 1) := by decide +kernel
theorem dX1_readGuest_27 : decode cX1_readGuest 27 = .ok (.aload_n 0, 1) := by decide +kernel
theorem dX1_readGuest_28 : decode cX1_readGuest 28 = .ok (.bipush 9, 2) := by decide +kernel
theorem dX1_readGuest_30 : decode cX1_readGuest 30 = .ok (.invokevirtual 98, 3) := by decide +kernel
theorem dX1_readGuest_33 : decode cX1_readGuest 33 = .ok (.istore_n 2, 1) := by decide +kernel
theorem dX1_readGuest_34 : decode cX1_readGuest 34 = .ok (.aload_n 0, 1) := by decide +kernel
theorem dX1_readGuest_35 : decode cX1_readGuest 35 = .ok (.invokevirtual 102, 3) := by decide +kernel
theorem dX1_readGuest_38 : decode cX1_readGuest 38 = .ok (.aload_n 0, 1) := by decide +kernel
theorem dX1_readGuest_39 : decode cX1_readGuest 39 = .ok (.getfield 21, 3) := by decide +kernel
theorem dX1_readGuest_42 : decode cX1_readGuest 42 = .ok (.iload_n 1, 1) := by decide +kernel
theorem dX1_readGuest_43 : decode cX1_readGuest 43 = .ok (.iload_n 2, 1) := by decide +kernel
theorem dX1_readGuest_44 : decode cX1_readGuest 44 = .ok (.invokevirtual 119, 3) := by decide +kernel
theorem dX1_readGuest_47 : decode cX1_readGuest 47 = .ok (.return_, 1) := by decide +kernel
theorem dX1_readBan_0 : decode cX1_readBan 0 = .ok (.aload_n 0, 1) := by decide +kernel
theorem dX1_readBan_1 : decode cX1_readBan 1 = .ok (.aload_n 0, 1) := by decide +kernel
theorem dX1_readBan_2 : decode cX1_readBan 2 = .ok (.getfield 21, 3) := by decide +kernel
theorem dX1_readBan_5 : decode cX1_readBan 5 = .ok (.getfield 123, 3) := by decide +kernel
theorem dX1_readBan_8 : decode cX1_readBan 8 = .ok (.iconst 4, 1) := by decide +kernel
theorem dX1_readBan_9 : decode cX1_readBan 9 = .ok (.if_icmp .lt 7, 3) := by decide +kernel
theorem dX1_readBan_12 : decode cX1_readBan 12 = .ok (.iconst 1, 1) := by decide +kernel
theorem dX1_readBan_13 : decode cX1_readBan 13 = .ok (.goto 4, 3) := by decide +kernel
theorem dX1_readBan_16 : decode cX1_readBan 16 = .ok (.iconst 0, 1) := by decide +kernel
theorem dX1_readBan_17 : decode cX1_readBan 17 = .ok (.iconst 5, 1) := by decide +kernel
theorem dX1_readBan_18 : decode cX1_readBan 18 = .ok (.invokevirtual 48, 3) := by decide +kernel
theorem dX1_readBan_21 : decode cX1_readBan 21 = .ok (.aload_n 0, 1) := by decide +kernel
theorem dX1_readBan_22 : decode cX1_readBan 22 = .ok (.iconst 5, 1) := by decide +kernel
theorem dX1_readBan_23 : decode cX1_readBan 23 = .ok (.invokevirtual 98, 3) := by decide +kernel
theorem dX1_readBan_26 : decode cX1_readBan 26 = .ok (.istore_n 1, 1) := by decide +kernel
theorem dX1_readBan_27 : decode cX1_readBan 27 = .ok (.aload_n 0, 1) := by decide +kernel
theorem dX1_readBan_28 : decode cX1_readBan 28 = .ok (.iconst 5, 1) := by decide +kernel
theorem dX1_readBan_29 : decode cX1_readBan 29 = .ok (.invokevirtual 98, 3) := by decide +kernel
theorem dX1_readBan_32 : decode cX1_readBan 32 = .ok (.istore_n 2, 1) := by decide +kernel
theorem dX1_readBan_33 : decode cX1_readBan 33 = .ok (.aload_n 0, 1) := by decide +kernel
theorem dX1_readBan_34 : decode cX1_readBan 34 = .ok (.iload_n 1, 1) := by decide +kernel
theorem dX1_readBan_35 : decode cX1_readBan 35 = .ok (.iload_n 2, 1) := by decide +kernel
theorem dX1_readBan_36 : decode cX1_readBan 36 = .ok (.if_icmp .ne 7, 3) := by decide +kernel
theorem dX1_readBan_39 : decode cX1_readBan 39 = .ok (.iconst 1, 1) := by decide +kernel
theorem dX1_readBan_40 : decode cX1_readBan 40 = .ok (.goto 4, 3) := by decide +kernel
theorem dX1_readBan_43 : decode cX1_readBan 43 = .ok (.iconst 0, 1) := by decide +kernel
theorem dX1_readBan_44 : decode cX1_readBan 44 = .ok (.iconst 3, 1) := by decide +kernel
theorem dX1_readBan_45 : decode cX1_readBan 45 = .ok (.invokevirtual 48, 3) := by decide +kernel
theorem dX1_readBan_48 : decode cX1_readBan 48 = .ok (.aload_n 0, 1) := by decide +kernel
theorem dX1_readBan_49 : decode cX1_readBan 49 = .ok (.invokevirtual 102, 3) := by decide +kernel
theorem dX1_readBan_52 : decode cX1_readBan 52 = .ok (.aload_n 0, 1) := by decide +kernel
theorem dX1_readBan_53 : decode cX1_readBan 53 = .ok (.getfield 21, 3) := by decide +kernel
theorem dX1_readBan_56 : decode cX1_readBan 56 = .ok (.iload_n 1, 1) := by decide +kernel
theorem dX1_readBan_57 : decode cX1_readBan 57 = .ok (.iload_n 2, 1) := by decide +kernel
theorem dX1_readBan_58 : decode cX1_readBan 58 = .ok (.invokevirtual 126, 3) := by decide +kernel
theorem dX1_readBan_61 : decode cX1_readBan 61 = .ok (.return_, 1) := by decide +kernel
theorem dX1_takeNumber_0 : decode cX1_takeNumber 0 = .ok (.aload_n 0, 1) := by decide +kernel
theorem dX1_takeNumber_1 : decode cX1_takeNumber 1 = .ok (.invokevirtual 52, 3) := by decide +kernel
theorem dX1_takeNumber_4 : decode cX1_takeNumber 4 = .ok (.aload_n 0, 1) := by decide +kernel
theorem dX1_takeNumber_5 : decode cX1_takeNumber 5 = .ok (.aload_n 0, 1) := by decide +kernel
theorem dX1_takeNumber_6 : decode cX1_takeNumber 6 = .ok (.getfield 12, 3) := by decide +kernel
theorem dX1_takeNumber_9 : decode cX1_takeNumber 9 = .ok (.getfield 55, 3) := by decide +kernel
theorem dX1_takeNumber_12 : decode cX1_takeNumber 12 = .ok (.iconst 2, 1) := by decide +kernel
theorem dX1_takeNumber_13 : decode cX1_takeNumber 13 = .ok (.if_icmp .eq 7, 3) := by decide +kernel
theorem dX1_takeNumber_16 : decode cX1_takeNumber 16 = .ok (.iconst 1, 1) := by decide +kernel
theorem dX1_takeNumber_17 : decode cX1_takeNumber 17 = .ok (.goto 4, 3) := by decide +kernel
theorem dX1_takeNumber_20 : decode cX1_takeNumber 20 = .ok (.iconst 0, 1) := by decide +kernel
theorem dX1_takeNumber_21 : decode cX1_takeNumber 21 = .ok (.iconst 2, 1) := by decide +kernel
theorem dX1_takeNumber_22 : decode cX1_takeNumber 22 = .ok (.invokevirtual 48, 3) := by decide +kernel
theorem dX1_takeNumber_25 : decode cX1_takeNumber 25 = .ok (.aload_n 0, 1) := by decide +kernel
theorem dX1_takeNumber_26 : decode cX1_takeNumber 26 = .ok (.getfield 31, 3) := by decide +kernel
theorem dX1_takeNumber_29 : decode cX1_takeNumber 29 = .ok (.ifCond .eq 5, 3) := by decide +kernel
theorem dX1_takeNumber_32 : decode cX1_takeNumber 32 = .ok (.iconst 0, 1) := by decide +kernel
theorem dX1_takeNumber_33 : decode cX1_takeNumber 33 = .ok (.ireturn, 1) := by decide +kernel
theorem dX1_takeNumber_34 : decode cX1_takeNumber 34 = .ok (.aload_n 0, 1) := by decide +kernel
theorem dX1_takeNumber_35 : decode cX1_takeNumber 35 = .ok (.getfield 12, 3) := by decide +kernel
theorem dX1_takeNumber_38 : decode cX1_takeNumber 38 = .ok (.invokevirtual 129, 3) := by decide +kernel
theorem dX1_takeNumber_41 : decode cX1_takeNumber 41 = .ok (.istore_n 2, 1) := by decide +kernel
theorem dX1_takeNumber_42 : decode cX1_takeNumber 42 = .ok (.aload_n 0, 1) := by decide +kernel
theorem dX1_takeNumber_43 : decode cX1_takeNumber 43 = .ok (.iload_n 2, 1) := by decide +kernel
theorem dX1_takeNumber_44 : decode cX1_takeNumber 44 = .ok (.iload_n 1, 1) := by decide +kernel
theorem dX1_takeNumber_45 : decode cX1_takeNumber 45 = .ok (.if_icmp .le 7, 3) := by decide +kernel
theorem dX1_takeNumber_48 : decode cX1_takeNumber 48 = .ok (.iconst 1, 1) := by decide +kernel
theorem dX1_takeNumber_49 : decode cX1_takeNumber 49 = .ok (.goto 4, 3) := by decide +kernel
theorem dX1_takeNumber_52 : decode cX1_takeNumber 52 = .ok (.iconst 0, 1) := by decide +kernel
theorem dX1_takeNumber_53 : decode cX1_takeNumber 53 = .ok (.iconst 3, 1) := by decide +kernel
theorem dX1_takeNumber_54 : decode cX1_takeNumber 54 = .ok (.invokevirtual 48, 3) := by decide +kernel
theorem dX1_takeNumber_57 : decode cX1_takeNumber 57 = .ok (.aload_n 0, 1) := by decide +kernel
theorem dX1_takeNumber_58 : decode cX1_takeNumber 58 = .ok (.getfield 31, 3) := by decide +kernel
theorem dX1_takeNumber_61 : decode cX1_takeNumber 61 = .ok (.ifCond .ne 7, 3) := by decide +kernel
theorem dX1_takeNumber_64 : decode cX1_takeNumber 64 = .ok (.iload_n 2, 1) := by decide +kernel
theorem dX1_takeNumber_65 : decode cX1_takeNumber 65 = .ok (.goto 4, 3) := by decide +kernel
theorem dX1_takeNumber_68 : decode cX1_takeNumber 68 = .ok (.iconst 0, 1) := by decide +kernel
theorem dX1_takeNumber_69 : decode cX1_takeNumber 69 = .ok (.ireturn, 1) := by decide +kernel
theorem dX1_takeStop_0 : decode cX1_takeStop 0 = .ok (.aload_n 0, 1) := by decide +kernel
theorem dX1_takeStop_1 : decode cX1_takeStop 1 = .ok (.invokevirtual 52, 3) := by decide +kernel
theorem dX1_takeStop_4 : decode cX1_takeStop 4 = .ok (.aload_n 0, 1) := by decide +kernel
theorem dX1_takeStop_5 : decode cX1_takeStop 5 = .ok (.aload_n 0, 1) := by decide +kernel
theorem dX1_takeStop_6 : decode cX1_takeStop 6 = .ok (.getfield 12, 3) := by decide +kernel
theorem dX1_takeStop_9 : decode cX1_takeStop 9 = .ok (.getfield 55, 3) := by decide +kernel
theorem dX1_takeStop_12 : decode cX1_takeStop 12 = .ok (.iconst 3, 1) := by decide +kernel
theorem dX1_takeStop_13 : decode cX1_takeStop 13 = .ok (.if_icmp .eq 7, 3) := by decide +kernel
theorem dX1_takeStop_16 : decode cX1_takeStop 16 = .ok (.iconst 1, 1) := by decide +kernel
theorem dX1_takeStop_17 : decode cX1_takeStop 17 = .ok (.goto 4, 3) := by decide +kernel
theorem dX1_takeStop_20 : decode cX1_takeStop 20 = .ok (.iconst 0, 1) := by decide +kernel
theorem dX1_takeStop_21 : decode cX1_takeStop 21 = .ok (.iconst 2, 1) := by decide +kernel
theorem dX1_takeStop_22 : decode cX1_takeStop 22 = .ok (.invokevirtual 48, 3) := by decide +kernel
theorem dX1_takeStop_25 : decode cX1_takeStop 25 = .ok (.return_, 1) := by decide +kernel
theorem dX1_takeToken_0 : decode cX1_takeToken 0 = .ok (.aload_n 0, 1) := by decide +kernel
theorem dX1_takeToken_1 : decode cX1_takeToken 1 = .ok (.getfield 31, 3) := by decide +kernel
theorem dX1_takeToken_4 : decode cX1_takeToken 4 = .ok (.ifCond .ne 30, 3) := by decide +kernel
theorem dX1_takeToken_7 : decode cX1_takeToken 7 = .ok (.aload_n 0, 1) := by decide +kernel
theorem dX1_takeToken_8 : decode cX1_takeToken 8 = .ok (.getfield 12, 3) := by decide +kernel
theorem dX1_takeToken_11 : decode cX1_takeToken 11 = .ok (.invokevirtual 132, 3) := by decide +kernel
theorem dX1_takeToken_14 : decode cX1_takeToken 14 = .ok (.aload_n 0, 1) := by decide +kernel
theorem dX1_takeToken_15 : decode cX1_takeToken 15 = .ok (.aload_n 0, 1) := by decide +kernel
theorem dX1_takeToken_16 : decode cX1_takeToken 16 = .ok (.getfield 12, 3) := by decide +kernel
theorem dX1_takeToken_19 : decode cX1_takeToken 19 = .ok (.getfield 55, 3) := by decide +kernel
theorem dX1_takeToken_22 : decode cX1_takeToken 22 = .ok (.ifCond .ne 7, 3) := by decide +kernel
theorem dX1_takeToken_25 : decode cX1_takeToken 25 = .ok (.iconst 1, 1) := by decide +kernel
theorem dX1_takeToken_26 : decode cX1_takeToken 26 = .ok (.goto 4, 3) := by decide +kernel
theorem dX1_takeToken_29 : decode cX1_takeToken 29 = .ok (.iconst 0, 1) := by decide +kernel
theorem dX1_takeToken_30 : decode cX1_takeToken 30 = .ok (.iconst 1, 1) := by decide +kernel
theorem dX1_takeToken_31 : decode cX1_takeToken 31 = .ok (.invokevirtual 48, 3) := by decide +kernel
theorem dX1_takeToken_34 : decode cX1_takeToken 34 = .ok (.return_, 1) := by decide +kernel
theorem dX1_failIf_0 : decode cX1_failIf 0 = .ok (.iload_n 1, 1) := by decide +kernel
theorem dX1_failIf_1 : decode cX1_failIf 1 = .ok (.ifCond .eq 26, 3) := by decide +kernel
theorem dX1_failIf_4 : decode cX1_failIf 4 = .ok (.aload_n 0, 1) := by decide +kernel
theorem dX1_failIf_5 : decode cX1_failIf 5 = .ok (.getfield 31, 3) := by decide +kernel
theorem dX1_failIf_8 : decode cX1_failIf 8 = .ok (.ifCond .ne 19, 3) := by decide +kernel
theorem dX1_failIf_11 : decode cX1_failIf 11 = .ok (.aload_n 0, 1) := by decide +kernel
theorem dX1_failIf_12 : decode cX1_failIf 12 = .ok (.iload_n 2, 1) := by decide +kernel
theorem dX1_failIf_13 : decode cX1_failIf 13 = .ok (.putfield 31, 3) := by decide +kernel
theorem dX1_failIf_16 : decode cX1_failIf 16 = .ok (.aload_n 0, 1) := by decide +kernel
theorem dX1_failIf_17 : decode cX1_failIf 17 = .ok (.aload_n 0, 1) := by decide +kernel
theorem dX1_failIf_18 : decode cX1_failIf 18 = .ok (.getfield 12, 3) := by decide +kernel
theorem dX1_failIf_21 : decode cX1_failIf 21 = .ok (.getfield 135, 3) := by decide +kernel
theorem dX1_failIf_24 : decode cX1_failIf 24 = .ok (.putfield 35, 3) := by decide +kernel
theorem dX1_failIf_27 : decode cX1_failIf 27 = .ok (.return_, 1) := by decide +kernel
theorem dX2_init_0 : decode cX2_init 0 = .ok (.aload_n 0, 1) := by decide +kernel
theorem dX2_init_1 : decode cX2_init 1 = .ok (.invokespecial 3, 3) := by decide +kernel
theorem dX2_init_4 : decode cX2_init 4 = .ok (.aload_n 0, 1) := by decide +kernel
theorem dX2_init_5 : decode cX2_init 5 = .ok (.iconst 4, 1) := by decide +kernel
theorem dX2_init_6 : decode cX2_init 6 = .ok (.newarray .int, 2) := by decide +kernel
theorem dX2_init_8 : decode cX2_init 8 = .ok (.putfield 9, 3) := by decide +kernel
theorem dX2_init_11 : decode cX2_init 11 = .ok (.aload_n 0, 1) := by decide +kernel
theorem dX2_init_12 : decode cX2_init 12 = .ok (.iconst 4, 1) := by decide +kernel
theorem dX2_init_13 : decode cX2_init 13 = .ok (.newarray .int, 2) := by decide +kernel
theorem dX2_init_15 : decode cX2_init 15 = .ok (.putfield 15, 3) := by decide +kernel
theorem dX2_init_18 : decode cX2_init 18 = .ok (.return_, 1) := by decide +kernel
theorem dX2_aimAt_0 : decode cX2_aimAt 0 = .ok (.aload_n 0, 1) := by decide +kernel
theorem dX2_aimAt_1 : decode cX2_aimAt 1 = .ok (.iload_n 1, 1) := by decide +kernel
theorem dX2_aimAt_2 : decode cX2_aimAt 2 = .ok (.putfield 18, 3) := by decide +kernel
theorem dX2_aimAt_5 : decode cX2_aimAt 5 = .ok (.aload_n 0, 1) := by decide +kernel
theorem dX2_aimAt_6 : decode cX2_aimAt 6 = .ok (.iload_n 2, 1) := by decide +kernel
theorem dX2_aimAt_7 : decode cX2_aimAt 7 = .ok (.putfield 22, 3) := by decide +kernel
theorem dX2_aimAt_10 : decode cX2_aimAt 10 = .ok (.aload_n 0, 1) := by decide +kernel
theorem dX2_aimAt_11 : decode cX2_aimAt 11 = .ok (.iconst 0, 1) := by decide +kernel
theorem dX2_aimAt_12 : decode cX2_aimAt 12 = .ok (.putfield 25, 3) := by decide +kernel
theorem dX2_aimAt_15 : decode cX2_aimAt 15 = .ok (.return_, 1) := by decide +kernel
theorem dX2_tryRows_0 : decode cX2_tryRows 0 = .ok (.iconst 0, 1) := by decide +kernel
theorem dX2_tryRows_1 : decode cX2_tryRows 1 = .ok (.istore_n 3, 1) := by decide +kernel
theorem dX2_tryRows_2 : decode cX2_tryRows 2 = .ok (.iload_n 3, 1) := by decide +kernel
theorem dX2_tryRows_3 : decode cX2_tryRows 3 = .ok (.iload_n 2, 1) := by decide +kernel
theorem dX2_tryRows_4 : decode cX2_tryRows 4 = .ok (.if_icmp .ge 16, 3) := by decide +kernel
theorem dX2_tryRows_7 : decode cX2_tryRows 7 = .ok (.aload_n 0, 1) := by decide +kernel
theorem dX2_tryRows_8 : decode cX2_tryRows 8 = .ok (.getfield 9, 3) := by decide +kernel
theorem dX2_tryRows_11 : decode cX2_tryRows 11 = .ok (.iload_n 3, 1) := by decide +kernel
theorem dX2_tryRows_12 : decode cX2_tryRows 12 = .ok (.iconst (-1), 1) := by decide +kernel
theorem dX2_tryRows_13 : decode cX2_tryRows 13 = .ok (.iastore, 1) := by decide +kernel
theorem dX2_tryRows_14 : decode cX2_tryRows 14 = .ok (.iinc 3 1, 3) := by decide +kernel
theorem dX2_tryRows_17 : decode cX2_tryRows 17 = .ok (.goto (-15), 3) := by decide +kernel
theorem dX2_tryRows_20 : decode cX2_tryRows 20 = .ok (.aload_n 1, 1) := by decide +kernel
theorem dX2_tryRows_21 : decode cX2_tryRows 21 = .ok (.getfield 29, 3) := by decide +kernel
theorem dX2_tryRows_24 : decode cX2_tryRows 24 = .ok (.iconst 1, 1) := by decide +kernel
theorem dX2_tryRows_25 : decode cX2_tryRows 25 = .ok (.iadd, 1) := by decide +kernel
theorem dX2_tryRows_26 : decode cX2_tryRows 26 = .ok (.iload_n 2, 1) := by decide +kernel
theorem dX2_tryRows_27 : decode cX2_tryRows 27 = .ok (.invokestatic 34, 3) := by decide +kernel
theorem dX2_tryRows_30 : decode cX2_tryRows 30 = .ok (.l2i, 1) := by decide +kernel
theorem dX2_tryRows_31 : decode cX2_tryRows 31 = .ok (.istore_n 3, 1) := by decide +kernel
theorem dX2_tryRows_32 : decode cX2_tryRows 32 = .ok (.iconst 0, 1) := by decide +kernel
theorem dX2_tryRows_33 : decode cX2_tryRows 33 = .ok (.istore 4, 2) := by decide +kernel
theorem dX2_tryRows_35 : decode cX2_tryRows 35 = .ok (.iload 4, 2) := by decide +kernel
theorem dX2_tryRows_37 : decode cX2_tryRows 37 = .ok (.iload_n 3, 1) := by decide +kernel
theorem dX2_tryRows_38 : decode cX2_tryRows 38 = .ok (.if_icmp .ge 50, 3) := by decide +kernel
theorem dX2_tryRows_41 : decode cX2_tryRows 41 = .ok (.aload_n 0, 1) := by decide +kernel
theorem dX2_tryRows_42 : decode cX2_tryRows 42 = .ok (.aload_n 1, 1) := by decide +kernel
theorem dX2_tryRows_43 : decode cX2_tryRows 43 = .ok (.iload_n 2, 1) := by decide +kernel
theorem dX2_tryRows_44 : decode cX2_tryRows 44 = .ok (.invokevirtual 38, 3) := by decide +kernel
theorem dX2_tryRows_47 : decode cX2_tryRows 47 = .ok (.ifCond .eq 26, 3) := by decide +kernel
theorem dX2_tryRows_50 : decode cX2_tryRows 50 = .ok (.aload_n 0, 1) := by decide +kernel
theorem dX2_tryRows_51 : decode cX2_tryRows 51 = .ok (.getfield 25, 3) := by decide +kernel
theorem dX2_tryRows_54 : decode cX2_tryRows 54 = .ok (.ifCond .eq 14, 3) := by decide +kernel
theorem dX2_tryRows_57 : decode cX2_tryRows 57 = .ok (.aload_n 0, 1) := by decide +kernel
theorem dX2_tryRows_58 : decode cX2_tryRows 58 = .ok (.getfield 42, 3) := by decide +kernel
theorem dX2_tryRows_61 : decode cX2_tryRows 61 = .ok (.aload_n 0, 1) := by decide +kernel
theorem dX2_tryRows_62 : decode cX2_tryRows 62 = .ok (.getfield 45, 3) := by decide +kernel
theorem dX2_tryRows_65 : decode cX2_tryRows 65 = .ok (.if_icmp .ge 8, 3) := by decide +kernel
theorem dX2_tryRows_68 : decode cX2_tryRows 68 = .ok (.aload_n 0, 1) := by decide +kernel
theorem dX2_tryRows_69 : decode cX2_tryRows 69 = .ok (.iload_n 2, 1) := by decide +kernel
theorem dX2_tryRows_70 : decode cX2_tryRows 70 = .ok (.invokevirtual 48, 3) := by decide +kernel
theorem dX2_tryRows_73 : decode cX2_tryRows 73 = .ok (.aload_n 0, 1) := by decide +kernel
theorem dX2_tryRows_74 : decode cX2_tryRows 74 = .ok (.aload_n 1, 1) := by decide +kernel
theorem dX2_tryRows_75 : decode cX2_tryRows 75 = .ok (.getfield 29, 3) := by decide +kernel
theorem dX2_tryRows_78 : decode cX2_tryRows 78 = .ok (.iload_n 2, 1) := by decide +kernel
theorem dX2_tryRows_79 : decode cX2_tryRows 79 = .ok (.invokevirtual 52, 3) := by decide +kernel
theorem dX2_tryRows_82 : decode cX2_tryRows 82 = .ok (.iinc 4 1, 3) := by decide +kernel
theorem dX2_tryRows_85 : decode cX2_tryRows 85 = .ok (.goto (-50), 3) := by decide +kernel
theorem dX2_tryRows_88 : decode cX2_tryRows 88 = .ok (.return_, 1) := by decide +kernel
theorem dX2_succeeds_0 : decode cX2_succeeds 0 = .ok (.aload_n 1, 1) := by decide +kernel
theorem dX2_succeeds_1 : decode cX2_succeeds 1 = .ok (.getfield 56, 3) := by decide +kernel
theorem dX2_succeeds_4 : decode cX2_succeeds 4 = .ok (.istore_n 3, 1) := by decide +kernel
theorem dX2_succeeds_5 : decode cX2_succeeds 5 = .ok (.aload_n 0, 1) := by decide +kernel
theorem dX2_succeeds_6 : decode cX2_succeeds 6 = .ok (.iconst 0, 1) := by decide +kernel
theorem dX2_succeeds_7 : decode cX2_succeeds 7 = .ok (.putfield 42, 3) := by decide +kernel
theorem dX2_succeeds_10 : decode cX2_succeeds 10 = .ok (.iconst 0, 1) := by decide +kernel
theorem dX2_succeeds_11 : decode cX2_succeeds 11 = .ok (.istore 4, 2) := by decide +kernel
theorem dX2_succeeds_13 : decode cX2_succeeds 13 = .ok (.iload 4, 2) := by decide +kernel
theorem dX2_succeeds_15 : decode cX2_succeeds 15 = .ok (.iload_n 2, 1) := by decide +kernel
theorem dX2_succeeds_16 : decode cX2_succeeds 16 = .ok (.if_icmp .ge 81, 3) := by decide +kernel
theorem dX2_succeeds_19 : decode cX2_succeeds 19 = .ok (.aload_n 0, 1) := by decide +kernel
theorem dX2_succeeds_20 : decode cX2_succeeds 20 = .ok (.getfield 9, 3) := by decide +kernel
theorem dX2_succeeds_23 : decode cX2_succeeds 23 = .ok (.iload 4, 2) := by decide +kernel
theorem dX2_succeeds_25 : decode cX2_succeeds 25 = .ok (.iaload, 1) := by decide +kernel
theorem dX2_succeeds_26 : decode cX2_succeeds 26 = .ok (.istore 5, 2) := by decide +kernel
theorem dX2_succeeds_28 : decode cX2_succeeds 28 = .ok (.aload_n 1, 1) := by decide +kernel
theorem dX2_succeeds_29 : decode cX2_succeeds 29 = .ok (.iload 5, 2) := by decide +kernel
theorem dX2_succeeds_31 : decode cX2_succeeds 31 = .ok (.invokevirtual 59, 3) := by decide +kernel
theorem dX2_succeeds_34 : decode cX2_succeeds 34 = .ok (.ifCond .eq 41, 3) := by decide +kernel
theorem dX2_succeeds_37 : decode cX2_succeeds 37 = .ok (.iload_n 3, 1) := by decide +kernel
theorem dX2_succeeds_38 : decode cX2_succeeds 38 = .ok (.aload_n 1, 1) := by decide +kernel
theorem dX2_succeeds_39 : decode cX2_succeeds 39 = .ok (.getfield 63, 3) := by decide +kernel
theorem dX2_succeeds_42 : decode cX2_succeeds 42 = .ok (.iload 5, 2) := by decide +kernel
theorem dX2_succeeds_44 : decode cX2_succeeds 44 = .ok (.iaload, 1) := by decide +kernel
theorem dX2_succeeds_45 : decode cX2_succeeds 45 = .ok (.invokestatic 66, 3) := by decide +kernel
theorem dX2_succeeds_48 : decode cX2_succeeds 48 = .ok (.istore_n 3, 1) := by decide +kernel
theorem dX2_succeeds_49 : decode cX2_succeeds 49 = .ok (.aload_n 0, 1) := by decide +kernel
theorem dX2_succeeds_50 : decode cX2_succeeds 50 = .ok (.dup, 1) := by decide +kernel
theorem dX2_succeeds_51 : decode cX2_succeeds 51 = .ok (.getfield 42, 3) := by decide +kernel
theorem dX2_succeeds_54 : decode cX2_succeeds 54 = .ok (.aload_n 1, 1) := by decide +kernel
theorem dX2_succeeds_55 : decode cX2_succeeds 55 = .ok (.getfield 70, 3) := by decide +kernel
theorem dX2_succeeds_58 : decode cX2_succeeds 58 = .ok (.iload 5, 2) := by decide +kernel
theorem dX2_succeeds_60 : decode cX2_succeeds 60 = .ok (.iaload, 1) := by decide +kernel
theorem dX2_succeeds_61 : decode cX2_succeeds 61 = .ok (.iadd, 1) := by decide +kernel
theorem dX2_succeeds_62 : decode cX2_succeeds 62 = .ok (.putfield 42, 3) := by decide +kernel
theorem dX2_succeeds_65 : decode cX2_succeeds 65 = .ok (.aload_n 1, 1) := by decide +kernel
theorem dX2_succeeds_66 : decode cX2_succeeds 66 = .ok (.iload_n 3, 1) := by decide +kernel
theorem dX2_succeeds_67 : decode cX2_succeeds 67 = .ok (.invokevirtual 73, 3) := by decide +kernel
theorem dX2_succeeds_70 : decode cX2_succeeds 70 = .ok (.ifCond .ne 5, 3) := by decide +kernel
theorem dX2_succeeds_73 : decode cX2_succeeds 73 = .ok (.iconst 0, 1) := by decide +kernel
theorem dX2_succeeds_74 : decode cX2_succeeds 74 = .ok (.ireturn, 1) := by decide +kernel
theorem dX2_succeeds_75 : decode cX2_succeeds 75 = .ok (.aload_n 1, 1) := by decide +kernel
theorem dX2_succeeds_76 : decode cX2_succeeds 76 = .ok (.iload_n 3, 1) := by decide +kernel
theorem dX2_succeeds_77 : decode cX2_succeeds 77 = .ok (.invokevirtual 76, 3) := by decide +kernel
theorem dX2_succeeds_80 : decode cX2_succeeds 80 = .ok (.istore_n 3, 1) := by decide +kernel
theorem dX2_succeeds_81 : decode cX2_succeeds 81 = .ok (.aload_n 1, 1) := by decide +kernel
theorem dX2_succeeds_82 : decode cX2_succeeds 82 = .ok (.iload_n 3, 1) := by decide +kernel
theorem dX2_succeeds_83 : decode cX2_succeeds 83 = .ok (.invokevirtual 73, 3) := by decide +kernel
theorem dX2_succeeds_86 : decode cX2_succeeds 86 = .ok (.ifCond .ne 5, 3) := by decide +kernel
theorem dX2_succeeds_89 : decode cX2_succeeds 89 = .ok (.iconst 0, 1) := by decide +kernel
theorem dX2_succeeds_90 : decode cX2_succeeds 90 = .ok (.ireturn, 1) := by decide +kernel
theorem dX2_succeeds_91 : decode cX2_succeeds 91 = .ok (.iinc 4 1, 3) := by decide +kernel
theorem dX2_succeeds_94 : decode cX2_succeeds 94 = .ok (.goto (-81), 3) := by decide +kernel
theorem dX2_succeeds_97 : decode cX2_succeeds 97 = .ok (.aload_n 0, 1) := by decide +kernel
theorem dX2_succeeds_98 : decode cX2_succeeds 98 = .ok (.getfield 18, 3) := by decide +kernel
theorem dX2_succeeds_101 : decode cX2_succeeds 101 = .ok (.iconst (-1), 1) := by decide +kernel
theorem dX2_succeeds_102 : decode cX2_succeeds 102 = .ok (.if_icmp .ne 11, 3) := by decide +kernel
theorem dX2_succeeds_105 : decode cX2_succeeds 105 = .ok (.aload_n 1, 1) := by decide +kernel
theorem dX2_succeeds_106 : decode cX2_succeeds 106 = .ok (.iload_n 3, 1) := by decide +kernel
theorem dX2_succeeds_107 : decode cX2_succeeds 107 = .ok (.invokevirtual 80, 3) := by decide +kernel
theorem dX2_succeeds_110 : decode cX2_succeeds 110 = .ok (.goto 26, 3) := by decide +kernel
theorem dX2_succeeds_113 : decode cX2_succeeds 113 = .ok (.iload_n 3, 1) := by decide +kernel
theorem dX2_succeeds_114 : decode cX2_succeeds 114 = .ok (.aload_n 0, 1) := by decide +kernel
theorem dX2_succeeds_115 : decode cX2_succeeds 115 = .ok (.getfield 18, 3) := by decide +kernel
theorem dX2_succeeds_118 : decode cX2_succeeds 118 = .ok (.invokestatic 83, 3) := by decide +kernel
theorem dX2_succeeds_121 : decode cX2_succeeds 121 = .ok (.invokestatic 87, 3) := by decide +kernel
theorem dX2_succeeds_124 : decode cX2_succeeds 124 = .ok (.aload_n 0, 1) := by decide +kernel
theorem dX2_succeeds_125 : decode cX2_succeeds 125 = .ok (.getfield 22, 3) := by decide +kernel
theorem dX2_succeeds_128 : decode cX2_succeeds 128 = .ok (.if_icmp .ne 7, 3) := by decide +kernel
theorem dX2_succeeds_131 : decode cX2_succeeds 131 = .ok (.iconst 1, 1) := by decide +kernel
theorem dX2_succeeds_132 : decode cX2_succeeds 132 = .ok (.goto 4, 3) := by decide +kernel
theorem dX2_succeeds_135 : decode cX2_succeeds 135 = .ok (.iconst 0, 1) := by decide +kernel
theorem dX2_succeeds_136 : decode cX2_succeeds 136 = .ok (.ireturn, 1) := by decide +kernel
theorem dX2_holdRow_0 : decode cX2_holdRow 0 = .ok (.aload_n 0, 1) := by decide +kernel
theorem dX2_holdRow_1 : decode cX2_holdRow 1 = .ok (.getfield 9, 3) := by decide +kernel
theorem dX2_holdRow_4 : decode cX2_holdRow 4 = .ok (.iconst 0, 1) := by decide +kernel
theorem dX2_holdRow_5 : decode cX2_holdRow 5 = .ok (.aload_n 0, 1) := by decide +kernel
theorem dX2_holdRow_6 : decode cX2_holdRow 6 = .ok (.getfield 15, 3) := by decide +kernel
theorem dX2_holdRow_9 : decode cX2_holdRow 9 = .ok (.iconst 0, 1) := by decide +kernel
theorem dX2_holdRow_10 : decode cX2_holdRow 10 = .ok (.iload_n 1, 1) := by decide +kernel
theorem dX2_holdRow_11 : decode cX2_holdRow 11 = .ok (.invokestatic 91, 3) := by decide +kernel
theorem dX2_holdRow_14 : decode cX2_holdRow 14 = .ok (.aload_n 0, 1) := by decide +kernel
theorem dX2_holdRow_15 : decode cX2_holdRow 15 = .ok (.iload_n 1, 1) := by decide +kernel
theorem dX2_holdRow_16 : decode cX2_holdRow 16 = .ok (.putfield 97, 3) := by decide +kernel
theorem dX2_holdRow_19 : decode cX2_holdRow 19 = .ok (.aload_n 0, 1) := by decide +kernel
theorem dX2_holdRow_20 : decode cX2_holdRow 20 = .ok (.aload_n 0, 1) := by decide +kernel
theorem dX2_holdRow_21 : decode cX2_holdRow 21 = .ok (.getfield 42, 3) := by decide +kernel
theorem dX2_holdRow_24 : decode cX2_holdRow 24 = .ok (.putfield 45, 3) := by decide +kernel
theorem dX2_holdRow_27 : decode cX2_holdRow 27 = .ok (.aload_n 0, 1) := by decide +kernel
theorem dX2_holdRow_28 : decode cX2_holdRow 28 = .ok (.iconst 1, 1) := by decide +kernel
theorem dX2_holdRow_29 : decode cX2_holdRow 29 = .ok (.putfield 25, 3) := by decide +kernel
theorem dX2_holdRow_32 : decode cX2_holdRow 32 = .ok (.return_, 1) := by decide +kernel
theorem dX2_turnRow_0 : decode cX2_turnRow 0 = .ok (.iload_n 2, 1) := by decide +kernel
theorem dX2_turnRow_1 : decode cX2_turnRow 1 = .ok (.iconst 1, 1) := by decide +kernel
theorem dX2_turnRow_2 : decode cX2_turnRow 2 = .ok (.isub, 1) := by decide +kernel
theorem dX2_turnRow_3 : decode cX2_turnRow 3 = .ok (.istore_n 3, 1) := by decide +kernel
theorem dX2_turnRow_4 : decode cX2_turnRow 4 = .ok (.iload_n 3, 1) := by decide +kernel
theorem dX2_turnRow_5 : decode cX2_turnRow 5 = .ok (.ifCond .lt 39, 3) := by decide +kernel
theorem dX2_turnRow_8 : decode cX2_turnRow 8 = .ok (.aload_n 0, 1) := by decide +kernel
theorem dX2_turnRow_9 : decode cX2_turnRow 9 = .ok (.getfield 9, 3) := by decide +kernel
theorem dX2_turnRow_12 : decode cX2_turnRow 12 = .ok (.iload_n 3, 1) := by decide +kernel
theorem dX2_turnRow_13 : decode cX2_turnRow 13 = .ok (.iaload, 1) := by decide +kernel
theorem dX2_turnRow_14 : decode cX2_turnRow 14 = .ok (.iconst 1, 1) := by decide +kernel
theorem dX2_turnRow_15 : decode cX2_turnRow 15 = .ok (.iadd, 1) := by decide +kernel
theorem dX2_turnRow_16 : decode cX2_turnRow 16 = .ok (.iload_n 1, 1) := by decide +kernel
theorem dX2_turnRow_17 : decode cX2_turnRow 17 = .ok (.if_icmp .ge 14, 3) := by decide +kernel
theorem dX2_turnRow_20 : decode cX2_turnRow 20 = .ok (.aload_n 0, 1) := by decide +kernel
theorem dX2_turnRow_21 : decode cX2_turnRow 21 = .ok (.getfield 9, 3) := by decide +kernel
theorem dX2_turnRow_24 : decode cX2_turnRow 24 = .ok (.iload_n 3, 1) := by decide +kernel
theorem dX2_turnRow_25 : decode cX2_turnRow 25 = .ok (.dup2, 1) := by decide +kernel
theorem dX2_turnRow_26 : decode cX2_turnRow 26 = .ok (.iaload, 1) := by decide +kernel
theorem dX2_turnRow_27 : decode cX2_turnRow 27 = .ok (.iconst 1, 1) := by decide +kernel
theorem dX2_turnRow_28 : decode cX2_turnRow 28 = .ok (.iadd, 1) := by decide +kernel
theorem dX2_turnRow_29 : decode cX2_turnRow 29 = .ok (.iastore, 1) := by decide +kernel
theorem dX2_turnRow_30 : decode cX2_turnRow 30 = .ok (.return_, 1) := by decide +kernel
theorem dX2_turnRow_31 : decode cX2_turnRow 31 = .ok (.aload_n 0, 1) := by decide +kernel
theorem dX2_turnRow_32 : decode cX2_turnRow 32 = .ok (.getfield 9, 3) := by decide +kernel
theorem dX2_turnRow_35 : decode cX2_turnRow 35 = .ok (.iload_n 3, 1) := by decide +kernel
theorem dX2_turnRow_36 : decode cX2_turnRow 36 = .ok (.iconst (-1), 1) := by decide +kernel
theorem dX2_turnRow_37 : decode cX2_turnRow 37 = .ok (.iastore, 1) := by decide +kernel
theorem dX2_turnRow_38 : decode cX2_turnRow 38 = .ok (.iinc 3 (-1), 3) := by decide +kernel
theorem dX2_turnRow_41 : decode cX2_turnRow 41 = .ok (.goto (-37), 3) := by decide +kernel
theorem dX2_turnRow_44 : decode cX2_turnRow 44 = .ok (.return_, 1) := by decide +kernel
theorem dX2_guestAhead_0 : decode cX2_guestAhead 0 = .ok (.aload_n 0, 1) := by decide +kernel
theorem dX2_guestAhead_1 : decode cX2_guestAhead 1 = .ok (.getfield 25, 3) := by decide +kernel
theorem dX2_guestAhead_4 : decode cX2_guestAhead 4 = .ok (.ifCond .eq 25, 3) := by decide +kernel
theorem dX2_guestAhead_7 : decode cX2_guestAhead 7 = .ok (.iload_n 1, 1) := by decide +kernel
theorem dX2_guestAhead_8 : decode cX2_guestAhead 8 = .ok (.ifCond .lt 21, 3) := by decide +kernel
theorem dX2_guestAhead_11 : decode cX2_guestAhead 11 = .ok (.iload_n 1, 1) := by decide +kernel
theorem dX2_guestAhead_12 : decode cX2_guestAhead 12 = .ok (.aload_n 0, 1) := by decide +kernel
theorem dX2_guestAhead_13 : decode cX2_guestAhead 13 = .ok (.getfield 97, 3) := by decide +kernel
theorem dX2_guestAhead_16 : decode cX2_guestAhead 16 = .ok (.if_icmp .ge 13, 3) := by decide +kernel
theorem dX2_guestAhead_19 : decode cX2_guestAhead 19 = .ok (.aload_n 0, 1) := by decide +kernel
theorem dX2_guestAhead_20 : decode cX2_guestAhead 20 = .ok (.getfield 15, 3) := by decide +kernel
theorem dX2_guestAhead_23 : decode cX2_guestAhead 23 = .ok (.iload_n 1, 1) := by decide +kernel
theorem dX2_guestAhead_24 : decode cX2_guestAhead 24 = .ok (.iaload, 1) := by decide +kernel
theorem dX2_guestAhead_25 : decode cX2_guestAhead 25 = .ok (.iconst (-1), 1) := by decide +kernel
theorem dX2_guestAhead_26 : decode cX2_guestAhead 26 = .ok (.if_icmp .ne 6, 3) := by decide +kernel
theorem dX2_guestAhead_29 : decode cX2_guestAhead 29 = .ok (.bipush (-4), 2) := by decide +kernel
theorem dX2_guestAhead_31 : decode cX2_guestAhead 31 = .ok (.ireturn, 1) := by decide +kernel
theorem dX2_guestAhead_32 : decode cX2_guestAhead 32 = .ok (.aload_n 0, 1) := by decide +kernel
theorem dX2_guestAhead_33 : decode cX2_guestAhead 33 = .ok (.getfield 15, 3) := by decide +kernel
theorem dX2_guestAhead_36 : decode cX2_guestAhead 36 = .ok (.iload_n 1, 1) := by decide +kernel
theorem dX2_guestAhead_37 : decode cX2_guestAhead 37 = .ok (.iaload, 1) := by decide +kernel
theorem dX2_guestAhead_38 : decode cX2_guestAhead 38 = .ok (.ireturn, 1) := by decide +kernel
theorem dX3_init_0 : decode cX3_init 0 = .ok (.aload_n 0, 1) := by decide +kernel
theorem dX3_init_1 : decode cX3_init 1 = .ok (.invokespecial 3, 3) := by decide +kernel
theorem dX3_init_4 : decode cX3_init 4 = .ok (.aload_n 0, 1) := by decide +kernel
theorem dX3_init_5 : decode cX3_init 5 = .ok (.iconst (-1), 1) := by decide +kernel
theorem dX3_init_6 : decode cX3_init 6 = .ok (.putfield 9, 3) := by decide +kernel
theorem dX3_init_9 : decode cX3_init 9 = .ok (.aload_n 0, 1) := by decide +kernel
theorem dX3_init_10 : decode cX3_init 10 = .ok (.bipush 40, 2) := by decide +kernel
theorem dX3_init_12 : decode cX3_init 12 = .ok (.newarray .int, 2) := by decide +kernel
theorem dX3_init_14 : decode cX3_init 14 = .ok (.putfield 15, 3) := by decide +kernel
theorem dX3_init_17 : decode cX3_init 17 = .ok (.return_, 1) := by decide +kernel
theorem dX3_renew_0 : decode cX3_renew 0 = .ok (.aload_n 0, 1) := by decide +kernel
theorem dX3_renew_1 : decode cX3_renew 1 = .ok (.iload_n 1, 1) := by decide +kernel
theorem dX3_renew_2 : decode cX3_renew 2 = .ok (.putfield 9, 3) := by decide +kernel
theorem dX3_renew_5 : decode cX3_renew 5 = .ok (.aload_n 0, 1) := by decide +kernel
theorem dX3_renew_6 : decode cX3_renew 6 = .ok (.iload_n 2, 1) := by decide +kernel
theorem dX3_renew_7 : decode cX3_renew 7 = .ok (.putfield 19, 3) := by decide +kernel
theorem dX3_renew_10 : decode cX3_renew 10 = .ok (.iconst 0, 1) := by decide +kernel
theorem dX3_renew_11 : decode cX3_renew 11 = .ok (.istore_n 3, 1) := by decide +kernel
theorem dX3_renew_12 : decode cX3_renew 12 = .ok (.iload_n 3, 1) := by decide +kernel
theorem dX3_renew_13 : decode cX3_renew 13 = .ok (.bipush 40, 2) := by decide +kernel
theorem dX3_renew_15 : decode cX3_renew 15 = .ok (.if_icmp .ge 16, 3) := by decide +kernel
theorem dX3_renew_18 : decode cX3_renew 18 = .ok (.aload_n 0, 1) := by decide +kernel
theorem dX3_renew_19 : decode cX3_renew 19 = .ok (.getfield 15, 3) := by decide +kernel
theorem dX3_renew_22 : decode cX3_renew 22 = .ok (.iload_n 3, 1) := by decide +kernel
theorem dX3_renew_23 : decode cX3_renew 23 = .ok (.iconst 0, 1) := by decide +kernel
theorem dX3_renew_24 : decode cX3_renew 24 = .ok (.iastore, 1) := by decide +kernel
theorem dX3_renew_25 : decode cX3_renew 25 = .ok (.iinc 3 1, 3) := by decide +kernel
theorem dX3_renew_28 : decode cX3_renew 28 = .ok (.goto (-16), 3) := by decide +kernel
theorem dX3_renew_31 : decode cX3_renew 31 = .ok (.return_, 1) := by decide +kernel
theorem dX3_refusal_0 : decode cX3_refusal 0 = .ok (.aload_n 0, 1) := by decide +kernel
theorem dX3_refusal_1 : decode cX3_refusal 1 = .ok (.getfield 9, 3) := by decide +kernel
theorem dX3_refusal_4 : decode cX3_refusal 4 = .ok (.iconst (-1), 1) := by decide +kernel
theorem dX3_refusal_5 : decode cX3_refusal 5 = .ok (.if_icmp .ne 5, 3) := by decide +kernel
theorem dX3_refusal_8 : decode cX3_refusal 8 = .ok (.iconst 1, 1) := by decide +kernel
theorem dX3_refusal_9 : decode cX3_refusal 9 = .ok (.ireturn, 1) := by decide +kernel
theorem dX3_refusal_10 : decode cX3_refusal 10 = .ok (.aload_n 0, 1) := by decide +kernel
theorem dX3_refusal_11 : decode cX3_refusal 11 = .ok (.getfield 9, 3) := by decide +kernel
theorem dX3_refusal_14 : decode cX3_refusal 14 = .ok (.iload_n 1, 1) := by decide +kernel
theorem dX3_refusal_15 : decode cX3_refusal 15 = .ok (.if_icmp .eq 5, 3) := by decide +kernel
theorem dX3_refusal_18 : decode cX3_refusal 18 = .ok (.iconst 3, 1) := by decide +kernel
theorem dX3_refusal_19 : decode cX3_refusal 19 = .ok (.ireturn, 1) := by decide +kernel
theorem dX3_refusal_20 : decode cX3_refusal 20 = .ok (.iload_n 2, 1) := by decide +kernel
theorem dX3_refusal_21 : decode cX3_refusal 21 = .ok (.ifCond .lt 11, 3) := by decide +kernel
theorem dX3_refusal_24 : decode cX3_refusal 24 = .ok (.iload_n 2, 1) := by decide +kernel
theorem dX3_refusal_25 : decode cX3_refusal 25 = .ok (.aload_n 0, 1) := by decide +kernel
theorem dX3_refusal_26 : decode cX3_refusal 26 = .ok (.getfield 19, 3) := by decide +kernel
theorem dX3_refusal_29 : decode cX3_refusal 29 = .ok (.if_icmp .lt 7, 3) := by decide +kernel
theorem dX3_refusal_32 : decode cX3_refusal 32 = .ok (.iconst 2, 1) := by decide +kernel
theorem dX3_refusal_33 : decode cX3_refusal 33 = .ok (.goto 4, 3) := by decide +kernel
theorem dX3_refusal_36 : decode cX3_refusal 36 = .ok (.iconst 0, 1) := by decide +kernel
theorem dX3_refusal_37 : decode cX3_refusal 37 = .ok (.ireturn, 1) := by decide +kernel
theorem dX3_put_0 : decode cX3_put 0 = .ok (.iload_n 1, 1) := by decide +kernel
theorem dX3_put_1 : decode cX3_put 1 = .ok (.ifCond .lt 43, 3) := by decide +kernel
theorem dX3_put_4 : decode cX3_put 4 = .ok (.iload_n 1, 1) := by decide +kernel
theorem dX3_put_5 : decode cX3_put 5 = .ok (.aload_n 0, 1) := by decide +kernel
theorem dX3_put_6 : decode cX3_put 6 = .ok (.getfield 19, 3) := by decide +kernel
theorem dX3_put_9 : decode cX3_put 9 = .ok (.if_icmp .ge 35, 3) := by decide +kernel
theorem dX3_put_12 : decode cX3_put 12 = .ok (.aload_n 0, 1) := by decide +kernel
theorem dX3_put_13 : decode cX3_put 13 = .ok (.getfield 15, 3) := by decide +kernel
theorem dX3_put_16 : decode cX3_put 16 = .ok (.iload_n 1, 1) := by decide +kernel
theorem dX3_put_17 : decode cX3_put 17 = .ok (.aload_n 0, 1) := by decide +kernel
theorem dX3_put_18 : decode cX3_put 18 = .ok (.getfield 9, 3) := by decide +kernel
theorem dX3_put_21 : decode cX3_put 21 = .ok (.ifCond .ne 8, 3) := by decide +kernel
theorem dX3_put_24 : decode cX3_put 24 = .ok (.iload_n 2, 1) := by decide +kernel
theorem dX3_put_25 : decode cX3_put 25 = .ok (.i2b, 1) := by decide +kernel
theorem dX3_put_26 : decode cX3_put 26 = .ok (.goto 17, 3) := by decide +kernel
theorem dX3_put_29 : decode cX3_put 29 = .ok (.aload_n 0, 1) := by decide +kernel
theorem dX3_put_30 : decode cX3_put 30 = .ok (.getfield 9, 3) := by decide +kernel
theorem dX3_put_33 : decode cX3_put 33 = .ok (.iconst 1, 1) := by decide +kernel
theorem dX3_put_34 : decode cX3_put 34 = .ok (.if_icmp .ne 8, 3) := by decide +kernel
theorem dX3_put_37 : decode cX3_put 37 = .ok (.iload_n 2, 1) := by decide +kernel
theorem dX3_put_38 : decode cX3_put 38 = .ok (.i2s, 1) := by decide +kernel
theorem dX3_put_39 : decode cX3_put 39 = .ok (.goto 4, 3) := by decide +kernel
theorem dX3_put_42 : decode cX3_put 42 = .ok (.iload_n 2, 1) := by decide +kernel
theorem dX3_put_43 : decode cX3_put 43 = .ok (.iastore, 1) := by decide +kernel
theorem dX3_put_44 : decode cX3_put 44 = .ok (.return_, 1) := by decide +kernel
theorem dX4_init_0 : decode cX4_init 0 = .ok (.aload_n 0, 1) := by decide +kernel
theorem dX4_init_1 : decode cX4_init 1 = .ok (.invokespecial 3, 3) := by decide +kernel
theorem dX4_init_4 : decode cX4_init 4 = .ok (.aload_n 0, 1) := by decide +kernel
theorem dX4_init_5 : decode cX4_init 5 = .ok (.bipush 6, 2) := by decide +kernel
theorem dX4_init_7 : decode cX4_init 7 = .ok (.newarray .int, 2) := by decide +kernel
theorem dX4_init_9 : decode cX4_init 9 = .ok (.putfield 9, 3) := by decide +kernel
theorem dX4_init_12 : decode cX4_init 12 = .ok (.aload_n 0, 1) := by decide +kernel
theorem dX4_init_13 : decode cX4_init 13 = .ok (.bipush 6, 2) := by decide +kernel
theorem dX4_init_15 : decode cX4_init 15 = .ok (.newarray .int, 2) := by decide +kernel
theorem dX4_init_17 : decode cX4_init 17 = .ok (.putfield 15, 3) := by decide +kernel
theorem dX4_init_20 : decode cX4_init 20 = .ok (.aload_n 0, 1) := by decide +kernel
theorem dX4_init_21 : decode cX4_init 21 = .ok (.bipush 6, 2) := by decide +kernel
theorem dX4_init_23 : decode cX4_init 23 = .ok (.newarray .boolean, 2) := by decide +kernel
theorem dX4_init_25 : decode cX4_init 25 = .ok (.putfield 18, 3) := by decide +kernel
theorem dX4_init_28 : decode cX4_init 28 = .ok (.aload_n 0, 1) := by decide +kernel
theorem dX4_init_29 : decode cX4_init 29 = .ok (.bipush 64, 2) := by decide +kernel
theorem dX4_init_31 : decode cX4_init 31 = .ok (.newarray .int, 2) := by decide +kernel
theorem dX4_init_33 : decode cX4_init 33 = .ok (.putfield 22, 3) := by decide +kernel
theorem dX4_init_36 : decode cX4_init 36 = .ok (.return_, 1) := by decide +kernel
theorem dX4_add_0 : decode cX4_add 0 = .ok (.aload_n 0, 1) := by decide +kernel
theorem dX4_add_1 : decode cX4_add 1 = .ok (.getfield 25, 3) := by decide +kernel
theorem dX4_add_4 : decode cX4_add 4 = .ok (.bipush 6, 2) := by decide +kernel
theorem dX4_add_6 : decode cX4_add 6 = .ok (.if_icmp .ge 43, 3) := by decide +kernel
theorem dX4_add_9 : decode cX4_add 9 = .ok (.aload_n 0, 1) := by decide +kernel
theorem dX4_add_10 : decode cX4_add 10 = .ok (.getfield 9, 3) := by decide +kernel
theorem dX4_add_13 : decode cX4_add 13 = .ok (.aload_n 0, 1) := by decide +kernel
theorem dX4_add_14 : decode cX4_add 14 = .ok (.getfield 25, 3) := by decide +kernel
theorem dX4_add_17 : decode cX4_add 17 = .ok (.iload_n 1, 1) := by decide +kernel
theorem dX4_add_18 : decode cX4_add 18 = .ok (.iastore, 1) := by decide +kernel
theorem dX4_add_19 : decode cX4_add 19 = .ok (.aload_n 0, 1) := by decide +kernel
theorem dX4_add_20 : decode cX4_add 20 = .ok (.getfield 15, 3) := by decide +kernel
theorem dX4_add_23 : decode cX4_add 23 = .ok (.aload_n 0, 1) := by decide +kernel
theorem dX4_add_24 : decode cX4_add 24 = .ok (.getfield 25, 3) := by decide +kernel
theorem dX4_add_27 : decode cX4_add 27 = .ok (.iload_n 2, 1) := by decide +kernel
theorem dX4_add_28 : decode cX4_add 28 = .ok (.iastore, 1) := by decide +kernel
theorem dX4_add_29 : decode cX4_add 29 = .ok (.aload_n 0, 1) := by decide +kernel
theorem dX4_add_30 : decode cX4_add 30 = .ok (.getfield 18, 3) := by decide +kernel
theorem dX4_add_33 : decode cX4_add 33 = .ok (.aload_n 0, 1) := by decide +kernel
theorem dX4_add_34 : decode cX4_add 34 = .ok (.getfield 25, 3) := by decide +kernel
theorem dX4_add_37 : decode cX4_add 37 = .ok (.iload_n 3, 1) := by decide +kernel
theorem dX4_add_38 : decode cX4_add 38 = .ok (.bastore, 1) := by decide +kernel
theorem dX4_add_39 : decode cX4_add 39 = .ok (.aload_n 0, 1) := by decide +kernel
theorem dX4_add_40 : decode cX4_add 40 = .ok (.dup, 1) := by decide +kernel
theorem dX4_add_41 : decode cX4_add 41 = .ok (.getfield 25, 3) := by decide +kernel
theorem dX4_add_44 : decode cX4_add 44 = .ok (.iconst 1, 1) := by decide +kernel
theorem dX4_add_45 : decode cX4_add 45 = .ok (.iadd, 1) := by decide +kernel
theorem dX4_add_46 : decode cX4_add 46 = .ok (.putfield 25, 3) := by decide +kernel
theorem dX4_add_49 : decode cX4_add 49 = .ok (.return_, 1) := by decide +kernel
theorem dX4_suit_0 : decode cX4_suit 0 = .ok (.iload_n 2, 1) := by decide +kernel
theorem dX4_suit_1 : decode cX4_suit 1 = .ok (.istore_n 3, 1) := by decide +kernel
theorem dX4_suit_2 : decode cX4_suit 2 = .ok (.iconst 0, 1) := by decide +kernel
theorem dX4_suit_3 : decode cX4_suit 3 = .ok (.istore 4, 2) := by decide +kernel
theorem dX4_suit_5 : decode cX4_suit 5 = .ok (.iload 4, 2) := by decide +kernel
theorem dX4_suit_7 : decode cX4_suit 7 = .ok (.bipush 9, 2) := by decide +kernel
theorem dX4_suit_9 : decode cX4_suit 9 = .ok (.if_icmp .gt 27, 3) := by decide +kernel
theorem dX4_suit_12 : decode cX4_suit 12 = .ok (.aload_n 0, 1) := by decide +kernel
theorem dX4_suit_13 : decode cX4_suit 13 = .ok (.iload 4, 2) := by decide +kernel
theorem dX4_suit_15 : decode cX4_suit 15 = .ok (.iload_n 3, 1) := by decide +kernel
theorem dX4_suit_16 : decode cX4_suit 16 = .ok (.invokevirtual 29, 3) := by decide +kernel
theorem dX4_suit_19 : decode cX4_suit 19 = .ok (.ifCond .ne 5, 3) := by decide +kernel
theorem dX4_suit_22 : decode cX4_suit 22 = .ok (.iconst 0, 1) := by decide +kernel
theorem dX4_suit_23 : decode cX4_suit 23 = .ok (.ireturn, 1) := by decide +kernel
theorem dX4_suit_24 : decode cX4_suit 24 = .ok (.aload_n 1, 1) := by decide +kernel
theorem dX4_suit_25 : decode cX4_suit 25 = .ok (.iload_n 3, 1) := by decide +kernel
theorem dX4_suit_26 : decode cX4_suit 26 = .ok (.invokevirtual 33, 3) := by decide +kernel
theorem dX4_suit_29 : decode cX4_suit 29 = .ok (.istore_n 3, 1) := by decide +kernel
theorem dX4_suit_30 : decode cX4_suit 30 = .ok (.iinc 4 1, 3) := by decide +kernel
theorem dX4_suit_33 : decode cX4_suit 33 = .ok (.goto (-28), 3) := by decide +kernel
theorem dX4_suit_36 : decode cX4_suit 36 = .ok (.iconst 1, 1) := by decide +kernel
theorem dX4_suit_37 : decode cX4_suit 37 = .ok (.ireturn, 1) := by decide +kernel
theorem dX4_suitYear_0 : decode cX4_suitYear 0 = .ok (.iconst 0, 1) := by decide +kernel
theorem dX4_suitYear_1 : decode cX4_suitYear 1 = .ok (.istore_n 3, 1) := by decide +kernel
theorem dX4_suitYear_2 : decode cX4_suitYear 2 = .ok (.iload_n 3, 1) := by decide +kernel
theorem dX4_suitYear_3 : decode cX4_suitYear 3 = .ok (.aload_n 0, 1) := by decide +kernel
theorem dX4_suitYear_4 : decode cX4_suitYear 4 = .ok (.getfield 25, 3) := by decide +kernel
theorem dX4_suitYear_7 : decode cX4_suitYear 7 = .ok (.if_icmp .ge 40, 3) := by decide +kernel
theorem dX4_suitYear_10 : decode cX4_suitYear 10 = .ok (.aload_n 0, 1) := by decide +kernel
theorem dX4_suitYear_11 : decode cX4_suitYear 11 = .ok (.getfield 15, 3) := by decide +kernel
theorem dX4_suitYear_14 : decode cX4_suitYear 14 = .ok (.iload_n 3, 1) := by decide +kernel
theorem dX4_suitYear_15 : decode cX4_suitYear 15 = .ok (.iaload, 1) := by decide +kernel
theorem dX4_suitYear_16 : decode cX4_suitYear 16 = .ok (.iload_n 1, 1) := by decide +kernel
theorem dX4_suitYear_17 : decode cX4_suitYear 17 = .ok (.if_icmp .ne 24, 3) := by decide +kernel
theorem dX4_suitYear_20 : decode cX4_suitYear 20 = .ok (.iload_n 2, 1) := by decide +kernel
theorem dX4_suitYear_21 : decode cX4_suitYear 21 = .ok (.aload_n 0, 1) := by decide +kernel
theorem dX4_suitYear_22 : decode cX4_suitYear 22 = .ok (.getfield 9, 3) := by decide +kernel
theorem dX4_suitYear_25 : decode cX4_suitYear 25 = .ok (.iload_n 3, 1) := by decide +kernel
theorem dX4_suitYear_26 : decode cX4_suitYear 26 = .ok (.iaload, 1) := by decide +kernel
theorem dX4_suitYear_27 : decode cX4_suitYear 27 = .ok (.invokestatic 39, 3) := by decide +kernel
theorem dX4_suitYear_30 : decode cX4_suitYear 30 = .ok (.aload_n 0, 1) := by decide +kernel
theorem dX4_suitYear_31 : decode cX4_suitYear 31 = .ok (.getfield 18, 3) := by decide +kernel
theorem dX4_suitYear_34 : decode cX4_suitYear 34 = .ok (.iload_n 3, 1) := by decide +kernel
theorem dX4_suitYear_35 : decode cX4_suitYear 35 = .ok (.baload, 1) := by decide +kernel
theorem dX4_suitYear_36 : decode cX4_suitYear 36 = .ok (.if_icmp .eq 5, 3) := by decide +kernel
theorem dX4_suitYear_39 : decode cX4_suitYear 39 = .ok (.iconst 0, 1) := by decide +kernel
theorem dX4_suitYear_40 : decode cX4_suitYear 40 = .ok (.ireturn, 1) := by decide +kernel
theorem dX4_suitYear_41 : decode cX4_suitYear 41 = .ok (.iinc 3 1, 3) := by decide +kernel
theorem dX4_suitYear_44 : decode cX4_suitYear 44 = .ok (.goto (-42), 3) := by decide +kernel
theorem dX4_suitYear_47 : decode cX4_suitYear 47 = .ok (.iconst 1, 1) := by decide +kernel
theorem dX4_suitYear_48 : decode cX4_suitYear 48 = .ok (.ireturn, 1) := by decide +kernel
theorem dX4_gather_0 : decode cX4_gather 0 = .ok (.aload_n 0, 1) := by decide +kernel
theorem dX4_gather_1 : decode cX4_gather 1 = .ok (.iconst 0, 1) := by decide +kernel
theorem dX4_gather_2 : decode cX4_gather 2 = .ok (.putfield 42, 3) := by decide +kernel
theorem dX4_gather_5 : decode cX4_gather 5 = .ok (.iconst 0, 1) := by decide +kernel
theorem dX4_gather_6 : decode cX4_gather 6 = .ok (.istore_n 2, 1) := by decide +kernel
theorem dX4_gather_7 : decode cX4_gather 7 = .ok (.iload_n 2, 1) := by decide +kernel
theorem dX4_gather_8 : decode cX4_gather 8 = .ok (.aload_n 1, 1) := by decide +kernel
theorem dX4_gather_9 : decode cX4_gather 9 = .ok (.invokevirtual 45, 3) := by decide +kernel
theorem dX4_gather_12 : decode cX4_gather 12 = .ok (.if_icmp .ge 47, 3) := by decide +kernel
theorem dX4_gather_15 : decode cX4_gather 15 = .ok (.aload_n 0, 1) := by decide +kernel
theorem dX4_gather_16 : decode cX4_gather 16 = .ok (.getfield 42, 3) := by decide +kernel
theorem dX4_gather_19 : decode cX4_gather 19 = .ok (.bipush 64, 2) := by decide +kernel
theorem dX4_gather_21 : decode cX4_gather 21 = .ok (.if_icmp .ge 32, 3) := by decide +kernel
theorem dX4_gather_24 : decode cX4_gather 24 = .ok (.aload_n 0, 1) := by decide +kernel
theorem dX4_gather_25 : decode cX4_gather 25 = .ok (.aload_n 1, 1) := by decide +kernel
theorem dX4_gather_26 : decode cX4_gather 26 = .ok (.iload_n 2, 1) := by decide +kernel
theorem dX4_gather_27 : decode cX4_gather 27 = .ok (.invokevirtual 49, 3) := by decide +kernel
theorem dX4_gather_30 : decode cX4_gather 30 = .ok (.ifCond .eq 23, 3) := by decide +kernel
theorem dX4_gather_33 : decode cX4_gather 33 = .ok (.aload_n 0, 1) := by decide +kernel
theorem dX4_gather_34 : decode cX4_gather 34 = .ok (.getfield 22, 3) := by decide +kernel
theorem dX4_gather_37 : decode cX4_gather 37 = .ok (.aload_n 0, 1) := by decide +kernel
theorem dX4_gather_38 : decode cX4_gather 38 = .ok (.getfield 42, 3) := by decide +kernel
theorem dX4_gather_41 : decode cX4_gather 41 = .ok (.iload_n 2, 1) := by decide +kernel
theorem dX4_gather_42 : decode cX4_gather 42 = .ok (.iastore, 1) := by decide +kernel
theorem dX4_gather_43 : decode cX4_gather 43 = .ok (.aload_n 0, 1) := by decide +kernel
theorem dX4_gather_44 : decode cX4_gather 44 = .ok (.dup, 1) := by decide +kernel
theorem dX4_gather_45 : decode cX4_gather 45 = .ok (.getfield 42, 3) := by decide +kernel
theorem dX4_gather_48 : decode cX4_gather 48 = .ok (.iconst 1, 1) := by decide +kernel
theorem dX4_gather_49 : decode cX4_gather 49 = .ok (.iadd, 1) := by decide +kernel
theorem dX4_gather_50 : decode cX4_gather 50 = .ok (.putfield 42, 3) := by decide +kernel
theorem dX4_gather_53 : decode cX4_gather 53 = .ok (.iinc 2 1, 3) := by decide +kernel
theorem dX4_gather_56 : decode cX4_gather 56 = .ok (.goto (-49), 3) := by decide +kernel
theorem dX4_gather_59 : decode cX4_gather 59 = .ok (.return_, 1) := by decide +kernel
theorem dX4_worstLeft_0 : decode cX4_worstLeft 0 = .ok (.iconst 0, 1) := by decide +kernel
theorem dX4_worstLeft_1 : decode cX4_worstLeft 1 = .ok (.istore_n 2, 1) := by decide +kernel
theorem dX4_worstLeft_2 : decode cX4_worstLeft 2 = .ok (.iconst 0, 1) := by decide +kernel
theorem dX4_worstLeft_3 : decode cX4_worstLeft 3 = .ok (.istore_n 3, 1) := by decide +kernel
theorem dX4_worstLeft_4 : decode cX4_worstLeft 4 = .ok (.iload_n 3, 1) := by decide +kernel
theorem dX4_worstLeft_5 : decode cX4_worstLeft 5 = .ok (.aload_n 0, 1) := by decide +kernel
theorem dX4_worstLeft_6 : decode cX4_worstLeft 6 = .ok (.getfield 42, 3) := by decide +kernel
theorem dX4_worstLeft_9 : decode cX4_worstLeft 9 = .ok (.if_icmp .ge 25, 3) := by decide +kernel
theorem dX4_worstLeft_12 : decode cX4_worstLeft 12 = .ok (.iload_n 2, 1) := by decide +kernel
theorem dX4_worstLeft_13 : decode cX4_worstLeft 13 = .ok (.aload_n 0, 1) := by decide +kernel
theorem dX4_worstLeft_14 : decode cX4_worstLeft 14 = .ok (.getfield 22, 3) := by decide +kernel
theorem dX4_worstLeft_17 : decode cX4_worstLeft 17 = .ok (.iload_n 3, 1) := by decide +kernel
theorem dX4_worstLeft_18 : decode cX4_worstLeft 18 = .ok (.iaload, 1) := by decide +kernel
theorem dX4_worstLeft_19 : decode cX4_worstLeft 19 = .ok (.iload_n 1, 1) := by decide +kernel
theorem dX4_worstLeft_20 : decode cX4_worstLeft 20 = .ok (.invokestatic 39, 3) := by decide +kernel
theorem dX4_worstLeft_23 : decode cX4_worstLeft 23 = .ok (.invokestatic 53, 3) := by decide +kernel
theorem dX4_worstLeft_26 : decode cX4_worstLeft 26 = .ok (.iadd, 1) := by decide +kernel
theorem dX4_worstLeft_27 : decode cX4_worstLeft 27 = .ok (.istore_n 2, 1) := by decide +kernel
theorem dX4_worstLeft_28 : decode cX4_worstLeft 28 = .ok (.iinc 3 1, 3) := by decide +kernel
theorem dX4_worstLeft_31 : decode cX4_worstLeft 31 = .ok (.goto (-27), 3) := by decide +kernel
theorem dX4_worstLeft_34 : decode cX4_worstLeft 34 = .ok (.iload_n 2, 1) := by decide +kernel
theorem dX4_worstLeft_35 : decode cX4_worstLeft 35 = .ok (.aload_n 0, 1) := by decide +kernel
theorem dX4_worstLeft_36 : decode cX4_worstLeft 36 = .ok (.getfield 42, 3) := by decide +kernel
theorem dX4_worstLeft_39 : decode cX4_worstLeft 39 = .ok (.iload_n 2, 1) := by decide +kernel
theorem dX4_worstLeft_40 : decode cX4_worstLeft 40 = .ok (.isub, 1) := by decide +kernel
theorem dX4_worstLeft_41 : decode cX4_worstLeft 41 = .ok (.invokestatic 57, 3) := by decide +kernel
theorem dX4_worstLeft_44 : decode cX4_worstLeft 44 = .ok (.ireturn, 1) := by decide +kernel
theorem dX4_passYear_0 : decode cX4_passYear 0 = .ok (.iconst 0, 1) := by decide +kernel
theorem dX4_passYear_1 : decode cX4_passYear 1 = .ok (.istore_n 2, 1) := by decide +kernel
theorem dX4_passYear_2 : decode cX4_passYear 2 = .ok (.iload_n 2, 1) := by decide +kernel
theorem dX4_passYear_3 : decode cX4_passYear 3 = .ok (.aload_n 0, 1) := by decide +kernel
theorem dX4_passYear_4 : decode cX4_passYear 4 = .ok (.getfield 42, 3) := by decide +kernel
theorem dX4_passYear_7 : decode cX4_passYear 7 = .ok (.if_icmp .ge 25, 3) := by decide +kernel
theorem dX4_passYear_10 : decode cX4_passYear 10 = .ok (.aload_n 0, 1) := by decide +kernel
theorem dX4_passYear_11 : decode cX4_passYear 11 = .ok (.getfield 22, 3) := by decide +kernel
theorem dX4_passYear_14 : decode cX4_passYear 14 = .ok (.iload_n 2, 1) := by decide +kernel
theorem dX4_passYear_15 : decode cX4_passYear 15 = .ok (.aload_n 1, 1) := by decide +kernel
theorem dX4_passYear_16 : decode cX4_passYear 16 = .ok (.aload_n 0, 1) := by decide +kernel
theorem dX4_passYear_17 : decode cX4_passYear 17 = .ok (.getfield 22, 3) := by decide +kernel
theorem dX4_passYear_20 : decode cX4_passYear 20 = .ok (.iload_n 2, 1) := by decide +kernel
theorem dX4_passYear_21 : decode cX4_passYear 21 = .ok (.iaload, 1) := by decide +kernel
theorem dX4_passYear_22 : decode cX4_passYear 22 = .ok (.invokevirtual 33, 3) := by decide +kernel
theorem dX4_passYear_25 : decode cX4_passYear 25 = .ok (.iastore, 1) := by decide +kernel
theorem dX4_passYear_26 : decode cX4_passYear 26 = .ok (.iinc 2 1, 3) := by decide +kernel
theorem dX4_passYear_29 : decode cX4_passYear 29 = .ok (.goto (-27), 3) := by decide +kernel
theorem dX4_passYear_32 : decode cX4_passYear 32 = .ok (.return_, 1) := by decide +kernel
theorem dX5_init_0 : decode cX5_init 0 = .ok (.aload_n 0, 1) := by decide +kernel
theorem dX5_init_1 : decode cX5_init 1 = .ok (.invokespecial 3, 3) := by decide +kernel
theorem dX5_init_4 : decode cX5_init 4 = .ok (.return_, 1) := by decide +kernel
theorem dX5_clear_0 : decode cX5_clear 0 = .ok (.aload_n 0, 1) := by decide +kernel
theorem dX5_clear_1 : decode cX5_clear 1 = .ok (.iconst 0, 1) := by decide +kernel
theorem dX5_clear_2 : decode cX5_clear 2 = .ok (.putfield 9, 3) := by decide +kernel
theorem dX5_clear_5 : decode cX5_clear 5 = .ok (.aload_n 0, 1) := by decide +kernel
theorem dX5_clear_6 : decode cX5_clear 6 = .ok (.iconst 0, 1) := by decide +kernel
theorem dX5_clear_7 : decode cX5_clear 7 = .ok (.putfield 15, 3) := by decide +kernel
theorem dX5_clear_10 : decode cX5_clear 10 = .ok (.aload_n 0, 1) := by decide +kernel
theorem dX5_clear_11 : decode cX5_clear 11 = .ok (.bipush 63, 2) := by decide +kernel
theorem dX5_clear_13 : decode cX5_clear 13 = .ok (.putfield 18, 3) := by decide +kernel
theorem dX5_clear_16 : decode cX5_clear 16 = .ok (.aload_n 0, 1) := by decide +kernel
theorem dX5_clear_17 : decode cX5_clear 17 = .ok (.iconst 0, 1) := by decide +kernel
theorem dX5_clear_18 : decode cX5_clear 18 = .ok (.putfield 21, 3) := by decide +kernel
theorem dX5_clear_21 : decode cX5_clear 21 = .ok (.return_, 1) := by decide +kernel
theorem dX5_take_0 : decode cX5_take 0 = .ok (.aload_n 0, 1) := by decide +kernel
theorem dX5_take_1 : decode cX5_take 1 = .ok (.aload_n 0, 1) := by decide +kernel
theorem dX5_take_2 : decode cX5_take 2 = .ok (.getfield 9, 3) := by decide +kernel
theorem dX5_take_5 : decode cX5_take 5 = .ok (.ifCond .ne 7, 3) := by decide +kernel
theorem dX5_take_8 : decode cX5_take 8 = .ok (.iload_n 1, 1) := by decide +kernel
theorem dX5_take_9 : decode cX5_take 9 = .ok (.goto 11, 3) := by decide +kernel
theorem dX5_take_12 : decode cX5_take 12 = .ok (.aload_n 0, 1) := by decide +kernel
theorem dX5_take_13 : decode cX5_take 13 = .ok (.getfield 15, 3) := by decide +kernel
theorem dX5_take_16 : decode cX5_take 16 = .ok (.iload_n 1, 1) := by decide +kernel
theorem dX5_take_17 : decode cX5_take 17 = .ok (.invokestatic 24, 3) := by decide +kernel
theorem dX5_take_20 : decode cX5_take 20 = .ok (.putfield 15, 3) := by decide +kernel
theorem dX5_take_23 : decode cX5_take 23 = .ok (.aload_n 0, 1) := by decide +kernel
theorem dX5_take_24 : decode cX5_take 24 = .ok (.dup, 1) := by decide +kernel
theorem dX5_take_25 : decode cX5_take 25 = .ok (.getfield 18, 3) := by decide +kernel
theorem dX5_take_28 : decode cX5_take 28 = .ok (.iload_n 1, 1) := by decide +kernel
theorem dX5_take_29 : decode cX5_take 29 = .ok (.iand, 1) := by decide +kernel
theorem dX5_take_30 : decode cX5_take 30 = .ok (.putfield 18, 3) := by decide +kernel
theorem dX5_take_33 : decode cX5_take 33 = .ok (.aload_n 0, 1) := by decide +kernel
theorem dX5_take_34 : decode cX5_take 34 = .ok (.dup, 1) := by decide +kernel
theorem dX5_take_35 : decode cX5_take 35 = .ok (.getfield 21, 3) := by decide +kernel
theorem dX5_take_38 : decode cX5_take 38 = .ok (.iload_n 1, 1) := by decide +kernel
theorem dX5_take_39 : decode cX5_take 39 = .ok (.ior, 1) := by decide +kernel
theorem dX5_take_40 : decode cX5_take 40 = .ok (.putfield 21, 3) := by decide +kernel
theorem dX5_take_43 : decode cX5_take 43 = .ok (.aload_n 0, 1) := by decide +kernel
theorem dX5_take_44 : decode cX5_take 44 = .ok (.dup, 1) := by decide +kernel
theorem dX5_take_45 : decode cX5_take 45 = .ok (.getfield 9, 3) := by decide +kernel
theorem dX5_take_48 : decode cX5_take 48 = .ok (.iconst 1, 1) := by decide +kernel
theorem dX5_take_49 : decode cX5_take 49 = .ok (.iadd, 1) := by decide +kernel
theorem dX5_take_50 : decode cX5_take 50 = .ok (.putfield 9, 3) := by decide +kernel
theorem dX5_take_53 : decode cX5_take 53 = .ok (.return_, 1) := by decide +kernel
theorem dX5_answer_0 : decode cX5_answer 0 = .ok (.iload_n 1, 1) := by decide +kernel
theorem dX5_answer_1 : decode cX5_answer 1 = .ok (.ifCond .ne 8, 3) := by decide +kernel
theorem dX5_answer_4 : decode cX5_answer 4 = .ok (.aload_n 0, 1) := by decide +kernel
theorem dX5_answer_5 : decode cX5_answer 5 = .ok (.getfield 9, 3) := by decide +kernel
theorem dX5_answer_8 : decode cX5_answer 8 = .ok (.ireturn, 1) := by decide +kernel
theorem dX5_answer_9 : decode cX5_answer 9 = .ok (.aload_n 0, 1) := by decide +kernel
theorem dX5_answer_10 : decode cX5_answer 10 = .ok (.getfield 9, 3) := by decide +kernel
theorem dX5_answer_13 : decode cX5_answer 13 = .ok (.ifCond .ne 6, 3) := by decide +kernel
theorem dX5_answer_16 : decode cX5_answer 16 = .ok (.bipush (-4), 2) := by decide +kernel
theorem dX5_answer_18 : decode cX5_answer 18 = .ok (.ireturn, 1) := by decide +kernel
theorem dX5_answer_19 : decode cX5_answer 19 = .ok (.iload_n 1, 1) := by decide +kernel
theorem dX5_answer_20 : decode cX5_answer 20 = .ok (.iconst 1, 1) := by decide +kernel
theorem dX5_answer_21 : decode cX5_answer 21 = .ok (.if_icmp .ne 8, 3) := by decide +kernel
theorem dX5_answer_24 : decode cX5_answer 24 = .ok (.aload_n 0, 1) := by decide +kernel
theorem dX5_answer_25 : decode cX5_answer 25 = .ok (.getfield 15, 3) := by decide +kernel
theorem dX5_answer_28 : decode cX5_answer 28 = .ok (.ireturn, 1) := by decide +kernel
theorem dX5_answer_29 : decode cX5_answer 29 = .ok (.iload_n 1, 1) := by decide +kernel
theorem dX5_answer_30 : decode cX5_answer 30 = .ok (.iconst 2, 1) := by decide +kernel
theorem dX5_answer_31 : decode cX5_answer 31 = .ok (.if_icmp .ne 10, 3) := by decide +kernel
theorem dX5_answer_34 : decode cX5_answer 34 = .ok (.aload_n 0, 1) := by decide +kernel
theorem dX5_answer_35 : decode cX5_answer 35 = .ok (.getfield 18, 3) := by decide +kernel
theorem dX5_answer_38 : decode cX5_answer 38 = .ok (.goto 7, 3) := by decide +kernel
theorem dX5_answer_41 : decode cX5_answer 41 = .ok (.aload_n 0, 1) := by decide +kernel
theorem dX5_answer_42 : decode cX5_answer 42 = .ok (.getfield 21, 3) := by decide +kernel
theorem dX5_answer_45 : decode cX5_answer 45 = .ok (.ireturn, 1) := by decide +kernel
theorem dX6_init_0 : decode cX6_init 0 = .ok (.aload_n 0, 1) := by decide +kernel
theorem dX6_init_1 : decode cX6_init 1 = .ok (.invokespecial 3, 3) := by decide +kernel
theorem dX6_init_4 : decode cX6_init 4 = .ok (.aload_n 0, 1) := by decide +kernel
theorem dX6_init_5 : decode cX6_init 5 = .ok (.sipush 160, 3) := by decide +kernel
theorem dX6_init_8 : decode cX6_init 8 = .ok (.newarray .byte, 2) := by decide +kernel
theorem dX6_init_10 : decode cX6_init 10 = .ok (.putfield 9, 3) := by decide +kernel
theorem dX6_init_13 : decode cX6_init 13 = .ok (.return_, 1) := by decide +kernel
theorem dX6_put_0 : decode cX6_put 0 = .ok (.aload_n 0, 1) := by decide +kernel
theorem dX6_put_1 : decode cX6_put 1 = .ok (.getfield 15, 3) := by decide +kernel
theorem dX6_put_4 : decode cX6_put 4 = .ok (.sipush 160, 3) := by decide +kernel
theorem dX6_put_7 : decode cX6_put 7 = .ok (.if_icmp .ge 24, 3) := by decide +kernel
theorem dX6_put_10 : decode cX6_put 10 = .ok (.aload_n 0, 1) := by decide +kernel
theorem dX6_put_11 : decode cX6_put 11 = .ok (.getfield 9, 3) := by decide +kernel
theorem dX6_put_14 : decode cX6_put 14 = .ok (.aload_n 0, 1) := by decide +kernel
theorem dX6_put_15 : decode cX6_put 15 = .ok (.getfield 15, 3) := by decide +kernel
theorem dX6_put_18 : decode cX6_put 18 = .ok (.iload_n 1, 1) := by decide +kernel
theorem dX6_put_19 : decode cX6_put 19 = .ok (.i2b, 1) := by decide +kernel
theorem dX6_put_20 : decode cX6_put 20 = .ok (.bastore, 1) := by decide +kernel
theorem dX6_put_21 : decode cX6_put 21 = .ok (.aload_n 0, 1) := by decide +kernel
theorem dX6_put_22 : decode cX6_put 22 = .ok (.dup, 1) := by decide +kernel
theorem dX6_put_23 : decode cX6_put 23 = .ok (.getfield 15, 3) := by decide +kernel
theorem dX6_put_26 : decode cX6_put 26 = .ok (.iconst 1, 1) := by decide +kernel
theorem dX6_put_27 : decode cX6_put 27 = .ok (.iadd, 1) := by decide +kernel
theorem dX6_put_28 : decode cX6_put 28 = .ok (.putfield 15, 3) := by decide +kernel
theorem dX6_put_31 : decode cX6_put 31 = .ok (.return_, 1) := by decide +kernel
theorem dX6_rewind_0 : decode cX6_rewind 0 = .ok (.aload_n 0, 1) := by decide +kernel
theorem dX6_rewind_1 : decode cX6_rewind 1 = .ok (.iconst 0, 1) := by decide +kernel
theorem dX6_rewind_2 : decode cX6_rewind 2 = .ok (.putfield 19, 3) := by decide +kernel
theorem dX6_rewind_5 : decode cX6_rewind 5 = .ok (.return_, 1) := by decide +kernel
theorem dX6_readToken_0 : decode cX6_readToken 0 = .ok (.aload_n 0, 1) := by decide +kernel
theorem dX6_readToken_1 : decode cX6_readToken 1 = .ok (.getfield 19, 3) := by decide +kernel
theorem dX6_readToken_4 : decode cX6_readToken 4 = .ok (.aload_n 0, 1) := by decide +kernel
theorem dX6_readToken_5 : decode cX6_readToken 5 = .ok (.getfield 15, 3) := by decide +kernel
theorem dX6_readToken_8 : decode cX6_readToken 8 = .ok (.if_icmp .ge 30, 3) := by decide +kernel
theorem dX6_readToken_11 : decode cX6_readToken 11 = .ok (.aload_n 0, 1) := by decide +kernel
theorem dX6_readToken_12 : decode cX6_readToken 12 = .ok (.getfield 9, 3) := by decide +kernel
theorem dX6_readToken_15 : decode cX6_readToken 15 = .ok (.aload_n 0, 1) := by decide +kernel
theorem dX6_readToken_16 : decode cX6_readToken 16 = .ok (.getfield 19, 3) := by decide +kernel
theorem dX6_readToken_19 : decode cX6_readToken 19 = .ok (.baload, 1) := by decide +kernel
theorem dX6_readToken_20 : decode cX6_readToken 20 = .ok (.bipush 32, 2) := by decide +kernel
theorem dX6_readToken_22 : decode cX6_readToken 22 = .ok (.if_icmp .ne 16, 3) := by decide +kernel
theorem dX6_readToken_25 : decode cX6_readToken 25 = .ok (.aload_n 0, 1) := by decide +kernel
theorem dX6_readToken_26 : decode cX6_readToken 26 = .ok (.dup, 1) := by decide +kernel
theorem dX6_readToken_27 : decode cX6_readToken 27 = .ok (.getfield 19, 3) := by decide +kernel
theorem dX6_readToken_30 : decode cX6_readToken 30 = .ok (.iconst 1, 1) := by decide +kernel
theorem dX6_readToken_31 : decode cX6_readToken 31 = .ok (.iadd, 1) := by decide +kernel
theorem dX6_readToken_32 : decode cX6_readToken 32 = .ok (.putfield 19, 3) := by decide +kernel
theorem dX6_readToken_35 : decode cX6_readToken 35 = .ok (.goto (-35), 3) := by decide +kernel
theorem dX6_readToken_38 : decode cX6_readToken 38 = .ok (.aload_n 0, 1) := by decide +kernel
theorem dX6_readToken_39 : decode cX6_readToken 39 = .ok (.aload_n 0, 1) := by decide +kernel
theorem dX6_readToken_40 : decode cX6_readToken 40 = .ok (.getfield 19, 3) := by decide +kernel
theorem dX6_readToken_43 : decode cX6_readToken 43 = .ok (.putfield 22, 3) := by decide +kernel
theorem dX6_readToken_46 : decode cX6_readToken 46 = .ok (.aload_n 0, 1) := by decide +kernel
theorem dX6_readToken_47 : decode cX6_readToken 47 = .ok (.aload_n 0, 1) := by decide +kernel
theorem dX6_readToken_48 : decode cX6_readToken 48 = .ok (.aload_n 0, 1) := by decide +kernel
theorem dX6_readToken_49 : decode cX6_readToken 49 = .ok (.getfield 19, 3) := by decide +kernel
theorem dX6_readToken_52 : decode cX6_readToken 52 = .ok (.invokevirtual 25, 3) := by decide +kernel
theorem dX6_readToken_55 : decode cX6_readToken 55 = .ok (.putfield 29, 3) := by decide +kernel
theorem dX6_readToken_58 : decode cX6_readToken 58 = .ok (.aload_n 0, 1) := by decide +kernel
theorem dX6_readToken_59 : decode cX6_readToken 59 = .ok (.getfield 29, 3) := by decide +kernel
theorem dX6_readToken_62 : decode cX6_readToken 62 = .ok (.iconst 1, 1) := by decide +kernel
theorem dX6_readToken_63 : decode cX6_readToken 63 = .ok (.if_icmp .eq 11, 3) := by decide +kernel
theorem dX6_readToken_66 : decode cX6_readToken 66 = .ok (.aload_n 0, 1) := by decide +kernel
theorem dX6_readToken_67 : decode cX6_readToken 67 = .ok (.getfield 29, 3) := by decide +kernel
theorem dX6_readToken_70 : decode cX6_readToken 70 = .ok (.iconst 2, 1) := by decide +kernel
theorem dX6_readToken_71 : decode cX6_readToken 71 = .ok (.if_icmp .ne 42, 3) := by decide +kernel
theorem dX6_readToken_74 : decode cX6_readToken 74 = .ok (.aload_n 0, 1) := by decide +kernel
theorem dX6_readToken_75 : decode cX6_readToken 75 = .ok (.getfield 19, 3) := by decide +kernel
theorem dX6_readToken_78 : decode cX6_readToken 78 = .ok (.aload_n 0, 1) := by decide +kernel
theorem dX6_readToken_79 : decode cX6_readToken 79 = .ok (.getfield 15, 3) := by decide +kernel
theorem dX6_readToken_82 : decode cX6_readToken 82 = .ok (.if_icmp .ge 52, 3) := by decide +kernel
theorem dX6_readToken_85 : decode cX6_readToken 85 = .ok (.aload_n 0, 1) := by decide +kernel
theorem dX6_readToken_86 : decode cX6_readToken 86 = .ok (.aload_n 0, 1) := by decide +kernel
theorem dX6_readToken_87 : decode cX6_readToken 87 = .ok (.getfield 19, 3) := by decide +kernel
theorem dX6_readToken_90 : decode cX6_readToken 90 = .ok (.invokevirtual 25, 3) := by decide +kernel
theorem dX6_readToken_93 : decode cX6_readToken 93 = .ok (.aload_n 0, 1) := by decide +kernel
theorem dX6_readToken_94 : decode cX6_readToken 94 = .ok (.getfield 29, 3) := by decide +kernel
theorem dX6_readToken_97 : decode cX6_readToken 97 = .ok (.if_icmp .ne 37, 3) := by decide +kernel
theorem dX6_readToken_100 : decode cX6_readToken 100 = .ok (.aload_n 0, 1) := by decide +kernel
theorem dX6_readToken_101 : decode cX6_readToken 101 = .ok (.dup, 1) := by decide +kernel
theorem dX6_readToken_102 : decode cX6_readToken 102 = .ok (.getfield 19, 3) := by decide +kernel
theorem dX6_readToken_105 : decode cX6_readToken 105 = .ok (.iconst 1, 1) := by decide +kernel
theorem dX6_readToken_106 : decode cX6_readToken 106 = .ok (.iadd, 1) := by decide +kernel
theorem dX6_readToken_107 : decode cX6_readToken 107 = .ok (.putfield 19, 3) := by decide +kernel
theorem dX6_readToken_110 : decode cX6_readToken 110 = .ok (.goto (-36), 3) := by decide +kernel
theorem dX6_readToken_113 : decode cX6_readToken 113 = .ok (.aload_n 0, 1) := by decide +kernel
theorem dX6_readToken_114 : decode cX6_readToken 114 = .ok (.getfield 19, 3) := by decide +kernel
theorem dX6_readToken_117 : decode cX6_readToken 117 = .ok (.aload_n 0, 1) := by decide +kernel
theorem dX6_readToken_118 : decode cX6_readToken 118 = .ok (.getfield 15, 3) := by decide +kernel
theorem dX6_readToken_121 : decode cX6_readToken 121 = .ok (.if_icmp .ge 13, 3) := by decide +kernel
theorem dX6_readToken_124 : decode cX6_readToken 124 = .ok (.aload_n 0, 1) := by decide +kernel
theorem dX6_readToken_125 : decode cX6_readToken 125 = .ok (.dup, 1) := by decide +kernel
theorem dX6_readToken_126 : decode cX6_readToken 126 = .ok (.getfield 19, 3) := by decide +kernel
theorem dX6_readToken_129 : decode cX6_readToken 129 = .ok (.iconst 1, 1) := by decide +kernel
theorem dX6_readToken_130 : decode cX6_readToken 130 = .ok (.iadd, 1) := by decide +kernel
theorem dX6_readToken_131 : decode cX6_readToken 131 = .ok (.putfield 19, 3) := by decide +kernel
theorem dX6_readToken_134 : decode cX6_readToken 134 = .ok (.aload_n 0, 1) := by decide +kernel
theorem dX6_readToken_135 : decode cX6_readToken 135 = .ok (.getfield 29, 3) := by decide +kernel
theorem dX6_readToken_138 : decode cX6_readToken 138 = .ok (.iconst 2, 1) := by decide +kernel
theorem dX6_readToken_139 : decode cX6_readToken 139 = .ok (.if_icmp .ne 21, 3) := by decide +kernel
theorem dX6_readToken_142 : decode cX6_readToken 142 = .ok (.aload_n 0, 1) := by decide +kernel
theorem dX6_readToken_143 : decode cX6_readToken 143 = .ok (.getfield 19, 3) := by decide +kernel
theorem dX6_readToken_146 : decode cX6_readToken 146 = .ok (.aload_n 0, 1) := by decide +kernel
theorem dX6_readToken_147 : decode cX6_readToken 147 = .ok (.getfield 22, 3) := by decide +kernel
theorem dX6_readToken_150 : decode cX6_readToken 150 = .ok (.isub, 1) := by decide +kernel
theorem dX6_readToken_151 : decode cX6_readToken 151 = .ok (.iconst 2, 1) := by decide +kernel
theorem dX6_readToken_152 : decode cX6_readToken 152 = .ok (.if_icmp .le 8, 3) := by decide +kernel
theorem dX6_readToken_155 : decode cX6_readToken 155 = .ok (.aload_n 0, 1) := by decide +kernel
theorem dX6_readToken_156 : decode cX6_readToken 156 = .ok (.iconst 0, 1) := by decide +kernel
theorem dX6_readToken_157 : decode cX6_readToken 157 = .ok (.putfield 29, 3) := by decide +kernel
theorem dX6_readToken_160 : decode cX6_readToken 160 = .ok (.return_, 1) := by decide +kernel
theorem dX6_sortAt_0 : decode cX6_sortAt 0 = .ok (.iload_n 1, 1) := by decide +kernel
theorem dX6_sortAt_1 : decode cX6_sortAt 1 = .ok (.ifCond .lt 11, 3) := by decide +kernel
theorem dX6_sortAt_4 : decode cX6_sortAt 4 = .ok (.iload_n 1, 1) := by decide +kernel
theorem dX6_sortAt_5 : decode cX6_sortAt 5 = .ok (.aload_n 0, 1) := by decide +kernel
theorem dX6_sortAt_6 : decode cX6_sortAt 6 = .ok (.getfield 15, 3) := by decide +kernel
theorem dX6_sortAt_9 : decode cX6_sortAt 9 = .ok (.if_icmp .lt 5, 3) := by decide +kernel
theorem dX6_sortAt_12 : decode cX6_sortAt 12 = .ok (.iconst 4, 1) := by decide +kernel
theorem dX6_sortAt_13 : decode cX6_sortAt 13 = .ok (.ireturn, 1) := by decide +kernel
theorem dX6_sortAt_14 : decode cX6_sortAt 14 = .ok (.aload_n 0, 1) := by decide +kernel
theorem dX6_sortAt_15 : decode cX6_sortAt 15 = .ok (.getfield 9, 3) := by decide +kernel
theorem dX6_sortAt_18 : decode cX6_sortAt 18 = .ok (.iload_n 1, 1) := by decide +kernel
theorem dX6_sortAt_19 : decode cX6_sortAt 19 = .ok (.baload, 1) := by decide +kernel
theorem dX6_sortAt_20 : decode cX6_sortAt 20 = .ok (.istore_n 2, 1) := by decide +kernel
theorem dX6_sortAt_21 : decode cX6_sortAt 21 = .ok (.iload_n 2, 1) := by decide +kernel
theorem dX6_sortAt_22 : decode cX6_sortAt 22 = .ok (.bipush 97, 2) := by decide +kernel
theorem dX6_sortAt_24 : decode cX6_sortAt 24 = .ok (.if_icmp .lt 11, 3) := by decide +kernel
theorem dX6_sortAt_27 : decode cX6_sortAt 27 = .ok (.iload_n 2, 1) := by decide +kernel
theorem dX6_sortAt_28 : decode cX6_sortAt 28 = .ok (.bipush 122, 2) := by decide +kernel
theorem dX6_sortAt_30 : decode cX6_sortAt 30 = .ok (.if_icmp .gt 5, 3) := by decide +kernel
theorem dX6_sortAt_33 : decode cX6_sortAt 33 = .ok (.iconst 1, 1) := by decide +kernel
theorem dX6_sortAt_34 : decode cX6_sortAt 34 = .ok (.ireturn, 1) := by decide +kernel
theorem dX6_sortAt_35 : decode cX6_sortAt 35 = .ok (.iload_n 2, 1) := by decide +kernel
theorem dX6_sortAt_36 : decode cX6_sortAt 36 = .ok (.bipush 48, 2) := by decide +kernel
theorem dX6_sortAt_38 : decode cX6_sortAt 38 = .ok (.if_icmp .lt 11, 3) := by decide +kernel
theorem dX6_sortAt_41 : decode cX6_sortAt 41 = .ok (.iload_n 2, 1) := by decide +kernel
theorem dX6_sortAt_42 : decode cX6_sortAt 42 = .ok (.bipush 57, 2) := by decide +kernel
theorem dX6_sortAt_44 : decode cX6_sortAt 44 = .ok (.if_icmp .gt 5, 3) := by decide +kernel
theorem dX6_sortAt_47 : decode cX6_sortAt 47 = .ok (.iconst 2, 1) := by decide +kernel
theorem dX6_sortAt_48 : decode cX6_sortAt 48 = .ok (.ireturn, 1) := by decide +kernel
theorem dX6_sortAt_49 : decode cX6_sortAt 49 = .ok (.iload_n 2, 1) := by decide +kernel
theorem dX6_sortAt_50 : decode cX6_sortAt 50 = .ok (.bipush 59, 2) := by decide +kernel
theorem dX6_sortAt_52 : decode cX6_sortAt 52 = .ok (.if_icmp .ne 7, 3) := by decide +kernel
theorem dX6_sortAt_55 : decode cX6_sortAt 55 = .ok (.iconst 3, 1) := by decide +kernel
theorem dX6_sortAt_56 : decode cX6_sortAt 56 = .ok (.goto 4, 3) := by decide +kernel
theorem dX6_sortAt_59 : decode cX6_sortAt 59 = .ok (.iconst 0, 1) := by decide +kernel
theorem dX6_sortAt_60 : decode cX6_sortAt 60 = .ok (.ireturn, 1) := by decide +kernel
theorem dX6_tokenValue_0 : decode cX6_tokenValue 0 = .ok (.iconst 0, 1) := by decide +kernel
theorem dX6_tokenValue_1 : decode cX6_tokenValue 1 = .ok (.istore_n 1, 1) := by decide +kernel
theorem dX6_tokenValue_2 : decode cX6_tokenValue 2 = .ok (.aload_n 0, 1) := by decide +kernel
theorem dX6_tokenValue_3 : decode cX6_tokenValue 3 = .ok (.getfield 22, 3) := by decide +kernel
theorem dX6_tokenValue_6 : decode cX6_tokenValue 6 = .ok (.istore_n 2, 1) := by decide +kernel
theorem dX6_tokenValue_7 : decode cX6_tokenValue 7 = .ok (.iload_n 2, 1) := by decide +kernel
theorem dX6_tokenValue_8 : decode cX6_tokenValue 8 = .ok (.aload_n 0, 1) := by decide +kernel
theorem dX6_tokenValue_9 : decode cX6_tokenValue 9 = .ok (.getfield 19, 3) := by decide +kernel
theorem dX6_tokenValue_12 : decode cX6_tokenValue 12 = .ok (.if_icmp .ge 32, 3) := by decide +kernel
theorem dX6_tokenValue_15 : decode cX6_tokenValue 15 = .ok (.iload_n 2, 1) := by decide +kernel
theorem dX6_tokenValue_16 : decode cX6_tokenValue 16 = .ok (.aload_n 0, 1) := by decide +kernel
theorem dX6_tokenValue_17 : decode cX6_tokenValue 17 = .ok (.getfield 15, 3) := by decide +kernel
theorem dX6_tokenValue_20 : decode cX6_tokenValue 20 = .ok (.if_icmp .ge 24, 3) := by decide +kernel
theorem dX6_tokenValue_23 : decode cX6_tokenValue 23 = .ok (.iload_n 1, 1) := by decide +kernel
theorem dX6_tokenValue_24 : decode cX6_tokenValue 24 = .ok (.bipush 10, 2) := by decide +kernel
theorem dX6_tokenValue_26 : decode cX6_tokenValue 26 = .ok (.imul, 1) := by decide +kernel
theorem dX6_tokenValue_27 : decode cX6_tokenValue 27 = .ok (.aload_n 0, 1) := by decide +kernel
theorem dX6_tokenValue_28 : decode cX6_tokenValue 28 = .ok (.getfield 9, 3) := by decide +kernel
theorem dX6_tokenValue_31 : decode cX6_tokenValue 31 = .ok (.iload_n 2, 1) := by decide +kernel
theorem dX6_tokenValue_32 : decode cX6_tokenValue 32 = .ok (.baload, 1) := by decide +kernel
theorem dX6_tokenValue_33 : decode cX6_tokenValue 33 = .ok (.iadd, 1) := by decide +kernel
theorem dX6_tokenValue_34 : decode cX6_tokenValue 34 = .ok (.bipush 48, 2) := by decide +kernel
theorem dX6_tokenValue_36 : decode cX6_tokenValue 36 = .ok (.isub, 1) := by decide +kernel
theorem dX6_tokenValue_37 : decode cX6_tokenValue 37 = .ok (.istore_n 1, 1) := by decide +kernel
theorem dX6_tokenValue_38 : decode cX6_tokenValue 38 = .ok (.iinc 2 1, 3) := by decide +kernel
theorem dX6_tokenValue_41 : decode cX6_tokenValue 41 = .ok (.goto (-34), 3) := by decide +kernel
theorem dX6_tokenValue_44 : decode cX6_tokenValue 44 = .ok (.iload_n 1, 1) := by decide +kernel
theorem dX6_tokenValue_45 : decode cX6_tokenValue 45 = .ok (.ireturn, 1) := by decide +kernel
theorem dX6_tokenIs_0 : decode cX6_tokenIs 0 = .ok (.aload_n 0, 1) := by decide +kernel
theorem dX6_tokenIs_1 : decode cX6_tokenIs 1 = .ok (.getfield 29, 3) := by decide +kernel
theorem dX6_tokenIs_4 : decode cX6_tokenIs 4 = .ok (.iconst 1, 1) := by decide +kernel
theorem dX6_tokenIs_5 : decode cX6_tokenIs 5 = .ok (.if_icmp .ne 19, 3) := by decide +kernel
theorem dX6_tokenIs_8 : decode cX6_tokenIs 8 = .ok (.aload_n 0, 1) := by decide +kernel
theorem dX6_tokenIs_9 : decode cX6_tokenIs 9 = .ok (.getfield 19, 3) := by decide +kernel
theorem dX6_tokenIs_12 : decode cX6_tokenIs 12 = .ok (.aload_n 0, 1) := by decide +kernel
theorem dX6_tokenIs_13 : decode cX6_tokenIs 13 = .ok (.getfield 22, 3) := by decide +kernel
theorem dX6_tokenIs_16 : decode cX6_tokenIs 16 = .ok (.isub, 1) := by decide +kernel
theorem dX6_tokenIs_17 : decode cX6_tokenIs 17 = .ok (.aload_n 1, 1) := by decide +kernel
theorem dX6_tokenIs_18 : decode cX6_tokenIs 18 = .ok (.invokevirtual 32, 3) := by decide +kernel
theorem dX6_tokenIs_21 : decode cX6_tokenIs 21 = .ok (.if_icmp .eq 5, 3) := by decide +kernel
theorem dX6_tokenIs_24 : decode cX6_tokenIs 24 = .ok (.iconst 0, 1) := by decide +kernel
theorem dX6_tokenIs_25 : decode cX6_tokenIs 25 = .ok (.ireturn, 1) := by decide +kernel
theorem dX6_tokenIs_26 : decode cX6_tokenIs 26 = .ok (.iconst 0, 1) := by decide +kernel
theorem dX6_tokenIs_27 : decode cX6_tokenIs 27 = .ok (.istore_n 2, 1) := by decide +kernel
theorem dX6_tokenIs_28 : decode cX6_tokenIs 28 = .ok (.iload_n 2, 1) := by decide +kernel
theorem dX6_tokenIs_29 : decode cX6_tokenIs 29 = .ok (.aload_n 1, 1) := by decide +kernel
theorem dX6_tokenIs_30 : decode cX6_tokenIs 30 = .ok (.invokevirtual 32, 3) := by decide +kernel
theorem dX6_tokenIs_33 : decode cX6_tokenIs 33 = .ok (.if_icmp .ge 30, 3) := by decide +kernel
theorem dX6_tokenIs_36 : decode cX6_tokenIs 36 = .ok (.aload_n 0, 1) := by decide +kernel
theorem dX6_tokenIs_37 : decode cX6_tokenIs 37 = .ok (.getfield 9, 3) := by decide +kernel
theorem dX6_tokenIs_40 : decode cX6_tokenIs 40 = .ok (.aload_n 0, 1) := by decide +kernel
theorem dX6_tokenIs_41 : decode cX6_tokenIs 41 = .ok (.getfield 22, 3) := by decide +kernel
theorem dX6_tokenIs_44 : decode cX6_tokenIs 44 = .ok (.iload_n 2, 1) := by decide +kernel
theorem dX6_tokenIs_45 : decode cX6_tokenIs 45 = .ok (.iadd, 1) := by decide +kernel
theorem dX6_tokenIs_46 : decode cX6_tokenIs 46 = .ok (.baload, 1) := by decide +kernel
theorem dX6_tokenIs_47 : decode cX6_tokenIs 47 = .ok (.aload_n 1, 1) := by decide +kernel
theorem dX6_tokenIs_48 : decode cX6_tokenIs 48 = .ok (.iload_n 2, 1) := by decide +kernel
theorem dX6_tokenIs_49 : decode cX6_tokenIs 49 = .ok (.invokevirtual 37, 3) := by decide +kernel
theorem dX6_tokenIs_52 : decode cX6_tokenIs 52 = .ok (.if_icmp .eq 5, 3) := by decide +kernel
theorem dX6_tokenIs_55 : decode cX6_tokenIs 55 = .ok (.iconst 0, 1) := by decide +kernel
theorem dX6_tokenIs_56 : decode cX6_tokenIs 56 = .ok (.ireturn, 1) := by decide +kernel
theorem dX6_tokenIs_57 : decode cX6_tokenIs 57 = .ok (.iinc 2 1, 3) := by decide +kernel
theorem dX6_tokenIs_60 : decode cX6_tokenIs 60 = .ok (.goto (-32), 3) := by decide +kernel
theorem dX6_tokenIs_63 : decode cX6_tokenIs 63 = .ok (.iconst 1, 1) := by decide +kernel
theorem dX6_tokenIs_64 : decode cX6_tokenIs 64 = .ok (.ireturn, 1) := by decide +kernel
theorem dJ6_bitCount_0f7a4_0 : decode cJ6_bitCount_0f7a4 0 = .ok (.iload_n 0, 1) := by decide +kernel
theorem dJ6_bitCount_0f7a4_1 : decode cJ6_bitCount_0f7a4 1 = .ok (.iload_n 0, 1) := by decide +kernel
theorem dJ6_bitCount_0f7a4_2 : decode cJ6_bitCount_0f7a4 2 = .ok (.iconst 1, 1) := by decide +kernel
theorem dJ6_bitCount_0f7a4_3 : decode cJ6_bitCount_0f7a4 3 = .ok (.iushr, 1) := by decide +kernel
theorem dJ6_bitCount_0f7a4_4 : decode cJ6_bitCount_0f7a4 4 = .ok (.ldc_w 265, 3) := by decide +kernel
theorem dJ6_bitCount_0f7a4_7 : decode cJ6_bitCount_0f7a4 7 = .ok (.iand, 1) := by decide +kernel
theorem dJ6_bitCount_0f7a4_8 : decode cJ6_bitCount_0f7a4 8 = .ok (.isub, 1) := by decide +kernel
theorem dJ6_bitCount_0f7a4_9 : decode cJ6_bitCount_0f7a4 9 = .ok (.istore_n 0, 1) := by decide +kernel
theorem dJ6_bitCount_0f7a4_10 : decode cJ6_bitCount_0f7a4 10 = .ok (.iload_n 0, 1) := by decide +kernel
theorem dJ6_bitCount_0f7a4_11 : decode cJ6_bitCount_0f7a4 11 = .ok (.ldc_w 266, 3) := by decide +kernel
theorem dJ6_bitCount_0f7a4_14 : decode cJ6_bitCount_0f7a4 14 = .ok (.iand, 1) := by decide +kernel
theorem dJ6_bitCount_0f7a4_15 : decode cJ6_bitCount_0f7a4 15 = .ok (.iload_n 0, 1) := by decide +kernel
theorem dJ6_bitCount_0f7a4_16 : decode cJ6_bitCount_0f7a4 16 = .ok (.iconst 2, 1) := by decide +kernel
theorem dJ6_bitCount_0f7a4_17 : decode cJ6_bitCount_0f7a4 17 = .ok (.iushr, 1) := by decide +kernel
theorem dJ6_bitCount_0f7a4_18 : decode cJ6_bitCount_0f7a4 18 = .ok (.ldc_w 266, 3) := by decide +kernel
theorem dJ6_bitCount_0f7a4_21 : decode cJ6_bitCount_0f7a4 21 = .ok (.iand, 1) := by decide +kernel
theorem dJ6_bitCount_0f7a4_22 : decode cJ6_bitCount_0f7a4 22 = .ok (.iadd, 1) := by decide +kernel
theorem dJ6_bitCount_0f7a4_23 : decode cJ6_bitCount_0f7a4 23 = .ok (.istore_n 0, 1) := by decide +kernel
theorem dJ6_bitCount_0f7a4_24 : decode cJ6_bitCount_0f7a4 24 = .ok (.iload_n 0, 1) := by decide +kernel
theorem dJ6_bitCount_0f7a4_25 : decode cJ6_bitCount_0f7a4 25 = .ok (.iload_n 0, 1) := by decide +kernel
theorem dJ6_bitCount_0f7a4_26 : decode cJ6_bitCount_0f7a4 26 = .ok (.iconst 4, 1) := by decide +kernel
theorem dJ6_bitCount_0f7a4_27 : decode cJ6_bitCount_0f7a4 27 = .ok (.iushr, 1) := by decide +kernel
theorem dJ6_bitCount_0f7a4_28 : decode cJ6_bitCount_0f7a4 28 = .ok (.iadd, 1) := by decide +kernel
theorem dJ6_bitCount_0f7a4_29 : decode cJ6_bitCount_0f7a4 29 = .ok (.ldc_w 267, 3) := by decide +kernel
theorem dJ6_bitCount_0f7a4_32 : decode cJ6_bitCount_0f7a4 32 = .ok (.iand, 1) := by decide +kernel
theorem dJ6_bitCount_0f7a4_33 : decode cJ6_bitCount_0f7a4 33 = .ok (.istore_n 0, 1) := by decide +kernel
theorem dJ6_bitCount_0f7a4_34 : decode cJ6_bitCount_0f7a4 34 = .ok (.iload_n 0, 1) := by decide +kernel
theorem dJ6_bitCount_0f7a4_35 : decode cJ6_bitCount_0f7a4 35 = .ok (.iload_n 0, 1) := by decide +kernel
theorem dJ6_bitCount_0f7a4_36 : decode cJ6_bitCount_0f7a4 36 = .ok (.bipush 8, 2) := by decide +kernel
theorem dJ6_bitCount_0f7a4_38 : decode cJ6_bitCount_0f7a4 38 = .ok (.iushr, 1) := by decide +kernel
theorem dJ6_bitCount_0f7a4_39 : decode cJ6_bitCount_0f7a4 39 = .ok (.iadd, 1) := by decide +kernel
theorem dJ6_bitCount_0f7a4_40 : decode cJ6_bitCount_0f7a4 40 = .ok (.istore_n 0, 1) := by decide +kernel
theorem dJ6_bitCount_0f7a4_41 : decode cJ6_bitCount_0f7a4 41 = .ok (.iload_n 0, 1) := by decide +kernel
theorem dJ6_bitCount_0f7a4_42 : decode cJ6_bitCount_0f7a4 42 = .ok (.iload_n 0, 1) := by decide +kernel
theorem dJ6_bitCount_0f7a4_43 : decode cJ6_bitCount_0f7a4 43 = .ok (.bipush 16, 2) := by decide +kernel
theorem dJ6_bitCount_0f7a4_45 : decode cJ6_bitCount_0f7a4 45 = .ok (.iushr, 1) := by decide +kernel
theorem dJ6_bitCount_0f7a4_46 : decode cJ6_bitCount_0f7a4 46 = .ok (.iadd, 1) := by decide +kernel
theorem dJ6_bitCount_0f7a4_47 : decode cJ6_bitCount_0f7a4 47 = .ok (.istore_n 0, 1) := by decide +kernel
theorem dJ6_bitCount_0f7a4_48 : decode cJ6_bitCount_0f7a4 48 = .ok (.iload_n 0, 1) := by decide +kernel
theorem dJ6_bitCount_0f7a4_49 : decode cJ6_bitCount_0f7a4 49 = .ok (.bipush 63, 2) := by decide +kernel
theorem dJ6_bitCount_0f7a4_51 : decode cJ6_bitCount_0f7a4 51 = .ok (.iand, 1) := by decide +kernel
theorem dJ6_bitCount_0f7a4_52 : decode cJ6_bitCount_0f7a4 52 = .ok (.ireturn, 1) := by decide +kernel
theorem dJ13_bitCount_95d88_0 : decode cJ13_bitCount_95d88 0 = .ok (.lload_n 0, 1) := by decide +kernel
theorem dJ13_bitCount_95d88_1 : decode cJ13_bitCount_95d88 1 = .ok (.lload_n 0, 1) := by decide +kernel
theorem dJ13_bitCount_95d88_2 : decode cJ13_bitCount_95d88 2 = .ok (.iconst 1, 1) := by decide +kernel
theorem dJ13_bitCount_95d88_3 : decode cJ13_bitCount_95d88 3 = .ok (.lushr, 1) := by decide +kernel
theorem dJ13_bitCount_95d88_4 : decode cJ13_bitCount_95d88 4 = .ok (.ldc2_w 314, 3) := by decide +kernel
theorem dJ13_bitCount_95d88_7 : decode cJ13_bitCount_95d88 7 = .ok (.land, 1) := by decide +kernel
theorem dJ13_bitCount_95d88_8 : decode cJ13_bitCount_95d88 8 = .ok (.lsub, 1) := by decide +kernel
theorem dJ13_bitCount_95d88_9 : decode cJ13_bitCount_95d88 9 = .ok (.lstore_n 0, 1) := by decide +kernel
theorem dJ13_bitCount_95d88_10 : decode cJ13_bitCount_95d88 10 = .ok (.lload_n 0, 1) := by decide +kernel
theorem dJ13_bitCount_95d88_11 : decode cJ13_bitCount_95d88 11 = .ok (.ldc2_w 316, 3) := by decide +kernel
theorem dJ13_bitCount_95d88_14 : decode cJ13_bitCount_95d88 14 = .ok (.land, 1) := by decide +kernel
theorem dJ13_bitCount_95d88_15 : decode cJ13_bitCount_95d88 15 = .ok (.lload_n 0, 1) := by decide +kernel
theorem dJ13_bitCount_95d88_16 : decode cJ13_bitCount_95d88 16 = .ok (.iconst 2, 1) := by decide +kernel
theorem dJ13_bitCount_95d88_17 : decode cJ13_bitCount_95d88 17 = .ok (.lushr, 1) := by decide +kernel
theorem dJ13_bitCount_95d88_18 : decode cJ13_bitCount_95d88 18 = .ok (.ldc2_w 316, 3) := by decide +kernel
theorem dJ13_bitCount_95d88_21 : decode cJ13_bitCount_95d88 21 = .ok (.land, 1) := by decide +kernel
theorem dJ13_bitCount_95d88_22 : decode cJ13_bitCount_95d88 22 = .ok (.ladd, 1) := by decide +kernel
theorem dJ13_bitCount_95d88_23 : decode cJ13_bitCount_95d88 23 = .ok (.lstore_n 0, 1) := by decide +kernel
theorem dJ13_bitCount_95d88_24 : decode cJ13_bitCount_95d88 24 = .ok (.lload_n 0, 1) := by decide +kernel
theorem dJ13_bitCount_95d88_25 : decode cJ13_bitCount_95d88 25 = .ok (.lload_n 0, 1) := by decide +kernel
theorem dJ13_bitCount_95d88_26 : decode cJ13_bitCount_95d88 26 = .ok (.iconst 4, 1) := by decide +kernel
theorem dJ13_bitCount_95d88_27 : decode cJ13_bitCount_95d88 27 = .ok (.lushr, 1) := by decide +kernel
theorem dJ13_bitCount_95d88_28 : decode cJ13_bitCount_95d88 28 = .ok (.ladd, 1) := by decide +kernel
theorem dJ13_bitCount_95d88_29 : decode cJ13_bitCount_95d88 29 = .ok (.ldc2_w 318, 3) := by decide +kernel
theorem dJ13_bitCount_95d88_32 : decode cJ13_bitCount_95d88 32 = .ok (.land, 1) := by decide +kernel
theorem dJ13_bitCount_95d88_33 : decode cJ13_bitCount_95d88 33 = .ok (.lstore_n 0, 1) := by decide +kernel
theorem dJ13_bitCount_95d88_34 : decode cJ13_bitCount_95d88 34 = .ok (.lload_n 0, 1) := by decide +kernel
theorem dJ13_bitCount_95d88_35 : decode cJ13_bitCount_95d88 35 = .ok (.lload_n 0, 1) := by decide +kernel
theorem dJ13_bitCount_95d88_36 : decode cJ13_bitCount_95d88 36 = .ok (.bipush 8, 2) := by decide +kernel
theorem dJ13_bitCount_95d88_38 : decode cJ13_bitCount_95d88 38 = .ok (.lushr, 1) := by decide +kernel
theorem dJ13_bitCount_95d88_39 : decode cJ13_bitCount_95d88 39 = .ok (.ladd, 1) := by decide +kernel
theorem dJ13_bitCount_95d88_40 : decode cJ13_bitCount_95d88 40 = .ok (.lstore_n 0, 1) := by decide +kernel
theorem dJ13_bitCount_95d88_41 : decode cJ13_bitCount_95d88 41 = .ok (.lload_n 0, 1) := by decide +kernel
theorem dJ13_bitCount_95d88_42 : decode cJ13_bitCount_95d88 42 = .ok (.lload_n 0, 1) := by decide +kernel
theorem dJ13_bitCount_95d88_43 : decode cJ13_bitCount_95d88 43 = .ok (.bipush 16, 2) := by decide +kernel
theorem dJ13_bitCount_95d88_45 : decode cJ13_bitCount_95d88 45 = .ok (.lushr, 1) := by decide +kernel
theorem dJ13_bitCount_95d88_46 : decode cJ13_bitCount_95d88 46 = .ok (.ladd, 1) := by decide +kernel
theorem dJ13_bitCount_95d88_47 : decode cJ13_bitCount_95d88 47 = .ok (.lstore_n 0, 1) := by decide +kernel
theorem dJ13_bitCount_95d88_48 : decode cJ13_bitCount_95d88 48 = .ok (.lload_n 0, 1) := by decide +kernel
theorem dJ13_bitCount_95d88_49 : decode cJ13_bitCount_95d88 49 = .ok (.lload_n 0, 1) := by decide +kernel
theorem dJ13_bitCount_95d88_50 : decode cJ13_bitCount_95d88 50 = .ok (.bipush 32, 2) := by decide +kernel
theorem dJ13_bitCount_95d88_52 : decode cJ13_bitCount_95d88 52 = .ok (.lushr, 1) := by decide +kernel
theorem dJ13_bitCount_95d88_53 : decode cJ13_bitCount_95d88 53 = .ok (.ladd, 1) := by decide +kernel
theorem dJ13_bitCount_95d88_54 : decode cJ13_bitCount_95d88 54 = .ok (.lstore_n 0, 1) := by decide +kernel
theorem dJ13_bitCount_95d88_55 : decode cJ13_bitCount_95d88 55 = .ok (.lload_n 0, 1) := by decide +kernel
theorem dJ13_bitCount_95d88_56 : decode cJ13_bitCount_95d88 56 = .ok (.l2i, 1) := by decide +kernel
theorem dJ13_bitCount_95d88_57 : decode cJ13_bitCount_95d88 57 = .ok (.bipush 127, 2) := by decide +kernel
theorem dJ13_bitCount_95d88_59 : decode cJ13_bitCount_95d88 59 = .ok (.iand, 1) := by decide +kernel
theorem dJ13_bitCount_95d88_60 : decode cJ13_bitCount_95d88 60 = .ok (.ireturn, 1) := by decide +kernel
theorem dJ9_max_7cf53_0 : decode cJ9_max_7cf53 0 = .ok (.iload_n 0, 1) := by decide +kernel
theorem dJ9_max_7cf53_1 : decode cJ9_max_7cf53 1 = .ok (.iload_n 1, 1) := by decide +kernel
theorem dJ9_max_7cf53_2 : decode cJ9_max_7cf53 2 = .ok (.if_icmp .lt 7, 3) := by decide +kernel
theorem dJ9_max_7cf53_5 : decode cJ9_max_7cf53 5 = .ok (.iload_n 0, 1) := by decide +kernel
theorem dJ9_max_7cf53_6 : decode cJ9_max_7cf53 6 = .ok (.goto 4, 3) := by decide +kernel
theorem dJ9_max_7cf53_9 : decode cJ9_max_7cf53 9 = .ok (.iload_n 1, 1) := by decide +kernel
theorem dJ9_max_7cf53_10 : decode cJ9_max_7cf53 10 = .ok (.ireturn, 1) := by decide +kernel
theorem dJ9_min_7cf53_0 : decode cJ9_min_7cf53 0 = .ok (.iload_n 0, 1) := by decide +kernel
theorem dJ9_min_7cf53_1 : decode cJ9_min_7cf53 1 = .ok (.iload_n 1, 1) := by decide +kernel
theorem dJ9_min_7cf53_2 : decode cJ9_min_7cf53 2 = .ok (.if_icmp .gt 7, 3) := by decide +kernel
theorem dJ9_min_7cf53_5 : decode cJ9_min_7cf53 5 = .ok (.iload_n 0, 1) := by decide +kernel
theorem dJ9_min_7cf53_6 : decode cJ9_min_7cf53 6 = .ok (.goto 4, 3) := by decide +kernel
theorem dJ9_min_7cf53_9 : decode cJ9_min_7cf53 9 = .ok (.iload_n 1, 1) := by decide +kernel
theorem dJ9_min_7cf53_10 : decode cJ9_min_7cf53 10 = .ok (.ireturn, 1) := by decide +kernel
theorem dJ0_length_8abf5_0 : decode cJ0_length_8abf5 0 = .ok (.aload_n 0, 1) := by decide +kernel
theorem dJ0_length_8abf5_1 : decode cJ0_length_8abf5 1 = .ok (.getfield 9, 3) := by decide +kernel
theorem dJ0_length_8abf5_4 : decode cJ0_length_8abf5 4 = .ok (.arraylength, 1) := by decide +kernel
theorem dJ0_length_8abf5_5 : decode cJ0_length_8abf5 5 = .ok (.aload_n 0, 1) := by decide +kernel
theorem dJ0_length_8abf5_6 : decode cJ0_length_8abf5 6 = .ok (.invokevirtual 335, 3) := by decide +kernel
theorem dJ0_length_8abf5_9 : decode cJ0_length_8abf5 9 = .ok (.ishr, 1) := by decide +kernel
theorem dJ0_length_8abf5_10 : decode cJ0_length_8abf5 10 = .ok (.ireturn, 1) := by decide +kernel
theorem dJ0_charAt_5068e_0 : decode cJ0_charAt_5068e 0 = .ok (.aload_n 0, 1) := by decide +kernel
theorem dJ0_charAt_5068e_1 : decode cJ0_charAt_5068e 1 = .ok (.invokevirtual 492, 3) := by decide +kernel
theorem dJ0_charAt_5068e_4 : decode cJ0_charAt_5068e 4 = .ok (.ifCond .eq 12, 3) := by decide +kernel
theorem dJ0_charAt_5068e_7 : decode cJ0_charAt_5068e 7 = .ok (.aload_n 0, 1) := by decide +kernel
theorem dJ0_charAt_5068e_8 : decode cJ0_charAt_5068e 8 = .ok (.getfield 9, 3) := by decide +kernel
theorem dJ0_charAt_5068e_11 : decode cJ0_charAt_5068e 11 = .ok (.iload_n 1, 1) := by decide +kernel
theorem dJ0_charAt_5068e_12 : decode cJ0_charAt_5068e 12 = .ok (.invokestatic 495, 3) := by decide +kernel
theorem dJ0_charAt_5068e_15 : decode cJ0_charAt_5068e 15 = .ok (.ireturn, 1) := by decide +kernel
theorem dJ0_charAt_5068e_16 : decode cJ0_charAt_5068e 16 = .ok (.aload_n 0, 1) := by decide +kernel
theorem dJ0_charAt_5068e_17 : decode cJ0_charAt_5068e 17 = .ok (.getfield 9, 3) := by decide +kernel
theorem dJ0_charAt_5068e_20 : decode cJ0_charAt_5068e 20 = .ok (.iload_n 1, 1) := by decide +kernel
theorem dJ0_charAt_5068e_21 : decode cJ0_charAt_5068e 21 = .ok (.invokestatic 498, 3) := by decide +kernel
theorem dJ0_charAt_5068e_24 : decode cJ0_charAt_5068e 24 = .ok (.ireturn, 1) := by decide +kernel
theorem dJ0_coder_7d493_0 : decode cJ0_coder_7d493 0 = .ok (.getstatic 38, 3) := by decide +kernel
theorem dJ0_coder_7d493_3 : decode cJ0_coder_7d493 3 = .ok (.ifCond .eq 10, 3) := by decide +kernel
theorem dJ0_coder_7d493_6 : decode cJ0_coder_7d493 6 = .ok (.aload_n 0, 1) := by decide +kernel
theorem dJ0_coder_7d493_7 : decode cJ0_coder_7d493 7 = .ok (.getfield 15, 3) := by decide +kernel
theorem dJ0_coder_7d493_10 : decode cJ0_coder_7d493 10 = .ok (.goto 4, 3) := by decide +kernel
theorem dJ0_coder_7d493_13 : decode cJ0_coder_7d493 13 = .ok (.iconst 1, 1) := by decide +kernel
theorem dJ0_coder_7d493_14 : decode cJ0_coder_7d493 14 = .ok (.ireturn, 1) := by decide +kernel
theorem dJ0_isLatin1_aae02_0 : decode cJ0_isLatin1_aae02 0 = .ok (.getstatic 38, 3) := by decide +kernel
theorem dJ0_isLatin1_aae02_3 : decode cJ0_isLatin1_aae02 3 = .ok (.ifCond .eq 14, 3) := by decide +kernel
theorem dJ0_isLatin1_aae02_6 : decode cJ0_isLatin1_aae02 6 = .ok (.aload_n 0, 1) := by decide +kernel
theorem dJ0_isLatin1_aae02_7 : decode cJ0_isLatin1_aae02 7 = .ok (.getfield 15, 3) := by decide +kernel
theorem dJ0_isLatin1_aae02_10 : decode cJ0_isLatin1_aae02 10 = .ok (.ifCond .ne 7, 3) := by decide +kernel
theorem dJ0_isLatin1_aae02_13 : decode cJ0_isLatin1_aae02 13 = .ok (.iconst 1, 1) := by decide +kernel
theorem dJ0_isLatin1_aae02_14 : decode cJ0_isLatin1_aae02 14 = .ok (.goto 4, 3) := by decide +kernel
theorem dJ0_isLatin1_aae02_17 : decode cJ0_isLatin1_aae02 17 = .ok (.iconst 0, 1) := by decide +kernel
theorem dJ0_isLatin1_aae02_18 : decode cJ0_isLatin1_aae02 18 = .ok (.ireturn, 1) := by decide +kernel
theorem dJ0_checkIndex_df160_0 : decode cJ0_checkIndex_df160 0 = .ok (.iload_n 0, 1) := by decide +kernel
theorem dJ0_checkIndex_df160_1 : decode cJ0_checkIndex_df160 1 = .ok (.iload_n 1, 1) := by decide +kernel
theorem dJ0_checkIndex_df160_2 : decode cJ0_checkIndex_df160 2 = .ok (.getstatic 1053, 3) := by decide +kernel
theorem dJ0_checkIndex_df160_5 : decode cJ0_checkIndex_df160 5 = .ok (.invokestatic 1059, 3) := by decide +kernel
theorem dJ0_checkIndex_df160_8 : decode cJ0_checkIndex_df160 8 = .ok (.pop, 1) := by decide +kernel
theorem dJ0_checkIndex_df160_9 : decode cJ0_checkIndex_df160 9 = .ok (.return_, 1) := by decide +kernel
theorem dJ1_charAt_3b067_0 : decode cJ1_charAt_3b067 0 = .ok (.iload_n 1, 1) := by decide +kernel
theorem dJ1_charAt_3b067_1 : decode cJ1_charAt_3b067 1 = .ok (.aload_n 0, 1) := by decide +kernel
theorem dJ1_charAt_3b067_2 : decode cJ1_charAt_3b067 2 = .ok (.arraylength, 1) := by decide +kernel
theorem dJ1_charAt_3b067_3 : decode cJ1_charAt_3b067 3 = .ok (.invokestatic 9, 3) := by decide +kernel
theorem dJ1_charAt_3b067_6 : decode cJ1_charAt_3b067 6 = .ok (.aload_n 0, 1) := by decide +kernel
theorem dJ1_charAt_3b067_7 : decode cJ1_charAt_3b067 7 = .ok (.iload_n 1, 1) := by decide +kernel
theorem dJ1_charAt_3b067_8 : decode cJ1_charAt_3b067 8 = .ok (.baload, 1) := by decide +kernel
theorem dJ1_charAt_3b067_9 : decode cJ1_charAt_3b067 9 = .ok (.sipush 255, 3) := by decide +kernel
theorem dJ1_charAt_3b067_12 : decode cJ1_charAt_3b067 12 = .ok (.iand, 1) := by decide +kernel
theorem dJ1_charAt_3b067_13 : decode cJ1_charAt_3b067 13 = .ok (.i2c, 1) := by decide +kernel
theorem dJ1_charAt_3b067_14 : decode cJ1_charAt_3b067 14 = .ok (.ireturn, 1) := by decide +kernel
theorem dJ2_getChar_3b067_0 : decode cJ2_getChar_3b067 0 = .ok (.getstatic 44, 3) := by decide +kernel
theorem dJ2_getChar_3b067_3 : decode cJ2_getChar_3b067 3 = .ok (.ifCond .ne 25, 3) := by decide +kernel
theorem dJ2_getChar_3b067_6 : decode cJ2_getChar_3b067 6 = .ok (.iload_n 1, 1) := by decide +kernel
theorem dJ2_getChar_3b067_7 : decode cJ2_getChar_3b067 7 = .ok (.ifCond .lt 11, 3) := by decide +kernel
theorem dJ2_getChar_3b067_10 : decode cJ2_getChar_3b067 10 = .ok (.iload_n 1, 1) := by decide +kernel
theorem dJ2_getChar_3b067_11 : decode cJ2_getChar_3b067 11 = .ok (.aload_n 0, 1) := by decide +kernel
theorem dJ2_getChar_3b067_12 : decode cJ2_getChar_3b067 12 = .ok (.invokestatic 48, 3) := by decide +kernel
theorem dJ2_getChar_3b067_15 : decode cJ2_getChar_3b067 15 = .ok (.if_icmp .lt 13, 3) := by decide +kernel
theorem dJ2_getChar_3b067_18 : decode cJ2_getChar_3b067 18 = .ok (.new 52, 3) := by decide +kernel
theorem dJ2_getChar_3b067_21 : decode cJ2_getChar_3b067 21 = .ok (.dup, 1) := by decide +kernel
theorem dJ2_getChar_3b067_22 : decode cJ2_getChar_3b067 22 = .ok (.ldc 54, 2) := by decide +kernel
theorem dJ2_getChar_3b067_24 : decode cJ2_getChar_3b067 24 = .ok (.invokespecial 56, 3) := by decide +kernel
theorem dJ2_getChar_3b067_27 : decode cJ2_getChar_3b067 27 = .ok (.athrow, 1) := by decide +kernel
theorem dJ2_getChar_3b067_28 : decode cJ2_getChar_3b067 28 = .ok (.iload_n 1, 1) := by decide +kernel
theorem dJ2_getChar_3b067_29 : decode cJ2_getChar_3b067 29 = .ok (.iconst 1, 1) := by decide +kernel
theorem dJ2_getChar_3b067_30 : decode cJ2_getChar_3b067 30 = .ok (.ishl, 1) := by decide +kernel
theorem dJ2_getChar_3b067_31 : decode cJ2_getChar_3b067 31 = .ok (.istore_n 1, 1) := by decide +kernel
theorem dJ2_getChar_3b067_32 : decode cJ2_getChar_3b067 32 = .ok (.aload_n 0, 1) := by decide +kernel
theorem dJ2_getChar_3b067_33 : decode cJ2_getChar_3b067 33 = .ok (.iload_n 1, 1) := by decide +kernel
theorem dJ2_getChar_3b067_34 : decode cJ2_getChar_3b067 34 = .ok (.iinc 1 1, 3) := by decide +kernel
theorem dJ2_getChar_3b067_37 : decode cJ2_getChar_3b067 37 = .ok (.baload, 1) := by decide +kernel
theorem dJ2_getChar_3b067_38 : decode cJ2_getChar_3b067 38 = .ok (.sipush 255, 3) := by decide +kernel
theorem dJ2_getChar_3b067_41 : decode cJ2_getChar_3b067 41 = .ok (.iand, 1) := by decide +kernel
theorem dJ2_getChar_3b067_42 : decode cJ2_getChar_3b067 42 = .ok (.getstatic 59, 3) := by decide +kernel
theorem dJ2_getChar_3b067_45 : decode cJ2_getChar_3b067 45 = .ok (.ishl, 1) := by decide +kernel
theorem dJ2_getChar_3b067_46 : decode cJ2_getChar_3b067 46 = .ok (.aload_n 0, 1) := by decide +kernel
theorem dJ2_getChar_3b067_47 : decode cJ2_getChar_3b067 47 = .ok (.iload_n 1, 1) := by decide +kernel
theorem dJ2_getChar_3b067_48 : decode cJ2_getChar_3b067 48 = .ok (.baload, 1) := by decide +kernel
theorem dJ2_getChar_3b067_49 : decode cJ2_getChar_3b067 49 = .ok (.sipush 255, 3) := by decide +kernel
theorem dJ2_getChar_3b067_52 : decode cJ2_getChar_3b067 52 = .ok (.iand, 1) := by decide +kernel
theorem dJ2_getChar_3b067_53 : decode cJ2_getChar_3b067 53 = .ok (.getstatic 63, 3) := by decide +kernel
theorem dJ2_getChar_3b067_56 : decode cJ2_getChar_3b067 56 = .ok (.ishl, 1) := by decide +kernel
theorem dJ2_getChar_3b067_57 : decode cJ2_getChar_3b067 57 = .ok (.ior, 1) := by decide +kernel
theorem dJ2_getChar_3b067_58 : decode cJ2_getChar_3b067 58 = .ok (.i2c, 1) := by decide +kernel
theorem dJ2_getChar_3b067_59 : decode cJ2_getChar_3b067 59 = .ok (.ireturn, 1) := by decide +kernel
theorem dJ2_length_9d52b_0 : decode cJ2_length_9d52b 0 = .ok (.aload_n 0, 1) := by decide +kernel
theorem dJ2_length_9d52b_1 : decode cJ2_length_9d52b 1 = .ok (.arraylength, 1) := by decide +kernel
theorem dJ2_length_9d52b_2 : decode cJ2_length_9d52b 2 = .ok (.iconst 1, 1) := by decide +kernel
theorem dJ2_length_9d52b_3 : decode cJ2_length_9d52b 3 = .ok (.ishr, 1) := by decide +kernel
theorem dJ2_length_9d52b_4 : decode cJ2_length_9d52b 4 = .ok (.ireturn, 1) := by decide +kernel
theorem dJ2_charAt_3b067_0 : decode cJ2_charAt_3b067 0 = .ok (.iload_n 1, 1) := by decide +kernel
theorem dJ2_charAt_3b067_1 : decode cJ2_charAt_3b067 1 = .ok (.aload_n 0, 1) := by decide +kernel
theorem dJ2_charAt_3b067_2 : decode cJ2_charAt_3b067 2 = .ok (.invokestatic 67, 3) := by decide +kernel
theorem dJ2_charAt_3b067_5 : decode cJ2_charAt_3b067 5 = .ok (.aload_n 0, 1) := by decide +kernel
theorem dJ2_charAt_3b067_6 : decode cJ2_charAt_3b067 6 = .ok (.iload_n 1, 1) := by decide +kernel
theorem dJ2_charAt_3b067_7 : decode cJ2_charAt_3b067 7 = .ok (.invokestatic 71, 3) := by decide +kernel
theorem dJ2_charAt_3b067_10 : decode cJ2_charAt_3b067 10 = .ok (.ireturn, 1) := by decide +kernel
theorem dJ2_checkIndex_2214a_0 : decode cJ2_checkIndex_2214a 0 = .ok (.iload_n 0, 1) := by decide +kernel
theorem dJ2_checkIndex_2214a_1 : decode cJ2_checkIndex_2214a 1 = .ok (.aload_n 1, 1) := by decide +kernel
theorem dJ2_checkIndex_2214a_2 : decode cJ2_checkIndex_2214a 2 = .ok (.invokestatic 48, 3) := by decide +kernel
theorem dJ2_checkIndex_2214a_5 : decode cJ2_checkIndex_2214a 5 = .ok (.invokestatic 414, 3) := by decide +kernel
theorem dJ2_checkIndex_2214a_8 : decode cJ2_checkIndex_2214a 8 = .ok (.return_, 1) := by decide +kernel
theorem dJ3_checkIndex_8e157_0 : decode cJ3_checkIndex_8e157 0 = .ok (.iload_n 0, 1) := by decide +kernel
theorem dJ3_checkIndex_8e157_1 : decode cJ3_checkIndex_8e157 1 = .ok (.ifCond .lt 8, 3) := by decide +kernel
theorem dJ3_checkIndex_8e157_4 : decode cJ3_checkIndex_8e157 4 = .ok (.iload_n 0, 1) := by decide +kernel
theorem dJ3_checkIndex_8e157_5 : decode cJ3_checkIndex_8e157 5 = .ok (.iload_n 1, 1) := by decide +kernel
theorem dJ3_checkIndex_8e157_6 : decode cJ3_checkIndex_8e157 6 = .ok (.if_icmp .lt 10, 3) := by decide +kernel
theorem dJ3_checkIndex_8e157_9 : decode cJ3_checkIndex_8e157 9 = .ok (.aload_n 2, 1) := by decide +kernel
theorem dJ3_checkIndex_8e157_10 : decode cJ3_checkIndex_8e157 10 = .ok (.iload_n 0, 1) := by decide +kernel
theorem dJ3_checkIndex_8e157_11 : decode cJ3_checkIndex_8e157 11 = .ok (.iload_n 1, 1) := by decide +kernel
theorem dJ3_checkIndex_8e157_12 : decode cJ3_checkIndex_8e157 12 = .ok (.invokestatic 95, 3) := by decide +kernel
theorem dJ3_checkIndex_8e157_15 : decode cJ3_checkIndex_8e157 15 = .ok (.athrow, 1) := by decide +kernel
theorem dJ3_checkIndex_8e157_16 : decode cJ3_checkIndex_8e157 16 = .ok (.iload_n 0, 1) := by decide +kernel
theorem dJ3_checkIndex_8e157_17 : decode cJ3_checkIndex_8e157 17 = .ok (.ireturn, 1) := by decide +kernel
