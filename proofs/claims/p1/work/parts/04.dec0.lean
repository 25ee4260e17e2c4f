theorem dJ7_fill_53178_0 : decode cJ7_fill_53178 0 = .ok (.iconst 0, 1) := by decide +kernel
theorem dJ7_fill_53178_1 : decode cJ7_fill_53178 1 = .ok (.istore_n 2, 1) := by decide +kernel
theorem dJ7_fill_53178_2 : decode cJ7_fill_53178 2 = .ok (.aload_n 0, 1) := by decide +kernel
theorem dJ7_fill_53178_3 : decode cJ7_fill_53178 3 = .ok (.arraylength, 1) := by decide +kernel
theorem dJ7_fill_53178_4 : decode cJ7_fill_53178 4 = .ok (.istore_n 3, 1) := by decide +kernel
theorem dJ7_fill_53178_5 : decode cJ7_fill_53178 5 = .ok (.iload_n 2, 1) := by decide +kernel
theorem dJ7_fill_53178_6 : decode cJ7_fill_53178 6 = .ok (.iload_n 3, 1) := by decide +kernel
theorem dJ7_fill_53178_7 : decode cJ7_fill_53178 7 = .ok (.if_icmp .ge 13, 3) := by decide +kernel
theorem dJ7_fill_53178_10 : decode cJ7_fill_53178 10 = .ok (.aload_n 0, 1) := by decide +kernel
theorem dJ7_fill_53178_11 : decode cJ7_fill_53178 11 = .ok (.iload_n 2, 1) := by decide +kernel
theorem dJ7_fill_53178_12 : decode cJ7_fill_53178 12 = .ok (.iload_n 1, 1) := by decide +kernel
theorem dJ7_fill_53178_13 : decode cJ7_fill_53178 13 = .ok (.iastore, 1) := by decide +kernel
theorem dJ7_fill_53178_14 : decode cJ7_fill_53178 14 = .ok (.iinc 2 1, 3) := by decide +kernel
theorem dJ7_fill_53178_17 : decode cJ7_fill_53178 17 = .ok (.goto (-12), 3) := by decide +kernel
theorem dJ7_fill_53178_20 : decode cJ7_fill_53178 20 = .ok (.return_, 1) := by decide +kernel
theorem dJ7_fill_d0a16_0 : decode cJ7_fill_d0a16 0 = .ok (.iconst 0, 1) := by decide +kernel
theorem dJ7_fill_d0a16_1 : decode cJ7_fill_d0a16 1 = .ok (.istore_n 3, 1) := by decide +kernel
theorem dJ7_fill_d0a16_2 : decode cJ7_fill_d0a16 2 = .ok (.aload_n 0, 1) := by decide +kernel
theorem dJ7_fill_d0a16_3 : decode cJ7_fill_d0a16 3 = .ok (.arraylength, 1) := by decide +kernel
theorem dJ7_fill_d0a16_4 : decode cJ7_fill_d0a16 4 = .ok (.istore 4, 2) := by decide +kernel
theorem dJ7_fill_d0a16_6 : decode cJ7_fill_d0a16 6 = .ok (.iload_n 3, 1) := by decide +kernel
theorem dJ7_fill_d0a16_7 : decode cJ7_fill_d0a16 7 = .ok (.iload 4, 2) := by decide +kernel
theorem dJ7_fill_d0a16_9 : decode cJ7_fill_d0a16 9 = .ok (.if_icmp .ge 13, 3) := by decide +kernel
theorem dJ7_fill_d0a16_12 : decode cJ7_fill_d0a16 12 = .ok (.aload_n 0, 1) := by decide +kernel
theorem dJ7_fill_d0a16_13 : decode cJ7_fill_d0a16 13 = .ok (.iload_n 3, 1) := by decide +kernel
theorem dJ7_fill_d0a16_14 : decode cJ7_fill_d0a16 14 = .ok (.lload_n 1, 1) := by decide +kernel
theorem dJ7_fill_d0a16_15 : decode cJ7_fill_d0a16 15 = .ok (.lastore, 1) := by decide +kernel
theorem dJ7_fill_d0a16_16 : decode cJ7_fill_d0a16 16 = .ok (.iinc 3 1, 3) := by decide +kernel
theorem dJ7_fill_d0a16_19 : decode cJ7_fill_d0a16 19 = .ok (.goto (-13), 3) := by decide +kernel
theorem dJ7_fill_d0a16_22 : decode cJ7_fill_d0a16 22 = .ok (.return_, 1) := by decide +kernel
theorem dX0_clear_0 : decode cX0_clear 0 = .ok (.aload_n 0, 1) := by decide +kernel
theorem dX0_clear_1 : decode cX0_clear 1 = .ok (.iconst 0, 1) := by decide +kernel
theorem dX0_clear_2 : decode cX0_clear 2 = .ok (.putfield 9, 3) := by decide +kernel
theorem dX0_clear_5 : decode cX0_clear 5 = .ok (.aload_n 0, 1) := by decide +kernel
theorem dX0_clear_6 : decode cX0_clear 6 = .ok (.iconst 0, 1) := by decide +kernel
theorem dX0_clear_7 : decode cX0_clear 7 = .ok (.putfield 15, 3) := by decide +kernel
theorem dX0_clear_10 : decode cX0_clear 10 = .ok (.aload_n 0, 1) := by decide +kernel
theorem dX0_clear_11 : decode cX0_clear 11 = .ok (.iconst 0, 1) := by decide +kernel
theorem dX0_clear_12 : decode cX0_clear 12 = .ok (.putfield 18, 3) := by decide +kernel
theorem dX0_clear_15 : decode cX0_clear 15 = .ok (.aload_n 0, 1) := by decide +kernel
theorem dX0_clear_16 : decode cX0_clear 16 = .ok (.iconst 0, 1) := by decide +kernel
theorem dX0_clear_17 : decode cX0_clear 17 = .ok (.putfield 21, 3) := by decide +kernel
theorem dX0_clear_20 : decode cX0_clear 20 = .ok (.aload_n 0, 1) := by decide +kernel
theorem dX0_clear_21 : decode cX0_clear 21 = .ok (.iconst 0, 1) := by decide +kernel
theorem dX0_clear_22 : decode cX0_clear 22 = .ok (.putfield 24, 3) := by decide +kernel
theorem dX0_clear_25 : decode cX0_clear 25 = .ok (.aload_n 0, 1) := by decide +kernel
theorem dX0_clear_26 : decode cX0_clear 26 = .ok (.iconst 0, 1) := by decide +kernel
theorem dX0_clear_27 : decode cX0_clear 27 = .ok (.putfield 27, 3) := by decide +kernel
theorem dX0_clear_30 : decode cX0_clear 30 = .ok (.aload_n 0, 1) := by decide +kernel
theorem dX0_clear_31 : decode cX0_clear 31 = .ok (.lconst 0, 1) := by decide +kernel
theorem dX0_clear_32 : decode cX0_clear 32 = .ok (.putfield 30, 3) := by decide +kernel
theorem dX0_clear_35 : decode cX0_clear 35 = .ok (.aload_n 0, 1) := by decide +kernel
theorem dX0_clear_36 : decode cX0_clear 36 = .ok (.getfield 43, 3) := by decide +kernel
theorem dX0_clear_39 : decode cX0_clear 39 = .ok (.iconst 0, 1) := by decide +kernel
theorem dX0_clear_40 : decode cX0_clear 40 = .ok (.putfield 73, 3) := by decide +kernel
theorem dX0_clear_43 : decode cX0_clear 43 = .ok (.aload_n 0, 1) := by decide +kernel
theorem dX0_clear_44 : decode cX0_clear 44 = .ok (.getfield 47, 3) := by decide +kernel
theorem dX0_clear_47 : decode cX0_clear 47 = .ok (.iconst 0, 1) := by decide +kernel
theorem dX0_clear_48 : decode cX0_clear 48 = .ok (.putfield 73, 3) := by decide +kernel
theorem dX0_clear_51 : decode cX0_clear 51 = .ok (.aload_n 0, 1) := by decide +kernel
theorem dX0_clear_52 : decode cX0_clear 52 = .ok (.getfield 50, 3) := by decide +kernel
theorem dX0_clear_55 : decode cX0_clear 55 = .ok (.iconst 0, 1) := by decide +kernel
theorem dX0_clear_56 : decode cX0_clear 56 = .ok (.putfield 73, 3) := by decide +kernel
theorem dX0_clear_59 : decode cX0_clear 59 = .ok (.aload_n 0, 1) := by decide +kernel
theorem dX0_clear_60 : decode cX0_clear 60 = .ok (.getfield 65, 3) := by decide +kernel
theorem dX0_clear_63 : decode cX0_clear 63 = .ok (.invokevirtual 76, 3) := by decide +kernel
theorem dX0_clear_66 : decode cX0_clear 66 = .ok (.aload_n 0, 1) := by decide +kernel
theorem dX0_clear_67 : decode cX0_clear 67 = .ok (.getfield 34, 3) := by decide +kernel
theorem dX0_clear_70 : decode cX0_clear 70 = .ok (.iconst (-1), 1) := by decide +kernel
theorem dX0_clear_71 : decode cX0_clear 71 = .ok (.invokestatic 77, 3) := by decide +kernel
theorem dX0_clear_74 : decode cX0_clear 74 = .ok (.aload_n 0, 1) := by decide +kernel
theorem dX0_clear_75 : decode cX0_clear 75 = .ok (.getfield 53, 3) := by decide +kernel
theorem dX0_clear_78 : decode cX0_clear 78 = .ok (.iconst (-1), 1) := by decide +kernel
theorem dX0_clear_79 : decode cX0_clear 79 = .ok (.invokestatic 77, 3) := by decide +kernel
theorem dX0_clear_82 : decode cX0_clear 82 = .ok (.return_, 1) := by decide +kernel
theorem dX0_hasCell_0 : decode cX0_hasCell 0 = .ok (.iload_n 1, 1) := by decide +kernel
theorem dX0_hasCell_1 : decode cX0_hasCell 1 = .ok (.ifCond .lt 27, 3) := by decide +kernel
theorem dX0_hasCell_4 : decode cX0_hasCell 4 = .ok (.iload_n 1, 1) := by decide +kernel
theorem dX0_hasCell_5 : decode cX0_hasCell 5 = .ok (.aload_n 0, 1) := by decide +kernel
theorem dX0_hasCell_6 : decode cX0_hasCell 6 = .ok (.getfield 9, 3) := by decide +kernel
theorem dX0_hasCell_9 : decode cX0_hasCell 9 = .ok (.if_icmp .ge 19, 3) := by decide +kernel
theorem dX0_hasCell_28 : decode cX0_hasCell 28 = .ok (.iconst 0, 1) := by decide +kernel
theorem dX0_hasCell_29 : decode cX0_hasCell 29 = .ok (.ireturn, 1) := by decide +kernel
theorem dX0_hasDeed_0 : decode cX0_hasDeed 0 = .ok (.iload_n 1, 1) := by decide +kernel
theorem dX0_hasDeed_1 : decode cX0_hasDeed 1 = .ok (.ifCond .lt 18, 3) := by decide +kernel
theorem dX0_hasDeed_4 : decode cX0_hasDeed 4 = .ok (.iload_n 1, 1) := by decide +kernel
theorem dX0_hasDeed_5 : decode cX0_hasDeed 5 = .ok (.aload_n 0, 1) := by decide +kernel
theorem dX0_hasDeed_6 : decode cX0_hasDeed 6 = .ok (.getfield 47, 3) := by decide +kernel
theorem dX0_hasDeed_9 : decode cX0_hasDeed 9 = .ok (.getfield 73, 3) := by decide +kernel
theorem dX0_hasDeed_12 : decode cX0_hasDeed 12 = .ok (.if_icmp .ge 7, 3) := by decide +kernel
theorem dX0_hasDeed_19 : decode cX0_hasDeed 19 = .ok (.iconst 0, 1) := by decide +kernel
theorem dX0_hasDeed_20 : decode cX0_hasDeed 20 = .ok (.ireturn, 1) := by decide +kernel
theorem dX0_hasDeeds_0 : decode cX0_hasDeeds 0 = .ok (.iload_n 1, 1) := by decide +kernel
theorem dX0_hasDeeds_1 : decode cX0_hasDeeds 1 = .ok (.ifCond .lt 20, 3) := by decide +kernel
theorem dX0_hasDeeds_4 : decode cX0_hasDeeds 4 = .ok (.iload_n 1, 1) := by decide +kernel
theorem dX0_hasDeeds_5 : decode cX0_hasDeeds 5 = .ok (.iconst 1, 1) := by decide +kernel
theorem dX0_hasDeeds_6 : decode cX0_hasDeeds 6 = .ok (.aload_n 0, 1) := by decide +kernel
theorem dX0_hasDeeds_7 : decode cX0_hasDeeds 7 = .ok (.getfield 47, 3) := by decide +kernel
theorem dX0_hasDeeds_10 : decode cX0_hasDeeds 10 = .ok (.getfield 73, 3) := by decide +kernel
theorem dX0_hasDeeds_13 : decode cX0_hasDeeds 13 = .ok (.ishl, 1) := by decide +kernel
theorem dX0_hasDeeds_14 : decode cX0_hasDeeds 14 = .ok (.if_icmp .ge 7, 3) := by decide +kernel
theorem dX0_hasDeeds_17 : decode cX0_hasDeeds 17 = .ok (.iconst 1, 1) := by decide +kernel
theorem dX0_hasDeeds_18 : decode cX0_hasDeeds 18 = .ok (.goto 4, 3) := by decide +kernel
theorem dX0_hasDeeds_21 : decode cX0_hasDeeds 21 = .ok (.iconst 0, 1) := by decide +kernel
theorem dX0_hasDeeds_22 : decode cX0_hasDeeds 22 = .ok (.ireturn, 1) := by decide +kernel
theorem dX0_hasMinute_0 : decode cX0_hasMinute 0 = .ok (.iload_n 1, 1) := by decide +kernel
theorem dX0_hasMinute_1 : decode cX0_hasMinute 1 = .ok (.ifCond .lt 15, 3) := by decide +kernel
theorem dX0_hasMinute_4 : decode cX0_hasMinute 4 = .ok (.iload_n 1, 1) := by decide +kernel
theorem dX0_hasMinute_5 : decode cX0_hasMinute 5 = .ok (.aload_n 0, 1) := by decide +kernel
theorem dX0_hasMinute_6 : decode cX0_hasMinute 6 = .ok (.getfield 18, 3) := by decide +kernel
theorem dX0_hasMinute_9 : decode cX0_hasMinute 9 = .ok (.if_icmp .ge 7, 3) := by decide +kernel
theorem dX0_hasMinute_16 : decode cX0_hasMinute 16 = .ok (.iconst 0, 1) := by decide +kernel
theorem dX0_hasMinute_17 : decode cX0_hasMinute 17 = .ok (.ireturn, 1) := by decide +kernel
theorem dX0_hasSpot_0 : decode cX0_hasSpot 0 = .ok (.aload_n 0, 1) := by decide +kernel
theorem dX0_hasSpot_1 : decode cX0_hasSpot 1 = .ok (.iload_n 1, 1) := by decide +kernel
theorem dX0_hasSpot_2 : decode cX0_hasSpot 2 = .ok (.iload_n 2, 1) := by decide +kernel
theorem dX0_hasSpot_3 : decode cX0_hasSpot 3 = .ok (.invokevirtual 83, 3) := by decide +kernel
theorem dX0_hasSpot_6 : decode cX0_hasSpot 6 = .ok (.ifCond .eq 15, 3) := by decide +kernel
theorem dX0_hasSpot_21 : decode cX0_hasSpot 21 = .ok (.iconst 0, 1) := by decide +kernel
theorem dX0_hasSpot_22 : decode cX0_hasSpot 22 = .ok (.ireturn, 1) := by decide +kernel
theorem dX0_hasWitness_0 : decode cX0_hasWitness 0 = .ok (.iload_n 1, 1) := by decide +kernel
theorem dX0_hasWitness_1 : decode cX0_hasWitness 1 = .ok (.ifCond .lt 18, 3) := by decide +kernel
theorem dX0_hasWitness_4 : decode cX0_hasWitness 4 = .ok (.iload_n 1, 1) := by decide +kernel
theorem dX0_hasWitness_5 : decode cX0_hasWitness 5 = .ok (.aload_n 0, 1) := by decide +kernel
theorem dX0_hasWitness_6 : decode cX0_hasWitness 6 = .ok (.getfield 50, 3) := by decide +kernel
theorem dX0_hasWitness_9 : decode cX0_hasWitness 9 = .ok (.getfield 73, 3) := by decide +kernel
theorem dX0_hasWitness_12 : decode cX0_hasWitness 12 = .ok (.if_icmp .ge 7, 3) := by decide +kernel
theorem dX0_hasWitness_19 : decode cX0_hasWitness 19 = .ok (.iconst 0, 1) := by decide +kernel
theorem dX0_hasWitness_20 : decode cX0_hasWitness 20 = .ok (.ireturn, 1) := by decide +kernel
theorem dX0_init_0 : decode cX0_init 0 = .ok (.aload_n 0, 1) := by decide +kernel
theorem dX0_init_1 : decode cX0_init 1 = .ok (.invokespecial 3, 3) := by decide +kernel
theorem dX0_init_4 : decode cX0_init 4 = .ok (.aload_n 0, 1) := by decide +kernel
theorem dX0_init_5 : decode cX0_init 5 = .ok (.iconst 0, 1) := by decide +kernel
theorem dX0_init_6 : decode cX0_init 6 = .ok (.putfield 9, 3) := by decide +kernel
theorem dX0_init_9 : decode cX0_init 9 = .ok (.aload_n 0, 1) := by decide +kernel
theorem dX0_init_10 : decode cX0_init 10 = .ok (.iconst 0, 1) := by decide +kernel
theorem dX0_init_11 : decode cX0_init 11 = .ok (.putfield 15, 3) := by decide +kernel
theorem dX0_init_14 : decode cX0_init 14 = .ok (.aload_n 0, 1) := by decide +kernel
theorem dX0_init_15 : decode cX0_init 15 = .ok (.iconst 0, 1) := by decide +kernel
theorem dX0_init_16 : decode cX0_init 16 = .ok (.putfield 18, 3) := by decide +kernel
theorem dX0_init_19 : decode cX0_init 19 = .ok (.aload_n 0, 1) := by decide +kernel
theorem dX0_init_20 : decode cX0_init 20 = .ok (.iconst 0, 1) := by decide +kernel
theorem dX0_init_21 : decode cX0_init 21 = .ok (.putfield 21, 3) := by decide +kernel
theorem dX0_init_24 : decode cX0_init 24 = .ok (.aload_n 0, 1) := by decide +kernel
theorem dX0_init_25 : decode cX0_init 25 = .ok (.iconst 0, 1) := by decide +kernel
theorem dX0_init_26 : decode cX0_init 26 = .ok (.putfield 24, 3) := by decide +kernel
theorem dX0_init_29 : decode cX0_init 29 = .ok (.aload_n 0, 1) := by decide +kernel
theorem dX0_init_30 : decode cX0_init 30 = .ok (.iconst 0, 1) := by decide +kernel
theorem dX0_init_31 : decode cX0_init 31 = .ok (.putfield 27, 3) := by decide +kernel
theorem dX0_init_34 : decode cX0_init 34 = .ok (.aload_n 0, 1) := by decide +kernel
theorem dX0_init_35 : decode cX0_init 35 = .ok (.lconst 0, 1) := by decide +kernel
theorem dX0_init_36 : decode cX0_init 36 = .ok (.putfield 30, 3) := by decide +kernel
theorem dX0_init_39 : decode cX0_init 39 = .ok (.aload_n 0, 1) := by decide +kernel
theorem dX0_init_40 : decode cX0_init 40 = .ok (.iconst 5, 1) := by decide +kernel
theorem dX0_init_41 : decode cX0_init 41 = .ok (.newarray .int, 2) := by decide +kernel
theorem dX0_init_43 : decode cX0_init 43 = .ok (.putfield 34, 3) := by decide +kernel
theorem dX0_init_46 : decode cX0_init 46 = .ok (.aload_n 0, 1) := by decide +kernel
theorem dX0_init_47 : decode cX0_init 47 = .ok (.new 38, 3) := by decide +kernel
theorem dX0_init_50 : decode cX0_init 50 = .ok (.dup, 1) := by decide +kernel
theorem dX0_init_51 : decode cX0_init 51 = .ok (.iconst 4, 1) := by decide +kernel
theorem dX0_init_52 : decode cX0_init 52 = .ok (.invokespecial 40, 3) := by decide +kernel
theorem dX0_init_55 : decode cX0_init 55 = .ok (.putfield 43, 3) := by decide +kernel
theorem dX0_init_58 : decode cX0_init 58 = .ok (.aload_n 0, 1) := by decide +kernel
theorem dX0_init_59 : decode cX0_init 59 = .ok (.new 38, 3) := by decide +kernel
theorem dX0_init_62 : decode cX0_init 62 = .ok (.dup, 1) := by decide +kernel
theorem dX0_init_63 : decode cX0_init 63 = .ok (.bipush 8, 2) := by decide +kernel
theorem dX0_init_65 : decode cX0_init 65 = .ok (.invokespecial 40, 3) := by decide +kernel
theorem dX0_init_68 : decode cX0_init 68 = .ok (.putfield 47, 3) := by decide +kernel
theorem dX0_init_71 : decode cX0_init 71 = .ok (.aload_n 0, 1) := by decide +kernel
theorem dX0_init_72 : decode cX0_init 72 = .ok (.new 38, 3) := by decide +kernel
theorem dX0_init_75 : decode cX0_init 75 = .ok (.dup, 1) := by decide +kernel
theorem dX0_init_76 : decode cX0_init 76 = .ok (.bipush 10, 2) := by decide +kernel
theorem dX0_init_78 : decode cX0_init 78 = .ok (.invokespecial 40, 3) := by decide +kernel
theorem dX0_init_81 : decode cX0_init 81 = .ok (.putfield 50, 3) := by decide +kernel
theorem dX0_init_84 : decode cX0_init 84 = .ok (.aload_n 0, 1) := by decide +kernel
theorem dX0_init_85 : decode cX0_init 85 = .ok (.sipush 160, 3) := by decide +kernel
theorem dX0_init_88 : decode cX0_init 88 = .ok (.newarray .int, 2) := by decide +kernel
theorem dX0_init_90 : decode cX0_init 90 = .ok (.putfield 53, 3) := by decide +kernel
theorem dX0_init_93 : decode cX0_init 93 = .ok (.aload_n 0, 1) := by decide +kernel
theorem dX0_init_94 : decode cX0_init 94 = .ok (.bipush 10, 2) := by decide +kernel
theorem dX0_init_96 : decode cX0_init 96 = .ok (.anewarray 56, 3) := by decide +kernel
theorem dX0_init_99 : decode cX0_init 99 = .ok (.putfield 58, 3) := by decide +kernel
theorem dX0_init_102 : decode cX0_init 102 = .ok (.aload_n 0, 1) := by decide +kernel
theorem dX0_init_103 : decode cX0_init 103 = .ok (.new 62, 3) := by decide +kernel
theorem dX0_init_106 : decode cX0_init 106 = .ok (.dup, 1) := by decide +kernel
theorem dX0_init_107 : decode cX0_init 107 = .ok (.invokespecial 64, 3) := by decide +kernel
theorem dX0_init_110 : decode cX0_init 110 = .ok (.putfield 65, 3) := by decide +kernel
theorem dX0_init_113 : decode cX0_init 113 = .ok (.iconst 0, 1) := by decide +kernel
theorem dX0_init_114 : decode cX0_init 114 = .ok (.istore_n 1, 1) := by decide +kernel
theorem dX0_init_115 : decode cX0_init 115 = .ok (.iload_n 1, 1) := by decide +kernel
theorem dX0_init_116 : decode cX0_init 116 = .ok (.bipush 10, 2) := by decide +kernel
theorem dX0_init_118 : decode cX0_init 118 = .ok (.if_icmp .ge 22, 3) := by decide +kernel
theorem dX0_init_121 : decode cX0_init 121 = .ok (.aload_n 0, 1) := by decide +kernel
theorem dX0_init_122 : decode cX0_init 122 = .ok (.getfield 58, 3) := by decide +kernel
theorem dX0_init_125 : decode cX0_init 125 = .ok (.iload_n 1, 1) := by decide +kernel
theorem dX0_init_126 : decode cX0_init 126 = .ok (.new 56, 3) := by decide +kernel
theorem dX0_init_129 : decode cX0_init 129 = .ok (.dup, 1) := by decide +kernel
theorem dX0_init_130 : decode cX0_init 130 = .ok (.invokespecial 69, 3) := by decide +kernel
theorem dX0_init_133 : decode cX0_init 133 = .ok (.aastore, 1) := by decide +kernel
theorem dX0_init_134 : decode cX0_init 134 = .ok (.iinc 1 1, 3) := by decide +kernel
theorem dX0_init_137 : decode cX0_init 137 = .ok (.goto (-22), 3) := by decide +kernel
theorem dX0_init_140 : decode cX0_init 140 = .ok (.aload_n 0, 1) := by decide +kernel
theorem dX0_init_141 : decode cX0_init 141 = .ok (.invokevirtual 70, 3) := by decide +kernel
theorem dX0_init_144 : decode cX0_init 144 = .ok (.return_, 1) := by decide +kernel
theorem dX10_about_0 : decode cX10_about 0 = .ok (.iload_n 1, 1) := by decide +kernel
theorem dX10_about_1 : decode cX10_about 1 = .ok (.tableswitch 144 0 10 #[59, 69, 79, 89, 99, 109, 114, 119, 124, 129, 134], 59) := by decide +kernel
theorem dX10_about_60 : decode cX10_about 60 = .ok (.aload_n 0, 1) := by decide +kernel
theorem dX10_about_61 : decode cX10_about 61 = .ok (.getfield 20, 3) := by decide +kernel
theorem dX10_about_64 : decode cX10_about 64 = .ok (.aload_n 0, 1) := by decide +kernel
theorem dX10_about_65 : decode cX10_about 65 = .ok (.getfield 300, 3) := by decide +kernel
theorem dX10_about_68 : decode cX10_about 68 = .ok (.iaload, 1) := by decide +kernel
theorem dX10_about_69 : decode cX10_about 69 = .ok (.ireturn, 1) := by decide +kernel
theorem dX10_about_70 : decode cX10_about 70 = .ok (.aload_n 0, 1) := by decide +kernel
theorem dX10_about_71 : decode cX10_about 71 = .ok (.getfield 24, 3) := by decide +kernel
theorem dX10_about_74 : decode cX10_about 74 = .ok (.aload_n 0, 1) := by decide +kernel
theorem dX10_about_75 : decode cX10_about 75 = .ok (.getfield 300, 3) := by decide +kernel
theorem dX10_about_78 : decode cX10_about 78 = .ok (.iaload, 1) := by decide +kernel
theorem dX10_about_79 : decode cX10_about 79 = .ok (.ireturn, 1) := by decide +kernel
theorem dX10_about_80 : decode cX10_about 80 = .ok (.aload_n 0, 1) := by decide +kernel
theorem dX10_about_81 : decode cX10_about 81 = .ok (.getfield 27, 3) := by decide +kernel
theorem dX10_about_84 : decode cX10_about 84 = .ok (.aload_n 0, 1) := by decide +kernel
theorem dX10_about_85 : decode cX10_about 85 = .ok (.getfield 300, 3) := by decide +kernel
theorem dX10_about_88 : decode cX10_about 88 = .ok (.iaload, 1) := by decide +kernel
theorem dX10_about_89 : decode cX10_about 89 = .ok (.ireturn, 1) := by decide +kernel
theorem dX10_about_90 : decode cX10_about 90 = .ok (.aload_n 0, 1) := by decide +kernel
theorem dX10_about_91 : decode cX10_about 91 = .ok (.getfield 30, 3) := by decide +kernel
theorem dX10_about_94 : decode cX10_about 94 = .ok (.aload_n 0, 1) := by decide +kernel
theorem dX10_about_95 : decode cX10_about 95 = .ok (.getfield 300, 3) := by decide +kernel
theorem dX10_about_98 : decode cX10_about 98 = .ok (.iaload, 1) := by decide +kernel
theorem dX10_about_99 : decode cX10_about 99 = .ok (.ireturn, 1) := by decide +kernel
theorem dX10_about_100 : decode cX10_about 100 = .ok (.aload_n 0, 1) := by decide +kernel
theorem dX10_about_101 : decode cX10_about 101 = .ok (.getfield 36, 3) := by decide +kernel
theorem dX10_about_104 : decode cX10_about 104 = .ok (.aload_n 0, 1) := by decide +kernel
theorem dX10_about_105 : decode cX10_about 105 = .ok (.getfield 300, 3) := by decide +kernel
theorem dX10_about_108 : decode cX10_about 108 = .ok (.iaload, 1) := by decide +kernel
theorem dX10_about_109 : decode cX10_about 109 = .ok (.ireturn, 1) := by decide +kernel
theorem dX10_about_110 : decode cX10_about 110 = .ok (.aload_n 0, 1) := by decide +kernel
theorem dX10_about_111 : decode cX10_about 111 = .ok (.invokevirtual 391, 3) := by decide +kernel
theorem dX10_about_114 : decode cX10_about 114 = .ok (.ireturn, 1) := by decide +kernel
theorem dX10_about_115 : decode cX10_about 115 = .ok (.aload_n 0, 1) := by decide +kernel
theorem dX10_about_116 : decode cX10_about 116 = .ok (.invokevirtual 384, 3) := by decide +kernel
theorem dX10_about_119 : decode cX10_about 119 = .ok (.ireturn, 1) := by decide +kernel
theorem dX10_about_120 : decode cX10_about 120 = .ok (.aload_n 0, 1) := by decide +kernel
theorem dX10_about_121 : decode cX10_about 121 = .ok (.getfield 306, 3) := by decide +kernel
theorem dX10_about_124 : decode cX10_about 124 = .ok (.ireturn, 1) := by decide +kernel
theorem dX10_about_125 : decode cX10_about 125 = .ok (.aload_n 0, 1) := by decide +kernel
theorem dX10_about_126 : decode cX10_about 126 = .ok (.getfield 444, 3) := by decide +kernel
theorem dX10_about_129 : decode cX10_about 129 = .ok (.ireturn, 1) := by decide +kernel
theorem dX10_about_130 : decode cX10_about 130 = .ok (.aload_n 0, 1) := by decide +kernel
theorem dX10_about_131 : decode cX10_about 131 = .ok (.getfield 297, 3) := by decide +kernel
theorem dX10_about_134 : decode cX10_about 134 = .ok (.ireturn, 1) := by decide +kernel
theorem dX10_about_135 : decode cX10_about 135 = .ok (.aload_n 0, 1) := by decide +kernel
theorem dX10_about_136 : decode cX10_about 136 = .ok (.getfield 48, 3) := by decide +kernel
theorem dX10_about_139 : decode cX10_about 139 = .ok (.aload_n 0, 1) := by decide +kernel
theorem dX10_about_140 : decode cX10_about 140 = .ok (.getfield 300, 3) := by decide +kernel
theorem dX10_about_143 : decode cX10_about 143 = .ok (.iaload, 1) := by decide +kernel
theorem dX10_about_144 : decode cX10_about 144 = .ok (.ireturn, 1) := by decide +kernel
theorem dX10_about_145 : decode cX10_about 145 = .ok (.iconst (-1), 1) := by decide +kernel
theorem dX10_about_146 : decode cX10_about 146 = .ok (.ireturn, 1) := by decide +kernel
theorem dX10_apart_0 : decode cX10_apart 0 = .ok (.aload_n 0, 1) := by decide +kernel
theorem dX10_apart_1 : decode cX10_apart 1 = .ok (.iload_n 1, 1) := by decide +kernel
theorem dX10_apart_2 : decode cX10_apart 2 = .ok (.invokevirtual 438, 3) := by decide +kernel
theorem dX10_apart_5 : decode cX10_apart 5 = .ok (.ifCond .eq 11, 3) := by decide +kernel
theorem dX10_apart_16 : decode cX10_apart 16 = .ok (.iconst (-1), 1) := by decide +kernel
theorem dX10_apart_17 : decode cX10_apart 17 = .ok (.ireturn, 1) := by decide +kernel
theorem dX10_back_0 : decode cX10_back 0 = .ok (.iload_n 1, 1) := by decide +kernel
theorem dX10_back_1 : decode cX10_back 1 = .ok (.iconst 0, 1) := by decide +kernel
theorem dX10_back_2 : decode cX10_back 2 = .ok (.iconst 2, 1) := by decide +kernel
theorem dX10_back_3 : decode cX10_back 3 = .ok (.invokestatic 387, 3) := by decide +kernel
theorem dX10_back_6 : decode cX10_back 6 = .ok (.ifCond .eq 12, 3) := by decide +kernel
theorem dX10_back_9 : decode cX10_back 9 = .ok (.aload_n 0, 1) := by decide +kernel
theorem dX10_back_10 : decode cX10_back 10 = .ok (.getfield 161, 3) := by decide +kernel
theorem dX10_back_13 : decode cX10_back 13 = .ok (.iload_n 1, 1) := by decide +kernel
theorem dX10_back_14 : decode cX10_back 14 = .ok (.iaload, 1) := by decide +kernel
theorem dX10_back_15 : decode cX10_back 15 = .ok (.ifCond .ge 5, 3) := by decide +kernel
theorem dX10_back_18 : decode cX10_back 18 = .ok (.iconst (-1), 1) := by decide +kernel
theorem dX10_back_19 : decode cX10_back 19 = .ok (.ireturn, 1) := by decide +kernel
theorem dX10_bestSeat_0 : decode cX10_bestSeat 0 = .ok (.iload_n 1, 1) := by decide +kernel
theorem dX10_bestSeat_1 : decode cX10_bestSeat 1 = .ok (.iconst 0, 1) := by decide +kernel
theorem dX10_bestSeat_2 : decode cX10_bestSeat 2 = .ok (.iconst 3, 1) := by decide +kernel
theorem dX10_bestSeat_3 : decode cX10_bestSeat 3 = .ok (.invokestatic 387, 3) := by decide +kernel
theorem dX10_bestSeat_6 : decode cX10_bestSeat 6 = .ok (.ifCond .ne 5, 3) := by decide +kernel
theorem dX10_bestSeat_9 : decode cX10_bestSeat 9 = .ok (.iconst (-1), 1) := by decide +kernel
theorem dX10_bestSeat_10 : decode cX10_bestSeat 10 = .ok (.ireturn, 1) := by decide +kernel
theorem dX10_bestSeat_11 : decode cX10_bestSeat 11 = .ok (.iconst (-1), 1) := by decide +kernel
theorem dX10_bestSeat_12 : decode cX10_bestSeat 12 = .ok (.istore_n 2, 1) := by decide +kernel
theorem dX10_bestSeat_13 : decode cX10_bestSeat 13 = .ok (.iconst 0, 1) := by decide +kernel
theorem dX10_bestSeat_14 : decode cX10_bestSeat 14 = .ok (.istore_n 3, 1) := by decide +kernel
theorem dX10_bestSeat_15 : decode cX10_bestSeat 15 = .ok (.iconst 0, 1) := by decide +kernel
theorem dX10_bestSeat_16 : decode cX10_bestSeat 16 = .ok (.istore 4, 2) := by decide +kernel
theorem dX10_bestSeat_18 : decode cX10_bestSeat 18 = .ok (.iload 4, 2) := by decide +kernel
theorem dX10_bestSeat_20 : decode cX10_bestSeat 20 = .ok (.sipush 144, 3) := by decide +kernel
theorem dX10_bestSeat_23 : decode cX10_bestSeat 23 = .ok (.if_icmp .ge 55, 3) := by decide +kernel
theorem dX10_bestSeat_26 : decode cX10_bestSeat 26 = .ok (.aload_n 0, 1) := by decide +kernel
theorem dX10_bestSeat_27 : decode cX10_bestSeat 27 = .ok (.iload 4, 2) := by decide +kernel
theorem dX10_bestSeat_29 : decode cX10_bestSeat 29 = .ok (.iconst 4, 1) := by decide +kernel
theorem dX10_bestSeat_30 : decode cX10_bestSeat 30 = .ok (.idiv, 1) := by decide +kernel
theorem dX10_bestSeat_31 : decode cX10_bestSeat 31 = .ok (.bipush 6, 2) := by decide +kernel
theorem dX10_bestSeat_33 : decode cX10_bestSeat 33 = .ok (.irem, 1) := by decide +kernel
theorem dX10_bestSeat_34 : decode cX10_bestSeat 34 = .ok (.iload 4, 2) := by decide +kernel
theorem dX10_bestSeat_36 : decode cX10_bestSeat 36 = .ok (.bipush 24, 2) := by decide +kernel
theorem dX10_bestSeat_38 : decode cX10_bestSeat 38 = .ok (.idiv, 1) := by decide +kernel
theorem dX10_bestSeat_39 : decode cX10_bestSeat 39 = .ok (.iload 4, 2) := by decide +kernel
theorem dX10_bestSeat_41 : decode cX10_bestSeat 41 = .ok (.iconst 4, 1) := by decide +kernel
theorem dX10_bestSeat_42 : decode cX10_bestSeat 42 = .ok (.irem, 1) := by decide +kernel
theorem dX10_bestSeat_43 : decode cX10_bestSeat 43 = .ok (.invokevirtual 477, 3) := by decide +kernel
theorem dX10_bestSeat_46 : decode cX10_bestSeat 46 = .ok (.istore 5, 2) := by decide +kernel
theorem dX10_bestSeat_48 : decode cX10_bestSeat 48 = .ok (.iload 5, 2) := by decide +kernel
theorem dX10_bestSeat_50 : decode cX10_bestSeat 50 = .ok (.ifCond .lt 22, 3) := by decide +kernel
theorem dX10_bestSeat_72 : decode cX10_bestSeat 72 = .ok (.iinc 4 1, 3) := by decide +kernel
theorem dX10_bestSeat_75 : decode cX10_bestSeat 75 = .ok (.goto (-57), 3) := by decide +kernel
theorem dX10_bestSeat_78 : decode cX10_bestSeat 78 = .ok (.iload_n 2, 1) := by decide +kernel
theorem dX10_bestSeat_79 : decode cX10_bestSeat 79 = .ok (.ifCond .ge 5, 3) := by decide +kernel
theorem dX10_bestSeat_82 : decode cX10_bestSeat 82 = .ok (.iconst (-1), 1) := by decide +kernel
theorem dX10_bestSeat_83 : decode cX10_bestSeat 83 = .ok (.ireturn, 1) := by decide +kernel
theorem dX10_blind_0 : decode cX10_blind 0 = .ok (.aload_n 0, 1) := by decide +kernel
theorem dX10_blind_1 : decode cX10_blind 1 = .ok (.iload_n 1, 1) := by decide +kernel
theorem dX10_blind_2 : decode cX10_blind 2 = .ok (.invokevirtual 416, 3) := by decide +kernel
theorem dX10_blind_5 : decode cX10_blind 5 = .ok (.ifCond .ne 5, 3) := by decide +kernel
theorem dX10_blind_8 : decode cX10_blind 8 = .ok (.iconst (-1), 1) := by decide +kernel
theorem dX10_blind_9 : decode cX10_blind 9 = .ok (.ireturn, 1) := by decide +kernel
theorem dX10_byTurn_0 : decode cX10_byTurn 0 = .ok (.aload_n 0, 1) := by decide +kernel
theorem dX10_byTurn_1 : decode cX10_byTurn 1 = .ok (.iload_n 1, 1) := by decide +kernel
theorem dX10_byTurn_2 : decode cX10_byTurn 2 = .ok (.invokevirtual 480, 3) := by decide +kernel
theorem dX10_byTurn_5 : decode cX10_byTurn 5 = .ok (.ifCond .ne 5, 3) := by decide +kernel
theorem dX10_byTurn_8 : decode cX10_byTurn 8 = .ok (.iconst (-1), 1) := by decide +kernel
theorem dX10_byTurn_9 : decode cX10_byTurn 9 = .ok (.ireturn, 1) := by decide +kernel
theorem dX10_byTurn_10 : decode cX10_byTurn 10 = .ok (.aload_n 0, 1) := by decide +kernel
theorem dX10_byTurn_11 : decode cX10_byTurn 11 = .ok (.iload_n 1, 1) := by decide +kernel
theorem dX10_byTurn_12 : decode cX10_byTurn 12 = .ok (.invokevirtual 493, 3) := by decide +kernel
theorem dX10_byTurn_15 : decode cX10_byTurn 15 = .ok (.aload_n 0, 1) := by decide +kernel
theorem dX10_byTurn_16 : decode cX10_byTurn 16 = .ok (.getfield 158, 3) := by decide +kernel
theorem dX10_byTurn_19 : decode cX10_byTurn 19 = .ok (.iload_n 1, 1) := by decide +kernel
theorem dX10_byTurn_20 : decode cX10_byTurn 20 = .ok (.iaload, 1) := by decide +kernel
theorem dX10_byTurn_21 : decode cX10_byTurn 21 = .ok (.ireturn, 1) := by decide +kernel
theorem dX10_call_0 : decode cX10_call 0 = .ok (.aload_n 0, 1) := by decide +kernel
theorem dX10_call_1 : decode cX10_call 1 = .ok (.iload_n 1, 1) := by decide +kernel
theorem dX10_call_2 : decode cX10_call 2 = .ok (.invokevirtual 432, 3) := by decide +kernel
theorem dX10_call_5 : decode cX10_call 5 = .ok (.ifCond .eq 20, 3) := by decide +kernel
theorem dX10_call_25 : decode cX10_call 25 = .ok (.iconst (-1), 1) := by decide +kernel
theorem dX10_call_26 : decode cX10_call 26 = .ok (.ireturn, 1) := by decide +kernel
theorem dX10_clearBank_0 : decode cX10_clearBank 0 = .ok (.aload_n 0, 1) := by decide +kernel
theorem dX10_clearBank_1 : decode cX10_clearBank 1 = .ok (.getfield 20, 3) := by decide +kernel
theorem dX10_clearBank_4 : decode cX10_clearBank 4 = .ok (.aload_n 0, 1) := by decide +kernel
theorem dX10_clearBank_5 : decode cX10_clearBank 5 = .ok (.getfield 291, 3) := by decide +kernel
theorem dX10_clearBank_8 : decode cX10_clearBank 8 = .ok (.iconst 0, 1) := by decide +kernel
theorem dX10_clearBank_9 : decode cX10_clearBank 9 = .ok (.iastore, 1) := by decide +kernel
theorem dX10_clearBank_10 : decode cX10_clearBank 10 = .ok (.aload_n 0, 1) := by decide +kernel
theorem dX10_clearBank_11 : decode cX10_clearBank 11 = .ok (.getfield 24, 3) := by decide +kernel
theorem dX10_clearBank_14 : decode cX10_clearBank 14 = .ok (.aload_n 0, 1) := by decide +kernel
theorem dX10_clearBank_15 : decode cX10_clearBank 15 = .ok (.getfield 291, 3) := by decide +kernel
theorem dX10_clearBank_18 : decode cX10_clearBank 18 = .ok (.iconst 0, 1) := by decide +kernel
theorem dX10_clearBank_19 : decode cX10_clearBank 19 = .ok (.iastore, 1) := by decide +kernel
theorem dX10_clearBank_20 : decode cX10_clearBank 20 = .ok (.aload_n 0, 1) := by decide +kernel
theorem dX10_clearBank_21 : decode cX10_clearBank 21 = .ok (.getfield 27, 3) := by decide +kernel
theorem dX10_clearBank_24 : decode cX10_clearBank 24 = .ok (.aload_n 0, 1) := by decide +kernel
theorem dX10_clearBank_25 : decode cX10_clearBank 25 = .ok (.getfield 291, 3) := by decide +kernel
theorem dX10_clearBank_28 : decode cX10_clearBank 28 = .ok (.iconst 0, 1) := by decide +kernel
theorem dX10_clearBank_29 : decode cX10_clearBank 29 = .ok (.iastore, 1) := by decide +kernel
theorem dX10_clearBank_30 : decode cX10_clearBank 30 = .ok (.aload_n 0, 1) := by decide +kernel
theorem dX10_clearBank_31 : decode cX10_clearBank 31 = .ok (.getfield 30, 3) := by decide +kernel
theorem dX10_clearBank_34 : decode cX10_clearBank 34 = .ok (.aload_n 0, 1) := by decide +kernel
theorem dX10_clearBank_35 : decode cX10_clearBank 35 = .ok (.getfield 291, 3) := by decide +kernel
theorem dX10_clearBank_38 : decode cX10_clearBank 38 = .ok (.iconst 0, 1) := by decide +kernel
theorem dX10_clearBank_39 : decode cX10_clearBank 39 = .ok (.iastore, 1) := by decide +kernel
theorem dX10_clearBank_40 : decode cX10_clearBank 40 = .ok (.aload_n 0, 1) := by decide +kernel
theorem dX10_clearBank_41 : decode cX10_clearBank 41 = .ok (.getfield 33, 3) := by decide +kernel
theorem dX10_clearBank_44 : decode cX10_clearBank 44 = .ok (.aload_n 0, 1) := by decide +kernel
theorem dX10_clearBank_45 : decode cX10_clearBank 45 = .ok (.getfield 291, 3) := by decide +kernel
theorem dX10_clearBank_48 : decode cX10_clearBank 48 = .ok (.iconst 0, 1) := by decide +kernel
theorem dX10_clearBank_49 : decode cX10_clearBank 49 = .ok (.iastore, 1) := by decide +kernel
theorem dX10_clearBank_50 : decode cX10_clearBank 50 = .ok (.aload_n 0, 1) := by decide +kernel
theorem dX10_clearBank_51 : decode cX10_clearBank 51 = .ok (.getfield 36, 3) := by decide +kernel
theorem dX10_clearBank_54 : decode cX10_clearBank 54 = .ok (.aload_n 0, 1) := by decide +kernel
theorem dX10_clearBank_55 : decode cX10_clearBank 55 = .ok (.getfield 291, 3) := by decide +kernel
theorem dX10_clearBank_58 : decode cX10_clearBank 58 = .ok (.iconst 0, 1) := by decide +kernel
theorem dX10_clearBank_59 : decode cX10_clearBank 59 = .ok (.iastore, 1) := by decide +kernel
theorem dX10_clearBank_60 : decode cX10_clearBank 60 = .ok (.aload_n 0, 1) := by decide +kernel
theorem dX10_clearBank_61 : decode cX10_clearBank 61 = .ok (.getfield 39, 3) := by decide +kernel
theorem dX10_clearBank_64 : decode cX10_clearBank 64 = .ok (.aload_n 0, 1) := by decide +kernel
theorem dX10_clearBank_65 : decode cX10_clearBank 65 = .ok (.getfield 291, 3) := by decide +kernel
theorem dX10_clearBank_68 : decode cX10_clearBank 68 = .ok (.iconst 0, 1) := by decide +kernel
theorem dX10_clearBank_69 : decode cX10_clearBank 69 = .ok (.iastore, 1) := by decide +kernel
theorem dX10_clearBank_70 : decode cX10_clearBank 70 = .ok (.aload_n 0, 1) := by decide +kernel
theorem dX10_clearBank_71 : decode cX10_clearBank 71 = .ok (.getfield 42, 3) := by decide +kernel
theorem dX10_clearBank_74 : decode cX10_clearBank 74 = .ok (.aload_n 0, 1) := by decide +kernel
theorem dX10_clearBank_75 : decode cX10_clearBank 75 = .ok (.getfield 291, 3) := by decide +kernel
theorem dX10_clearBank_78 : decode cX10_clearBank 78 = .ok (.iconst 0, 1) := by decide +kernel
theorem dX10_clearBank_79 : decode cX10_clearBank 79 = .ok (.iastore, 1) := by decide +kernel
theorem dX10_clearBank_80 : decode cX10_clearBank 80 = .ok (.aload_n 0, 1) := by decide +kernel
theorem dX10_clearBank_81 : decode cX10_clearBank 81 = .ok (.getfield 45, 3) := by decide +kernel
theorem dX10_clearBank_84 : decode cX10_clearBank 84 = .ok (.aload_n 0, 1) := by decide +kernel
theorem dX10_clearBank_85 : decode cX10_clearBank 85 = .ok (.getfield 291, 3) := by decide +kernel
theorem dX10_clearBank_88 : decode cX10_clearBank 88 = .ok (.iconst 0, 1) := by decide +kernel
theorem dX10_clearBank_89 : decode cX10_clearBank 89 = .ok (.iastore, 1) := by decide +kernel
theorem dX10_clearBank_90 : decode cX10_clearBank 90 = .ok (.aload_n 0, 1) := by decide +kernel
theorem dX10_clearBank_91 : decode cX10_clearBank 91 = .ok (.getfield 48, 3) := by decide +kernel
theorem dX10_clearBank_94 : decode cX10_clearBank 94 = .ok (.aload_n 0, 1) := by decide +kernel
theorem dX10_clearBank_95 : decode cX10_clearBank 95 = .ok (.getfield 291, 3) := by decide +kernel
theorem dX10_clearBank_98 : decode cX10_clearBank 98 = .ok (.iconst 0, 1) := by decide +kernel
theorem dX10_clearBank_99 : decode cX10_clearBank 99 = .ok (.iastore, 1) := by decide +kernel
theorem dX10_clearBank_100 : decode cX10_clearBank 100 = .ok (.aload_n 0, 1) := by decide +kernel
theorem dX10_clearBank_101 : decode cX10_clearBank 101 = .ok (.getfield 82, 3) := by decide +kernel
theorem dX10_clearBank_104 : decode cX10_clearBank 104 = .ok (.aload_n 0, 1) := by decide +kernel
theorem dX10_clearBank_105 : decode cX10_clearBank 105 = .ok (.getfield 291, 3) := by decide +kernel
theorem dX10_clearBank_108 : decode cX10_clearBank 108 = .ok (.iconst 0, 1) := by decide +kernel
theorem dX10_clearBank_109 : decode cX10_clearBank 109 = .ok (.bastore, 1) := by decide +kernel
theorem dX10_clearBank_110 : decode cX10_clearBank 110 = .ok (.aload_n 0, 1) := by decide +kernel
theorem dX10_clearBank_111 : decode cX10_clearBank 111 = .ok (.getfield 85, 3) := by decide +kernel
theorem dX10_clearBank_114 : decode cX10_clearBank 114 = .ok (.aload_n 0, 1) := by decide +kernel
theorem dX10_clearBank_115 : decode cX10_clearBank 115 = .ok (.getfield 291, 3) := by decide +kernel
theorem dX10_clearBank_118 : decode cX10_clearBank 118 = .ok (.iconst 0, 1) := by decide +kernel
theorem dX10_clearBank_119 : decode cX10_clearBank 119 = .ok (.bastore, 1) := by decide +kernel
theorem dX10_clearBank_120 : decode cX10_clearBank 120 = .ok (.aload_n 0, 1) := by decide +kernel
theorem dX10_clearBank_121 : decode cX10_clearBank 121 = .ok (.getfield 88, 3) := by decide +kernel
theorem dX10_clearBank_124 : decode cX10_clearBank 124 = .ok (.aload_n 0, 1) := by decide +kernel
theorem dX10_clearBank_125 : decode cX10_clearBank 125 = .ok (.getfield 291, 3) := by decide +kernel
theorem dX10_clearBank_128 : decode cX10_clearBank 128 = .ok (.iconst 0, 1) := by decide +kernel
theorem dX10_clearBank_129 : decode cX10_clearBank 129 = .ok (.bastore, 1) := by decide +kernel
theorem dX10_clearBank_130 : decode cX10_clearBank 130 = .ok (.aload_n 0, 1) := by decide +kernel
theorem dX10_clearBank_131 : decode cX10_clearBank 131 = .ok (.sipush 500, 3) := by decide +kernel
theorem dX10_clearBank_134 : decode cX10_clearBank 134 = .ok (.aload_n 0, 1) := by decide +kernel
theorem dX10_clearBank_135 : decode cX10_clearBank 135 = .ok (.getfield 291, 3) := by decide +kernel
theorem dX10_clearBank_138 : decode cX10_clearBank 138 = .ok (.imul, 1) := by decide +kernel
theorem dX10_clearBank_139 : decode cX10_clearBank 139 = .ok (.putfield 294, 3) := by decide +kernel
theorem dX10_clearBank_142 : decode cX10_clearBank 142 = .ok (.bipush 36, 2) := by decide +kernel
theorem dX10_clearBank_144 : decode cX10_clearBank 144 = .ok (.aload_n 0, 1) := by decide +kernel
theorem dX10_clearBank_145 : decode cX10_clearBank 145 = .ok (.getfield 291, 3) := by decide +kernel
theorem dX10_clearBank_148 : decode cX10_clearBank 148 = .ok (.imul, 1) := by decide +kernel
theorem dX10_clearBank_149 : decode cX10_clearBank 149 = .ok (.istore_n 1, 1) := by decide +kernel
theorem dX10_clearBank_150 : decode cX10_clearBank 150 = .ok (.iload_n 1, 1) := by decide +kernel
theorem dX10_clearBank_151 : decode cX10_clearBank 151 = .ok (.bipush 36, 2) := by decide +kernel
theorem dX10_clearBank_153 : decode cX10_clearBank 153 = .ok (.aload_n 0, 1) := by decide +kernel
theorem dX10_clearBank_154 : decode cX10_clearBank 154 = .ok (.getfield 291, 3) := by decide +kernel
theorem dX10_clearBank_157 : decode cX10_clearBank 157 = .ok (.imul, 1) := by decide +kernel
theorem dX10_clearBank_158 : decode cX10_clearBank 158 = .ok (.bipush 36, 2) := by decide +kernel
theorem dX10_clearBank_160 : decode cX10_clearBank 160 = .ok (.iadd, 1) := by decide +kernel
theorem dX10_clearBank_161 : decode cX10_clearBank 161 = .ok (.if_icmp .ge 16, 3) := by decide +kernel
theorem dX10_clearBank_164 : decode cX10_clearBank 164 = .ok (.aload_n 0, 1) := by decide +kernel
theorem dX10_clearBank_165 : decode cX10_clearBank 165 = .ok (.getfield 78, 3) := by decide +kernel
theorem dX10_clearBank_168 : decode cX10_clearBank 168 = .ok (.iload_n 1, 1) := by decide +kernel
theorem dX10_clearBank_169 : decode cX10_clearBank 169 = .ok (.iconst 0, 1) := by decide +kernel
theorem dX10_clearBank_170 : decode cX10_clearBank 170 = .ok (.bastore, 1) := by decide +kernel
theorem dX10_clearBank_171 : decode cX10_clearBank 171 = .ok (.iinc 1 1, 3) := by decide +kernel
theorem dX10_clearBank_174 : decode cX10_clearBank 174 = .ok (.goto (-24), 3) := by decide +kernel
theorem dX10_clearBank_177 : decode cX10_clearBank 177 = .ok (.iconst 5, 1) := by decide +kernel
theorem dX10_clearBank_178 : decode cX10_clearBank 178 = .ok (.aload_n 0, 1) := by decide +kernel
theorem dX10_clearBank_179 : decode cX10_clearBank 179 = .ok (.getfield 291, 3) := by decide +kernel
theorem dX10_clearBank_182 : decode cX10_clearBank 182 = .ok (.imul, 1) := by decide +kernel
theorem dX10_clearBank_183 : decode cX10_clearBank 183 = .ok (.istore_n 1, 1) := by decide +kernel
theorem dX10_clearBank_184 : decode cX10_clearBank 184 = .ok (.iload_n 1, 1) := by decide +kernel
theorem dX10_clearBank_185 : decode cX10_clearBank 185 = .ok (.iconst 5, 1) := by decide +kernel
theorem dX10_clearBank_186 : decode cX10_clearBank 186 = .ok (.aload_n 0, 1) := by decide +kernel
theorem dX10_clearBank_187 : decode cX10_clearBank 187 = .ok (.getfield 291, 3) := by decide +kernel
theorem dX10_clearBank_190 : decode cX10_clearBank 190 = .ok (.imul, 1) := by decide +kernel
theorem dX10_clearBank_191 : decode cX10_clearBank 191 = .ok (.iconst 5, 1) := by decide +kernel
theorem dX10_clearBank_192 : decode cX10_clearBank 192 = .ok (.iadd, 1) := by decide +kernel
theorem dX10_clearBank_193 : decode cX10_clearBank 193 = .ok (.if_icmp .ge 16, 3) := by decide +kernel
theorem dX10_clearBank_196 : decode cX10_clearBank 196 = .ok (.aload_n 0, 1) := by decide +kernel
theorem dX10_clearBank_197 : decode cX10_clearBank 197 = .ok (.getfield 51, 3) := by decide +kernel
theorem dX10_clearBank_200 : decode cX10_clearBank 200 = .ok (.iload_n 1, 1) := by decide +kernel
theorem dX10_clearBank_201 : decode cX10_clearBank 201 = .ok (.iconst (-1), 1) := by decide +kernel
theorem dX10_clearBank_202 : decode cX10_clearBank 202 = .ok (.iastore, 1) := by decide +kernel
theorem dX10_clearBank_203 : decode cX10_clearBank 203 = .ok (.iinc 1 1, 3) := by decide +kernel
theorem dX10_clearBank_206 : decode cX10_clearBank 206 = .ok (.goto (-22), 3) := by decide +kernel
theorem dX10_clearBank_209 : decode cX10_clearBank 209 = .ok (.sipush 1440, 3) := by decide +kernel
theorem dX10_clearBank_212 : decode cX10_clearBank 212 = .ok (.aload_n 0, 1) := by decide +kernel
theorem dX10_clearBank_213 : decode cX10_clearBank 213 = .ok (.getfield 291, 3) := by decide +kernel
theorem dX10_clearBank_216 : decode cX10_clearBank 216 = .ok (.imul, 1) := by decide +kernel
theorem dX10_clearBank_217 : decode cX10_clearBank 217 = .ok (.istore_n 1, 1) := by decide +kernel
theorem dX10_clearBank_218 : decode cX10_clearBank 218 = .ok (.iload_n 1, 1) := by decide +kernel
theorem dX10_clearBank_219 : decode cX10_clearBank 219 = .ok (.sipush 1440, 3) := by decide +kernel
theorem dX10_clearBank_222 : decode cX10_clearBank 222 = .ok (.aload_n 0, 1) := by decide +kernel
theorem dX10_clearBank_223 : decode cX10_clearBank 223 = .ok (.getfield 291, 3) := by decide +kernel
theorem dX10_clearBank_226 : decode cX10_clearBank 226 = .ok (.imul, 1) := by decide +kernel
theorem dX10_clearBank_227 : decode cX10_clearBank 227 = .ok (.sipush 1440, 3) := by decide +kernel
theorem dX10_clearBank_230 : decode cX10_clearBank 230 = .ok (.iadd, 1) := by decide +kernel
theorem dX10_clearBank_231 : decode cX10_clearBank 231 = .ok (.if_icmp .ge 16, 3) := by decide +kernel
theorem dX10_clearBank_234 : decode cX10_clearBank 234 = .ok (.aload_n 0, 1) := by decide +kernel
theorem dX10_clearBank_235 : decode cX10_clearBank 235 = .ok (.getfield 72, 3) := by decide +kernel
theorem dX10_clearBank_238 : decode cX10_clearBank 238 = .ok (.iload_n 1, 1) := by decide +kernel
theorem dX10_clearBank_239 : decode cX10_clearBank 239 = .ok (.iconst 0, 1) := by decide +kernel
theorem dX10_clearBank_240 : decode cX10_clearBank 240 = .ok (.iastore, 1) := by decide +kernel
theorem dX10_clearBank_241 : decode cX10_clearBank 241 = .ok (.iinc 1 1, 3) := by decide +kernel
theorem dX10_clearBank_244 : decode cX10_clearBank 244 = .ok (.goto (-26), 3) := by decide +kernel
theorem dX10_clearBank_247 : decode cX10_clearBank 247 = .ok (.return_, 1) := by decide +kernel
theorem dX10_deedMany_0 : decode cX10_deedMany 0 = .ok (.aload_n 0, 1) := by decide +kernel
theorem dX10_deedMany_1 : decode cX10_deedMany 1 = .ok (.getfield 39, 3) := by decide +kernel
theorem dX10_deedMany_4 : decode cX10_deedMany 4 = .ok (.aload_n 0, 1) := by decide +kernel
theorem dX10_deedMany_5 : decode cX10_deedMany 5 = .ok (.getfield 300, 3) := by decide +kernel
theorem dX10_deedMany_8 : decode cX10_deedMany 8 = .ok (.iaload, 1) := by decide +kernel
theorem dX10_deedMany_9 : decode cX10_deedMany 9 = .ok (.ireturn, 1) := by decide +kernel
theorem dX10_doesList_0 : decode cX10_doesList 0 = .ok (.iconst 0, 1) := by decide +kernel
theorem dX10_doesList_1 : decode cX10_doesList 1 = .ok (.istore_n 3, 1) := by decide +kernel
theorem dX10_doesList_2 : decode cX10_doesList 2 = .ok (.iload_n 3, 1) := by decide +kernel
theorem dX10_doesList_3 : decode cX10_doesList 3 = .ok (.aload_n 0, 1) := by decide +kernel
theorem dX10_doesList_4 : decode cX10_doesList 4 = .ok (.invokevirtual 391, 3) := by decide +kernel
theorem dX10_doesList_7 : decode cX10_doesList 7 = .ok (.if_icmp .ge 90, 3) := by decide +kernel
theorem dX10_doesList_97 : decode cX10_doesList 97 = .ok (.iconst 1, 1) := by decide +kernel
theorem dX10_doesList_98 : decode cX10_doesList 98 = .ok (.ireturn, 1) := by decide +kernel
