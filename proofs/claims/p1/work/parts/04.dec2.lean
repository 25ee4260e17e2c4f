theorem dX10_later_31 : decode cX10_later 31 = .ok (.iadd, 1) := by decide +kernel
theorem dX10_later_32 : decode cX10_later 32 = .ok (.putfield 444, 3) := by decide +kernel
theorem dX10_later_35 : decode cX10_later 35 = .ok (.aload_n 0, 1) := by decide +kernel
theorem dX10_later_36 : decode cX10_later 36 = .ok (.getfield 444, 3) := by decide +kernel
theorem dX10_later_39 : decode cX10_later 39 = .ok (.ireturn, 1) := by decide +kernel
theorem dX10_lay_0 : decode cX10_lay 0 = .ok (.iconst 0, 1) := by decide +kernel
theorem dX10_lay_1 : decode cX10_lay 1 = .ok (.istore_n 1, 1) := by decide +kernel
theorem dX10_lay_2 : decode cX10_lay 2 = .ok (.iload_n 1, 1) := by decide +kernel
theorem dX10_lay_3 : decode cX10_lay 3 = .ok (.sipush 180, 3) := by decide +kernel
theorem dX10_lay_6 : decode cX10_lay 6 = .ok (.if_icmp .ge 16, 3) := by decide +kernel
theorem dX10_lay_9 : decode cX10_lay 9 = .ok (.aload_n 0, 1) := by decide +kernel
theorem dX10_lay_10 : decode cX10_lay 10 = .ok (.getfield 122, 3) := by decide +kernel
theorem dX10_lay_13 : decode cX10_lay 13 = .ok (.iload_n 1, 1) := by decide +kernel
theorem dX10_lay_14 : decode cX10_lay 14 = .ok (.iconst 0, 1) := by decide +kernel
theorem dX10_lay_15 : decode cX10_lay 15 = .ok (.bastore, 1) := by decide +kernel
theorem dX10_lay_16 : decode cX10_lay 16 = .ok (.iinc 1 1, 3) := by decide +kernel
theorem dX10_lay_19 : decode cX10_lay 19 = .ok (.goto (-17), 3) := by decide +kernel
theorem dX10_lay_22 : decode cX10_lay 22 = .ok (.iconst 0, 1) := by decide +kernel
theorem dX10_lay_23 : decode cX10_lay 23 = .ok (.istore_n 1, 1) := by decide +kernel
theorem dX10_lay_24 : decode cX10_lay 24 = .ok (.iload_n 1, 1) := by decide +kernel
theorem dX10_lay_25 : decode cX10_lay 25 = .ok (.bipush 8, 2) := by decide +kernel
theorem dX10_lay_27 : decode cX10_lay 27 = .ok (.if_icmp .ge 16, 3) := by decide +kernel
theorem dX10_lay_30 : decode cX10_lay 30 = .ok (.aload_n 0, 1) := by decide +kernel
theorem dX10_lay_31 : decode cX10_lay 31 = .ok (.getfield 131, 3) := by decide +kernel
theorem dX10_lay_34 : decode cX10_lay 34 = .ok (.iload_n 1, 1) := by decide +kernel
theorem dX10_lay_35 : decode cX10_lay 35 = .ok (.iconst 0, 1) := by decide +kernel
theorem dX10_lay_36 : decode cX10_lay 36 = .ok (.iastore, 1) := by decide +kernel
theorem dX10_lay_37 : decode cX10_lay 37 = .ok (.iinc 1 1, 3) := by decide +kernel
theorem dX10_lay_40 : decode cX10_lay 40 = .ok (.goto (-16), 3) := by decide +kernel
theorem dX10_lay_43 : decode cX10_lay 43 = .ok (.iconst 0, 1) := by decide +kernel
theorem dX10_lay_44 : decode cX10_lay 44 = .ok (.istore_n 1, 1) := by decide +kernel
theorem dX10_lay_45 : decode cX10_lay 45 = .ok (.iload_n 1, 1) := by decide +kernel
theorem dX10_lay_46 : decode cX10_lay 46 = .ok (.aload_n 0, 1) := by decide +kernel
theorem dX10_lay_47 : decode cX10_lay 47 = .ok (.invokevirtual 384, 3) := by decide +kernel
theorem dX10_lay_50 : decode cX10_lay 50 = .ok (.if_icmp .ge 322, 3) := by decide +kernel
theorem dX10_lay_372 : decode cX10_lay 372 = .ok (.return_, 1) := by decide +kernel
theorem dX10_layRounds_0 : decode cX10_layRounds 0 = .ok (.iconst 0, 1) := by decide +kernel
theorem dX10_layRounds_1 : decode cX10_layRounds 1 = .ok (.istore_n 2, 1) := by decide +kernel
theorem dX10_layRounds_2 : decode cX10_layRounds 2 = .ok (.iload_n 2, 1) := by decide +kernel
theorem dX10_layRounds_3 : decode cX10_layRounds 3 = .ok (.iload_n 1, 1) := by decide +kernel
theorem dX10_layRounds_4 : decode cX10_layRounds 4 = .ok (.if_icmp .gt 175, 3) := by decide +kernel
theorem dX10_layRounds_7 : decode cX10_layRounds 7 = .ok (.iload_n 2, 1) := by decide +kernel
theorem dX10_layRounds_8 : decode cX10_layRounds 8 = .ok (.iload_n 1, 1) := by decide +kernel
theorem dX10_layRounds_9 : decode cX10_layRounds 9 = .ok (.iconst (-1), 1) := by decide +kernel
theorem dX10_layRounds_10 : decode cX10_layRounds 10 = .ok (.ixor, 1) := by decide +kernel
theorem dX10_layRounds_11 : decode cX10_layRounds 11 = .ok (.iand, 1) := by decide +kernel
theorem dX10_layRounds_12 : decode cX10_layRounds 12 = .ok (.ifCond .eq 6, 3) := by decide +kernel
theorem dX10_layRounds_18 : decode cX10_layRounds 18 = .ok (.aload_n 0, 1) := by decide +kernel
theorem dX10_layRounds_19 : decode cX10_layRounds 19 = .ok (.getfield 152, 3) := by decide +kernel
theorem dX10_layRounds_22 : decode cX10_layRounds 22 = .ok (.iload_n 2, 1) := by decide +kernel
theorem dX10_layRounds_23 : decode cX10_layRounds 23 = .ok (.iconst 0, 1) := by decide +kernel
theorem dX10_layRounds_24 : decode cX10_layRounds 24 = .ok (.iastore, 1) := by decide +kernel
theorem dX10_layRounds_25 : decode cX10_layRounds 25 = .ok (.aload_n 0, 1) := by decide +kernel
theorem dX10_layRounds_26 : decode cX10_layRounds 26 = .ok (.getfield 158, 3) := by decide +kernel
theorem dX10_layRounds_29 : decode cX10_layRounds 29 = .ok (.iload_n 2, 1) := by decide +kernel
theorem dX10_layRounds_30 : decode cX10_layRounds 30 = .ok (.iconst 0, 1) := by decide +kernel
theorem dX10_layRounds_31 : decode cX10_layRounds 31 = .ok (.iastore, 1) := by decide +kernel
theorem dX10_layRounds_32 : decode cX10_layRounds 32 = .ok (.aload_n 0, 1) := by decide +kernel
theorem dX10_layRounds_33 : decode cX10_layRounds 33 = .ok (.getfield 155, 3) := by decide +kernel
theorem dX10_layRounds_36 : decode cX10_layRounds 36 = .ok (.iload_n 2, 1) := by decide +kernel
theorem dX10_layRounds_37 : decode cX10_layRounds 37 = .ok (.iconst (-1), 1) := by decide +kernel
theorem dX10_layRounds_38 : decode cX10_layRounds 38 = .ok (.iastore, 1) := by decide +kernel
theorem dX10_layRounds_39 : decode cX10_layRounds 39 = .ok (.iconst 0, 1) := by decide +kernel
theorem dX10_layRounds_40 : decode cX10_layRounds 40 = .ok (.istore_n 3, 1) := by decide +kernel
theorem dX10_layRounds_41 : decode cX10_layRounds 41 = .ok (.iload_n 3, 1) := by decide +kernel
theorem dX10_layRounds_42 : decode cX10_layRounds 42 = .ok (.aload_n 0, 1) := by decide +kernel
theorem dX10_layRounds_43 : decode cX10_layRounds 43 = .ok (.invokevirtual 384, 3) := by decide +kernel
theorem dX10_layRounds_46 : decode cX10_layRounds 46 = .ok (.if_icmp .ge 127, 3) := by decide +kernel
theorem dX10_layRounds_173 : decode cX10_layRounds 173 = .ok (.iinc 2 1, 3) := by decide +kernel
theorem dX10_layRounds_176 : decode cX10_layRounds 176 = .ok (.goto (-174), 3) := by decide +kernel
theorem dX10_layRounds_179 : decode cX10_layRounds 179 = .ok (.return_, 1) := by decide +kernel
theorem dX10_leastBy_0 : decode cX10_leastBy 0 = .ok (.iconst (-1), 1) := by decide +kernel
theorem dX10_leastBy_1 : decode cX10_leastBy 1 = .ok (.istore 4, 2) := by decide +kernel
theorem dX10_leastBy_3 : decode cX10_leastBy 3 = .ok (.iconst 0, 1) := by decide +kernel
theorem dX10_leastBy_4 : decode cX10_leastBy 4 = .ok (.istore 5, 2) := by decide +kernel
theorem dX10_leastBy_6 : decode cX10_leastBy 6 = .ok (.iconst 0, 1) := by decide +kernel
theorem dX10_leastBy_7 : decode cX10_leastBy 7 = .ok (.istore 6, 2) := by decide +kernel
theorem dX10_leastBy_9 : decode cX10_leastBy 9 = .ok (.iload 6, 2) := by decide +kernel
theorem dX10_leastBy_11 : decode cX10_leastBy 11 = .ok (.aload_n 0, 1) := by decide +kernel
theorem dX10_leastBy_12 : decode cX10_leastBy 12 = .ok (.invokevirtual 391, 3) := by decide +kernel
theorem dX10_leastBy_15 : decode cX10_leastBy 15 = .ok (.if_icmp .ge 58, 3) := by decide +kernel
theorem dX10_leastBy_73 : decode cX10_leastBy 73 = .ok (.iload 4, 2) := by decide +kernel
theorem dX10_leastBy_75 : decode cX10_leastBy 75 = .ok (.ifCond .lt 8, 3) := by decide +kernel
theorem dX10_leastBy_83 : decode cX10_leastBy 83 = .ok (.iload 4, 2) := by decide +kernel
theorem dX10_leastBy_85 : decode cX10_leastBy 85 = .ok (.goto 5, 3) := by decide +kernel
theorem dX10_leastBy_90 : decode cX10_leastBy 90 = .ok (.ireturn, 1) := by decide +kernel
theorem dX10_liars_0 : decode cX10_liars 0 = .ok (.aload_n 0, 1) := by decide +kernel
theorem dX10_liars_1 : decode cX10_liars 1 = .ok (.iload_n 1, 1) := by decide +kernel
theorem dX10_liars_2 : decode cX10_liars 2 = .ok (.invokevirtual 438, 3) := by decide +kernel
theorem dX10_liars_5 : decode cX10_liars 5 = .ok (.ifCond .eq 12, 3) := by decide +kernel
theorem dX10_liars_17 : decode cX10_liars 17 = .ok (.iconst (-1), 1) := by decide +kernel
theorem dX10_liars_18 : decode cX10_liars 18 = .ok (.ireturn, 1) := by decide +kernel
theorem dX10_list_0 : decode cX10_list 0 = .ok (.aload_n 0, 1) := by decide +kernel
theorem dX10_list_1 : decode cX10_list 1 = .ok (.iload_n 1, 1) := by decide +kernel
theorem dX10_list_2 : decode cX10_list 2 = .ok (.invokevirtual 480, 3) := by decide +kernel
theorem dX10_list_5 : decode cX10_list 5 = .ok (.ifCond .eq 12, 3) := by decide +kernel
theorem dX10_list_8 : decode cX10_list 8 = .ok (.iload_n 2, 1) := by decide +kernel
theorem dX10_list_9 : decode cX10_list 9 = .ok (.iconst 0, 1) := by decide +kernel
theorem dX10_list_10 : decode cX10_list 10 = .ok (.iconst 1, 1) := by decide +kernel
theorem dX10_list_11 : decode cX10_list 11 = .ok (.invokestatic 387, 3) := by decide +kernel
theorem dX10_list_14 : decode cX10_list 14 = .ok (.ifCond .ne 5, 3) := by decide +kernel
theorem dX10_list_17 : decode cX10_list 17 = .ok (.iconst (-1), 1) := by decide +kernel
theorem dX10_list_18 : decode cX10_list 18 = .ok (.ireturn, 1) := by decide +kernel
theorem dX10_list_19 : decode cX10_list 19 = .ok (.iconst (-1), 1) := by decide +kernel
theorem dX10_list_20 : decode cX10_list 20 = .ok (.istore_n 3, 1) := by decide +kernel
theorem dX10_list_21 : decode cX10_list 21 = .ok (.iconst 0, 1) := by decide +kernel
theorem dX10_list_22 : decode cX10_list 22 = .ok (.istore 4, 2) := by decide +kernel
theorem dX10_list_24 : decode cX10_list 24 = .ok (.iconst 0, 1) := by decide +kernel
theorem dX10_list_25 : decode cX10_list 25 = .ok (.istore 5, 2) := by decide +kernel
theorem dX10_list_27 : decode cX10_list 27 = .ok (.iload 5, 2) := by decide +kernel
theorem dX10_list_29 : decode cX10_list 29 = .ok (.iconst 1, 1) := by decide +kernel
theorem dX10_list_30 : decode cX10_list 30 = .ok (.aload_n 0, 1) := by decide +kernel
theorem dX10_list_31 : decode cX10_list 31 = .ok (.invokevirtual 384, 3) := by decide +kernel
theorem dX10_list_34 : decode cX10_list 34 = .ok (.ishl, 1) := by decide +kernel
theorem dX10_list_35 : decode cX10_list 35 = .ok (.if_icmp .ge 124, 3) := by decide +kernel
theorem dX10_list_38 : decode cX10_list 38 = .ok (.iconst 0, 1) := by decide +kernel
theorem dX10_list_39 : decode cX10_list 39 = .ok (.istore 6, 2) := by decide +kernel
theorem dX10_list_41 : decode cX10_list 41 = .ok (.iconst 1, 1) := by decide +kernel
theorem dX10_list_42 : decode cX10_list 42 = .ok (.istore 7, 2) := by decide +kernel
theorem dX10_list_44 : decode cX10_list 44 = .ok (.iconst 0, 1) := by decide +kernel
theorem dX10_list_45 : decode cX10_list 45 = .ok (.istore 8, 2) := by decide +kernel
theorem dX10_list_47 : decode cX10_list 47 = .ok (.iload 8, 2) := by decide +kernel
theorem dX10_list_49 : decode cX10_list 49 = .ok (.aload_n 0, 1) := by decide +kernel
theorem dX10_list_50 : decode cX10_list 50 = .ok (.invokevirtual 384, 3) := by decide +kernel
theorem dX10_list_53 : decode cX10_list 53 = .ok (.if_icmp .ge 64, 3) := by decide +kernel
theorem dX10_list_117 : decode cX10_list 117 = .ok (.iload 7, 2) := by decide +kernel
theorem dX10_list_119 : decode cX10_list 119 = .ok (.ifCond .eq 34, 3) := by decide +kernel
theorem dX10_list_122 : decode cX10_list 122 = .ok (.iload_n 3, 1) := by decide +kernel
theorem dX10_list_123 : decode cX10_list 123 = .ok (.ifCond .lt 10, 3) := by decide +kernel
theorem dX10_list_133 : decode cX10_list 133 = .ok (.aload_n 0, 1) := by decide +kernel
theorem dX10_list_134 : decode cX10_list 134 = .ok (.iload_n 1, 1) := by decide +kernel
theorem dX10_list_135 : decode cX10_list 135 = .ok (.iload 5, 2) := by decide +kernel
theorem dX10_list_137 : decode cX10_list 137 = .ok (.invokevirtual 483, 3) := by decide +kernel
theorem dX10_list_140 : decode cX10_list 140 = .ok (.ifCond .ne 6, 3) := by decide +kernel
theorem dX10_list_146 : decode cX10_list 146 = .ok (.iload 5, 2) := by decide +kernel
theorem dX10_list_148 : decode cX10_list 148 = .ok (.istore_n 3, 1) := by decide +kernel
theorem dX10_list_149 : decode cX10_list 149 = .ok (.iload 6, 2) := by decide +kernel
theorem dX10_list_151 : decode cX10_list 151 = .ok (.istore 4, 2) := by decide +kernel
theorem dX10_list_153 : decode cX10_list 153 = .ok (.iinc 5 1, 3) := by decide +kernel
theorem dX10_list_156 : decode cX10_list 156 = .ok (.goto (-129), 3) := by decide +kernel
theorem dX10_list_159 : decode cX10_list 159 = .ok (.iload_n 2, 1) := by decide +kernel
theorem dX10_list_160 : decode cX10_list 160 = .ok (.ifCond .ne 7, 3) := by decide +kernel
theorem dX10_list_163 : decode cX10_list 163 = .ok (.iload_n 3, 1) := by decide +kernel
theorem dX10_list_164 : decode cX10_list 164 = .ok (.goto 5, 3) := by decide +kernel
theorem dX10_list_167 : decode cX10_list 167 = .ok (.iload 4, 2) := by decide +kernel
theorem dX10_list_169 : decode cX10_list 169 = .ok (.ireturn, 1) := by decide +kernel
theorem dX10_parted_0 : decode cX10_parted 0 = .ok (.aload_n 0, 1) := by decide +kernel
theorem dX10_parted_1 : decode cX10_parted 1 = .ok (.iload_n 1, 1) := by decide +kernel
theorem dX10_parted_2 : decode cX10_parted 2 = .ok (.invokevirtual 438, 3) := by decide +kernel
theorem dX10_parted_5 : decode cX10_parted 5 = .ok (.ifCond .eq 24, 3) := by decide +kernel
theorem dX10_parted_29 : decode cX10_parted 29 = .ok (.iconst (-1), 1) := by decide +kernel
theorem dX10_parted_30 : decode cX10_parted 30 = .ok (.ireturn, 1) := by decide +kernel
theorem dX10_parts_0 : decode cX10_parts 0 = .ok (.aload_n 0, 1) := by decide +kernel
theorem dX10_parts_1 : decode cX10_parts 1 = .ok (.iload_n 1, 1) := by decide +kernel
theorem dX10_parts_2 : decode cX10_parts 2 = .ok (.invokevirtual 432, 3) := by decide +kernel
theorem dX10_parts_5 : decode cX10_parts 5 = .ok (.ifCond .eq 37, 3) := by decide +kernel
theorem dX10_parts_42 : decode cX10_parts 42 = .ok (.iconst (-1), 1) := by decide +kernel
theorem dX10_parts_43 : decode cX10_parts 43 = .ok (.ireturn, 1) := by decide +kernel
theorem dX10_rounds_0 : decode cX10_rounds 0 = .ok (.aload_n 0, 1) := by decide +kernel
theorem dX10_rounds_1 : decode cX10_rounds 1 = .ok (.iload_n 1, 1) := by decide +kernel
theorem dX10_rounds_2 : decode cX10_rounds 2 = .ok (.invokevirtual 480, 3) := by decide +kernel
theorem dX10_rounds_5 : decode cX10_rounds 5 = .ok (.ifCond .eq 12, 3) := by decide +kernel
theorem dX10_rounds_8 : decode cX10_rounds 8 = .ok (.iload_n 2, 1) := by decide +kernel
theorem dX10_rounds_9 : decode cX10_rounds 9 = .ok (.iconst 0, 1) := by decide +kernel
theorem dX10_rounds_10 : decode cX10_rounds 10 = .ok (.iconst 1, 1) := by decide +kernel
theorem dX10_rounds_11 : decode cX10_rounds 11 = .ok (.invokestatic 387, 3) := by decide +kernel
theorem dX10_rounds_14 : decode cX10_rounds 14 = .ok (.ifCond .ne 5, 3) := by decide +kernel
theorem dX10_rounds_17 : decode cX10_rounds 17 = .ok (.iconst (-1), 1) := by decide +kernel
theorem dX10_rounds_18 : decode cX10_rounds 18 = .ok (.ireturn, 1) := by decide +kernel
theorem dX10_rounds_19 : decode cX10_rounds 19 = .ok (.aload_n 0, 1) := by decide +kernel
theorem dX10_rounds_20 : decode cX10_rounds 20 = .ok (.iload_n 1, 1) := by decide +kernel
theorem dX10_rounds_21 : decode cX10_rounds 21 = .ok (.invokevirtual 493, 3) := by decide +kernel
theorem dX10_rounds_24 : decode cX10_rounds 24 = .ok (.iload_n 2, 1) := by decide +kernel
theorem dX10_rounds_25 : decode cX10_rounds 25 = .ok (.ifCond .ne 12, 3) := by decide +kernel
theorem dX10_rounds_28 : decode cX10_rounds 28 = .ok (.aload_n 0, 1) := by decide +kernel
theorem dX10_rounds_29 : decode cX10_rounds 29 = .ok (.getfield 152, 3) := by decide +kernel
theorem dX10_rounds_32 : decode cX10_rounds 32 = .ok (.iload_n 1, 1) := by decide +kernel
theorem dX10_rounds_33 : decode cX10_rounds 33 = .ok (.iaload, 1) := by decide +kernel
theorem dX10_rounds_34 : decode cX10_rounds 34 = .ok (.goto 9, 3) := by decide +kernel
theorem dX10_rounds_37 : decode cX10_rounds 37 = .ok (.aload_n 0, 1) := by decide +kernel
theorem dX10_rounds_38 : decode cX10_rounds 38 = .ok (.getfield 155, 3) := by decide +kernel
theorem dX10_rounds_41 : decode cX10_rounds 41 = .ok (.iload_n 1, 1) := by decide +kernel
theorem dX10_rounds_42 : decode cX10_rounds 42 = .ok (.iaload, 1) := by decide +kernel
theorem dX10_rounds_43 : decode cX10_rounds 43 = .ok (.ireturn, 1) := by decide +kernel
theorem dX10_scene_0 : decode cX10_scene 0 = .ok (.aload_n 0, 1) := by decide +kernel
theorem dX10_scene_1 : decode cX10_scene 1 = .ok (.iload_n 1, 1) := by decide +kernel
theorem dX10_scene_2 : decode cX10_scene 2 = .ok (.invokevirtual 438, 3) := by decide +kernel
theorem dX10_scene_5 : decode cX10_scene 5 = .ok (.ifCond .eq 29, 3) := by decide +kernel
theorem dX10_scene_34 : decode cX10_scene 34 = .ok (.iconst (-1), 1) := by decide +kernel
theorem dX10_scene_35 : decode cX10_scene 35 = .ok (.ireturn, 1) := by decide +kernel
theorem dX10_seat_0 : decode cX10_seat 0 = .ok (.aload_n 0, 1) := by decide +kernel
theorem dX10_seat_1 : decode cX10_seat 1 = .ok (.iload_n 1, 1) := by decide +kernel
theorem dX10_seat_2 : decode cX10_seat 2 = .ok (.iload_n 2, 1) := by decide +kernel
theorem dX10_seat_3 : decode cX10_seat 3 = .ok (.invokevirtual 413, 3) := by decide +kernel
theorem dX10_seat_6 : decode cX10_seat 6 = .ok (.ifCond .eq 31, 3) := by decide +kernel
theorem dX10_seat_37 : decode cX10_seat 37 = .ok (.iconst (-1), 1) := by decide +kernel
theorem dX10_seat_38 : decode cX10_seat 38 = .ok (.ireturn, 1) := by decide +kernel
theorem dX10_sign_0 : decode cX10_sign 0 = .ok (.iload_n 1, 1) := by decide +kernel
theorem dX10_sign_1 : decode cX10_sign 1 = .ok (.aload_n 0, 1) := by decide +kernel
theorem dX10_sign_2 : decode cX10_sign 2 = .ok (.getfield 176, 3) := by decide +kernel
theorem dX10_sign_5 : decode cX10_sign 5 = .ok (.if_icmp .ge 16, 3) := by decide +kernel
theorem dX10_sign_21 : decode cX10_sign 21 = .ok (.iconst 0, 1) := by decide +kernel
theorem dX10_sign_22 : decode cX10_sign 22 = .ok (.ireturn, 1) := by decide +kernel
theorem dX10_state_0 : decode cX10_state 0 = .ok (.aload_n 0, 1) := by decide +kernel
theorem dX10_state_1 : decode cX10_state 1 = .ok (.iload_n 1, 1) := by decide +kernel
theorem dX10_state_2 : decode cX10_state 2 = .ok (.invokevirtual 432, 3) := by decide +kernel
theorem dX10_state_5 : decode cX10_state 5 = .ok (.ifCond .eq 36, 3) := by decide +kernel
theorem dX10_state_41 : decode cX10_state 41 = .ok (.iconst (-1), 1) := by decide +kernel
theorem dX10_state_42 : decode cX10_state 42 = .ok (.ireturn, 1) := by decide +kernel
theorem dX10_struck_0 : decode cX10_struck 0 = .ok (.iload_n 1, 1) := by decide +kernel
theorem dX10_struck_1 : decode cX10_struck 1 = .ok (.iconst 0, 1) := by decide +kernel
theorem dX10_struck_2 : decode cX10_struck 2 = .ok (.iconst 1, 1) := by decide +kernel
theorem dX10_struck_3 : decode cX10_struck 3 = .ok (.invokestatic 387, 3) := by decide +kernel
theorem dX10_struck_6 : decode cX10_struck 6 = .ok (.ifCond .eq 13, 3) := by decide +kernel
theorem dX10_struck_9 : decode cX10_struck 9 = .ok (.aload_n 0, 1) := by decide +kernel
theorem dX10_struck_10 : decode cX10_struck 10 = .ok (.iconst 0, 1) := by decide +kernel
theorem dX10_struck_11 : decode cX10_struck 11 = .ok (.iload_n 1, 1) := by decide +kernel
theorem dX10_struck_12 : decode cX10_struck 12 = .ok (.iload_n 2, 1) := by decide +kernel
theorem dX10_struck_13 : decode cX10_struck 13 = .ok (.invokevirtual 464, 3) := by decide +kernel
theorem dX10_struck_16 : decode cX10_struck 16 = .ok (.goto 4, 3) := by decide +kernel
theorem dX10_struck_19 : decode cX10_struck 19 = .ok (.iconst (-1), 1) := by decide +kernel
theorem dX10_struck_20 : decode cX10_struck 20 = .ok (.ireturn, 1) := by decide +kernel
theorem dX10_sure_0 : decode cX10_sure 0 = .ok (.aload_n 0, 1) := by decide +kernel
theorem dX10_sure_1 : decode cX10_sure 1 = .ok (.iload 5, 2) := by decide +kernel
theorem dX10_sure_3 : decode cX10_sure 3 = .ok (.invokevirtual 468, 3) := by decide +kernel
theorem dX10_sure_6 : decode cX10_sure 6 = .ok (.istore 6, 2) := by decide +kernel
theorem dX10_sure_8 : decode cX10_sure 8 = .ok (.aload_n 0, 1) := by decide +kernel
theorem dX10_sure_9 : decode cX10_sure 9 = .ok (.iload_n 1, 1) := by decide +kernel
theorem dX10_sure_10 : decode cX10_sure 10 = .ok (.iload_n 2, 1) := by decide +kernel
theorem dX10_sure_11 : decode cX10_sure 11 = .ok (.iload_n 3, 1) := by decide +kernel
theorem dX10_sure_12 : decode cX10_sure 12 = .ok (.invokevirtual 435, 3) := by decide +kernel
theorem dX10_sure_15 : decode cX10_sure 15 = .ok (.ifCond .eq 8, 3) := by decide +kernel
theorem dX10_sure_23 : decode cX10_sure 23 = .ok (.iconst (-1), 1) := by decide +kernel
theorem dX10_sure_24 : decode cX10_sure 24 = .ok (.ireturn, 1) := by decide +kernel
theorem dX10_trial_0 : decode cX10_trial 0 = .ok (.aload_n 0, 1) := by decide +kernel
theorem dX10_trial_1 : decode cX10_trial 1 = .ok (.iconst 0, 1) := by decide +kernel
theorem dX10_trial_2 : decode cX10_trial 2 = .ok (.putfield 179, 3) := by decide +kernel
theorem dX10_trial_5 : decode cX10_trial 5 = .ok (.aload_n 0, 1) := by decide +kernel
theorem dX10_trial_6 : decode cX10_trial 6 = .ok (.iconst (-1), 1) := by decide +kernel
theorem dX10_trial_7 : decode cX10_trial 7 = .ok (.putfield 16, 3) := by decide +kernel
theorem dX10_trial_10 : decode cX10_trial 10 = .ok (.aload_n 0, 1) := by decide +kernel
theorem dX10_trial_11 : decode cX10_trial 11 = .ok (.aload_n 0, 1) := by decide +kernel
theorem dX10_trial_12 : decode cX10_trial 12 = .ok (.getfield 297, 3) := by decide +kernel
theorem dX10_trial_15 : decode cX10_trial 15 = .ok (.putfield 176, 3) := by decide +kernel
theorem dX10_trial_18 : decode cX10_trial 18 = .ok (.iconst 0, 1) := by decide +kernel
theorem dX10_trial_19 : decode cX10_trial 19 = .ok (.istore_n 1, 1) := by decide +kernel
theorem dX10_trial_20 : decode cX10_trial 20 = .ok (.iload_n 1, 1) := by decide +kernel
theorem dX10_trial_21 : decode cX10_trial 21 = .ok (.aload_n 0, 1) := by decide +kernel
theorem dX10_trial_22 : decode cX10_trial 22 = .ok (.getfield 176, 3) := by decide +kernel
theorem dX10_trial_25 : decode cX10_trial 25 = .ok (.if_icmp .ge 21, 3) := by decide +kernel
theorem dX10_trial_46 : decode cX10_trial 46 = .ok (.aload_n 0, 1) := by decide +kernel
theorem dX10_trial_47 : decode cX10_trial 47 = .ok (.iconst 0, 1) := by decide +kernel
theorem dX10_trial_48 : decode cX10_trial 48 = .ok (.putfield 297, 3) := by decide +kernel
theorem dX10_trial_51 : decode cX10_trial 51 = .ok (.aload_n 0, 1) := by decide +kernel
theorem dX10_trial_52 : decode cX10_trial 52 = .ok (.iconst 0, 1) := by decide +kernel
theorem dX10_trial_53 : decode cX10_trial 53 = .ok (.putfield 232, 3) := by decide +kernel
theorem dX10_trial_56 : decode cX10_trial 56 = .ok (.aload_n 0, 1) := by decide +kernel
theorem dX10_trial_57 : decode cX10_trial 57 = .ok (.iconst 1, 1) := by decide +kernel
theorem dX10_trial_58 : decode cX10_trial 58 = .ok (.aload_n 0, 1) := by decide +kernel
theorem dX10_trial_59 : decode cX10_trial 59 = .ok (.getfield 300, 3) := by decide +kernel
theorem dX10_trial_62 : decode cX10_trial 62 = .ok (.isub, 1) := by decide +kernel
theorem dX10_trial_63 : decode cX10_trial 63 = .ok (.putfield 291, 3) := by decide +kernel
theorem dX10_trial_66 : decode cX10_trial 66 = .ok (.aload_n 0, 1) := by decide +kernel
theorem dX10_trial_67 : decode cX10_trial 67 = .ok (.invokevirtual 170, 3) := by decide +kernel
theorem dX10_trial_70 : decode cX10_trial 70 = .ok (.aload_n 0, 1) := by decide +kernel
theorem dX10_trial_71 : decode cX10_trial 71 = .ok (.invokevirtual 274, 3) := by decide +kernel
theorem dX10_trial_74 : decode cX10_trial 74 = .ok (.aload_n 0, 1) := by decide +kernel
theorem dX10_trial_75 : decode cX10_trial 75 = .ok (.invokevirtual 270, 3) := by decide +kernel
theorem dX10_trial_78 : decode cX10_trial 78 = .ok (.ifCond .eq 17, 3) := by decide +kernel
theorem dX10_trial_81 : decode cX10_trial 81 = .ok (.aload_n 0, 1) := by decide +kernel
theorem dX10_trial_82 : decode cX10_trial 82 = .ok (.getfield 242, 3) := by decide +kernel
theorem dX10_trial_85 : decode cX10_trial 85 = .ok (.ifCond .eq 10, 3) := by decide +kernel
theorem dX10_trial_95 : decode cX10_trial 95 = .ok (.aload_n 0, 1) := by decide +kernel
theorem dX10_trial_96 : decode cX10_trial 96 = .ok (.invokevirtual 270, 3) := by decide +kernel
theorem dX10_trial_99 : decode cX10_trial 99 = .ok (.ifCond .ne 5, 3) := by decide +kernel
theorem dX10_trial_104 : decode cX10_trial 104 = .ok (.aload_n 0, 1) := by decide +kernel
theorem dX10_trial_105 : decode cX10_trial 105 = .ok (.aload_n 0, 1) := by decide +kernel
theorem dX10_trial_106 : decode cX10_trial 106 = .ok (.getfield 291, 3) := by decide +kernel
theorem dX10_trial_109 : decode cX10_trial 109 = .ok (.putfield 300, 3) := by decide +kernel
theorem dX10_trial_112 : decode cX10_trial 112 = .ok (.aload_n 0, 1) := by decide +kernel
theorem dX10_trial_113 : decode cX10_trial 113 = .ok (.invokevirtual 173, 3) := by decide +kernel
theorem dX10_trial_116 : decode cX10_trial 116 = .ok (.aload_n 0, 1) := by decide +kernel
theorem dX10_trial_117 : decode cX10_trial 117 = .ok (.iconst 0, 1) := by decide +kernel
theorem dX10_trial_118 : decode cX10_trial 118 = .ok (.putfield 306, 3) := by decide +kernel
theorem dX10_trial_121 : decode cX10_trial 121 = .ok (.iconst 0, 1) := by decide +kernel
theorem dX10_trial_122 : decode cX10_trial 122 = .ok (.istore_n 1, 1) := by decide +kernel
theorem dX10_trial_123 : decode cX10_trial 123 = .ok (.iload_n 1, 1) := by decide +kernel
theorem dX10_trial_124 : decode cX10_trial 124 = .ok (.iconst 3, 1) := by decide +kernel
theorem dX10_trial_125 : decode cX10_trial 125 = .ok (.if_icmp .ge 16, 3) := by decide +kernel
theorem dX10_trial_128 : decode cX10_trial 128 = .ok (.aload_n 0, 1) := by decide +kernel
theorem dX10_trial_129 : decode cX10_trial 129 = .ok (.getfield 161, 3) := by decide +kernel
theorem dX10_trial_132 : decode cX10_trial 132 = .ok (.iload_n 1, 1) := by decide +kernel
theorem dX10_trial_133 : decode cX10_trial 133 = .ok (.iconst (-1), 1) := by decide +kernel
theorem dX10_trial_134 : decode cX10_trial 134 = .ok (.iastore, 1) := by decide +kernel
theorem dX10_trial_135 : decode cX10_trial 135 = .ok (.iinc 1 1, 3) := by decide +kernel
theorem dX10_trial_138 : decode cX10_trial 138 = .ok (.goto (-15), 3) := by decide +kernel
theorem dX10_trial_141 : decode cX10_trial 141 = .ok (.aload_n 0, 1) := by decide +kernel
theorem dX10_trial_142 : decode cX10_trial 142 = .ok (.getfield 45, 3) := by decide +kernel
theorem dX10_trial_145 : decode cX10_trial 145 = .ok (.aload_n 0, 1) := by decide +kernel
theorem dX10_trial_146 : decode cX10_trial 146 = .ok (.getfield 300, 3) := by decide +kernel
theorem dX10_trial_149 : decode cX10_trial 149 = .ok (.iaload, 1) := by decide +kernel
theorem dX10_trial_150 : decode cX10_trial 150 = .ok (.ireturn, 1) := by decide +kernel
theorem dX10_twice_0 : decode cX10_twice 0 = .ok (.iconst 0, 1) := by decide +kernel
theorem dX10_twice_1 : decode cX10_twice 1 = .ok (.istore_n 2, 1) := by decide +kernel
theorem dX10_twice_2 : decode cX10_twice 2 = .ok (.iconst 0, 1) := by decide +kernel
theorem dX10_twice_3 : decode cX10_twice 3 = .ok (.istore_n 3, 1) := by decide +kernel
theorem dX10_twice_4 : decode cX10_twice 4 = .ok (.iload_n 3, 1) := by decide +kernel
theorem dX10_twice_5 : decode cX10_twice 5 = .ok (.aload_n 0, 1) := by decide +kernel
theorem dX10_twice_6 : decode cX10_twice 6 = .ok (.getfield 306, 3) := by decide +kernel
theorem dX10_twice_9 : decode cX10_twice 9 = .ok (.if_icmp .ge 102, 3) := by decide +kernel
theorem dX10_twice_111 : decode cX10_twice 111 = .ok (.iload_n 2, 1) := by decide +kernel
theorem dX10_twice_112 : decode cX10_twice 112 = .ok (.ireturn, 1) := by decide +kernel
theorem dX10_untell_0 : decode cX10_untell 0 = .ok (.iload_n 1, 1) := by decide +kernel
theorem dX10_untell_1 : decode cX10_untell 1 = .ok (.iconst 0, 1) := by decide +kernel
theorem dX10_untell_2 : decode cX10_untell 2 = .ok (.aload_n 0, 1) := by decide +kernel
theorem dX10_untell_3 : decode cX10_untell 3 = .ok (.getfield 306, 3) := by decide +kernel
theorem dX10_untell_6 : decode cX10_untell 6 = .ok (.iconst 1, 1) := by decide +kernel
theorem dX10_untell_7 : decode cX10_untell 7 = .ok (.isub, 1) := by decide +kernel
theorem dX10_untell_8 : decode cX10_untell 8 = .ok (.invokestatic 387, 3) := by decide +kernel
theorem dX10_untell_11 : decode cX10_untell 11 = .ok (.ifCond .eq 12, 3) := by decide +kernel
theorem dX10_untell_23 : decode cX10_untell 23 = .ok (.iconst 0, 1) := by decide +kernel
theorem dX10_untell_24 : decode cX10_untell 24 = .ok (.ireturn, 1) := by decide +kernel
theorem dX10_witness_0 : decode cX10_witness 0 = .ok (.aload_n 0, 1) := by decide +kernel
theorem dX10_witness_1 : decode cX10_witness 1 = .ok (.iload_n 1, 1) := by decide +kernel
theorem dX10_witness_2 : decode cX10_witness 2 = .ok (.invokevirtual 432, 3) := by decide +kernel
theorem dX10_witness_5 : decode cX10_witness 5 = .ok (.ifCond .ne 5, 3) := by decide +kernel
theorem dX10_witness_8 : decode cX10_witness 8 = .ok (.iconst (-1), 1) := by decide +kernel
theorem dX10_witness_9 : decode cX10_witness 9 = .ok (.ireturn, 1) := by decide +kernel
theorem dX10_witnessMany_0 : decode cX10_witnessMany 0 = .ok (.aload_n 0, 1) := by decide +kernel
theorem dX10_witnessMany_1 : decode cX10_witnessMany 1 = .ok (.getfield 45, 3) := by decide +kernel
theorem dX10_witnessMany_4 : decode cX10_witnessMany 4 = .ok (.aload_n 0, 1) := by decide +kernel
theorem dX10_witnessMany_5 : decode cX10_witnessMany 5 = .ok (.getfield 300, 3) := by decide +kernel
theorem dX10_witnessMany_8 : decode cX10_witnessMany 8 = .ok (.iaload, 1) := by decide +kernel
theorem dX10_witnessMany_9 : decode cX10_witnessMany 9 = .ok (.ireturn, 1) := by decide +kernel
theorem dX1_init_0 : decode cX1_init 0 = .ok (.aload_n 0, 1) := by decide +kernel
theorem dX1_init_1 : decode cX1_init 1 = .ok (.invokespecial 3, 3) := by decide +kernel
theorem dX1_init_4 : decode cX1_init 4 = .ok (.aload_n 0, 1) := by decide +kernel
theorem dX1_init_5 : decode cX1_init 5 = .ok (.new 9, 3) := by decide +kernel
theorem dX1_init_8 : decode cX1_init 8 = .ok (.dup, 1) := by decide +kernel
theorem dX1_init_9 : decode cX1_init 9 = .ok (.invokespecial 11, 3) := by decide +kernel
theorem dX1_init_12 : decode cX1_init 12 = .ok (.putfield 12, 3) := by decide +kernel
theorem dX1_init_15 : decode cX1_init 15 = .ok (.aload_n 0, 1) := by decide +kernel
theorem dX1_init_16 : decode cX1_init 16 = .ok (.new 18, 3) := by decide +kernel
theorem dX1_init_19 : decode cX1_init 19 = .ok (.dup, 1) := by decide +kernel
theorem dX1_init_20 : decode cX1_init 20 = .ok (.invokespecial 20, 3) := by decide +kernel
theorem dX1_init_23 : decode cX1_init 23 = .ok (.putfield 21, 3) := by decide +kernel
theorem dX1_init_26 : decode cX1_init 26 = .ok (.aload_n 0, 1) := by decide +kernel
theorem dX1_init_27 : decode cX1_init 27 = .ok (.iconst 0, 1) := by decide +kernel
theorem dX1_init_28 : decode cX1_init 28 = .ok (.putfield 25, 3) := by decide +kernel
theorem dX1_init_31 : decode cX1_init 31 = .ok (.aload_n 0, 1) := by decide +kernel
theorem dX1_init_32 : decode cX1_init 32 = .ok (.iconst (-1), 1) := by decide +kernel
theorem dX1_init_33 : decode cX1_init 33 = .ok (.putfield 29, 3) := by decide +kernel
theorem dX1_init_36 : decode cX1_init 36 = .ok (.aload_n 0, 1) := by decide +kernel
theorem dX1_init_37 : decode cX1_init 37 = .ok (.aload_n 1, 1) := by decide +kernel
theorem dX1_init_38 : decode cX1_init 38 = .ok (.putfield 32, 3) := by decide +kernel
theorem dX1_init_41 : decode cX1_init 41 = .ok (.return_, 1) := by decide +kernel
theorem dX1_read_0 : decode cX1_read 0 = .ok (.aload_n 0, 1) := by decide +kernel
theorem dX1_read_1 : decode cX1_read 1 = .ok (.aload_n 3, 1) := by decide +kernel
theorem dX1_read_2 : decode cX1_read 2 = .ok (.putfield 32, 3) := by decide +kernel
theorem dX1_read_5 : decode cX1_read 5 = .ok (.aload_n 0, 1) := by decide +kernel
theorem dX1_read_6 : decode cX1_read 6 = .ok (.iconst 0, 1) := by decide +kernel
theorem dX1_read_7 : decode cX1_read 7 = .ok (.putfield 25, 3) := by decide +kernel
theorem dX1_read_10 : decode cX1_read 10 = .ok (.aload_n 0, 1) := by decide +kernel
theorem dX1_read_11 : decode cX1_read 11 = .ok (.iconst (-1), 1) := by decide +kernel
theorem dX1_read_12 : decode cX1_read 12 = .ok (.putfield 29, 3) := by decide +kernel
theorem dX1_read_15 : decode cX1_read 15 = .ok (.aload_n 0, 1) := by decide +kernel
theorem dX1_read_16 : decode cX1_read 16 = .ok (.getfield 12, 3) := by decide +kernel
theorem dX1_read_19 : decode cX1_read 19 = .ok (.aload_n 1, 1) := by decide +kernel
theorem dX1_read_20 : decode cX1_read 20 = .ok (.iload_n 2, 1) := by decide +kernel
theorem dX1_read_21 : decode cX1_read 21 = .ok (.invokevirtual 36, 3) := by decide +kernel
theorem dX1_read_24 : decode cX1_read 24 = .ok (.iconst 0, 1) := by decide +kernel
theorem dX1_read_25 : decode cX1_read 25 = .ok (.istore 4, 2) := by decide +kernel
theorem dX1_read_27 : decode cX1_read 27 = .ok (.iload 4, 2) := by decide +kernel
theorem dX1_read_29 : decode cX1_read 29 = .ok (.sipush 1700, 3) := by decide +kernel
theorem dX1_read_32 : decode cX1_read 32 = .ok (.if_icmp .gt 50, 3) := by decide +kernel
theorem dX1_read_35 : decode cX1_read 35 = .ok (.aload_n 0, 1) := by decide +kernel
theorem dX1_read_36 : decode cX1_read 36 = .ok (.getfield 12, 3) := by decide +kernel
theorem dX1_read_39 : decode cX1_read 39 = .ok (.getfield 40, 3) := by decide +kernel
theorem dX1_read_42 : decode cX1_read 42 = .ok (.ifCond .eq 40, 3) := by decide +kernel
theorem dX1_read_82 : decode cX1_read 82 = .ok (.iconst 1, 1) := by decide +kernel
theorem dX1_read_83 : decode cX1_read 83 = .ok (.ireturn, 1) := by decide +kernel
theorem dX2_compareDeeds_0 : decode cX2_compareDeeds 0 = .ok (.iconst 0, 1) := by decide +kernel
theorem dX2_compareDeeds_1 : decode cX2_compareDeeds 1 = .ok (.istore_n 1, 1) := by decide +kernel
theorem dX2_compareDeeds_2 : decode cX2_compareDeeds 2 = .ok (.iload_n 1, 1) := by decide +kernel
theorem dX2_compareDeeds_3 : decode cX2_compareDeeds 3 = .ok (.aload_n 0, 1) := by decide +kernel
theorem dX2_compareDeeds_4 : decode cX2_compareDeeds 4 = .ok (.getfield 59, 3) := by decide +kernel
theorem dX2_compareDeeds_7 : decode cX2_compareDeeds 7 = .ok (.getfield 106, 3) := by decide +kernel
theorem dX2_compareDeeds_10 : decode cX2_compareDeeds 10 = .ok (.getfield 78, 3) := by decide +kernel
theorem dX2_compareDeeds_13 : decode cX2_compareDeeds 13 = .ok (.if_icmp .ge 71, 3) := by decide +kernel
theorem dX2_compareDeeds_84 : decode cX2_compareDeeds 84 = .ok (.return_, 1) := by decide +kernel
theorem dX2_findBest_0 : decode cX2_findBest 0 = .ok (.aload_n 0, 1) := by decide +kernel
theorem dX2_findBest_1 : decode cX2_findBest 1 = .ok (.getfield 32, 3) := by decide +kernel
theorem dX2_findBest_4 : decode cX2_findBest 4 = .ok (.ifCond .ne 90, 3) := by decide +kernel
theorem dX2_findBest_7 : decode cX2_findBest 7 = .ok (.aload_n 0, 1) := by decide +kernel
theorem dX2_findBest_8 : decode cX2_findBest 8 = .ok (.iconst 1, 1) := by decide +kernel
theorem dX2_findBest_9 : decode cX2_findBest 9 = .ok (.putfield 32, 3) := by decide +kernel
theorem dX2_findBest_12 : decode cX2_findBest 12 = .ok (.aload_n 0, 1) := by decide +kernel
theorem dX2_findBest_13 : decode cX2_findBest 13 = .ok (.iconst (-1), 1) := by decide +kernel
theorem dX2_findBest_14 : decode cX2_findBest 14 = .ok (.putfield 56, 3) := by decide +kernel
theorem dX2_findBest_17 : decode cX2_findBest 17 = .ok (.iconst 0, 1) := by decide +kernel
theorem dX2_findBest_18 : decode cX2_findBest 18 = .ok (.istore_n 1, 1) := by decide +kernel
theorem dX2_findBest_19 : decode cX2_findBest 19 = .ok (.iload_n 1, 1) := by decide +kernel
theorem dX2_findBest_20 : decode cX2_findBest 20 = .ok (.aload_n 0, 1) := by decide +kernel
theorem dX2_findBest_21 : decode cX2_findBest 21 = .ok (.getfield 59, 3) := by decide +kernel
theorem dX2_findBest_24 : decode cX2_findBest 24 = .ok (.getfield 120, 3) := by decide +kernel
theorem dX2_findBest_27 : decode cX2_findBest 27 = .ok (.if_icmp .ge 67, 3) := by decide +kernel
theorem dX2_findBest_94 : decode cX2_findBest 94 = .ok (.aload_n 0, 1) := by decide +kernel
theorem dX2_findBest_95 : decode cX2_findBest 95 = .ok (.getfield 56, 3) := by decide +kernel
theorem dX2_findBest_98 : decode cX2_findBest 98 = .ok (.iconst (-1), 1) := by decide +kernel
theorem dX2_findBest_99 : decode cX2_findBest 99 = .ok (.if_icmp .eq 7, 3) := by decide +kernel
theorem dX2_findBest_106 : decode cX2_findBest 106 = .ok (.iconst 0, 1) := by decide +kernel
theorem dX2_findBest_107 : decode cX2_findBest 107 = .ok (.ireturn, 1) := by decide +kernel
theorem dX2_hold_0 : decode cX2_hold 0 = .ok (.aload_n 0, 1) := by decide +kernel
theorem dX2_hold_1 : decode cX2_hold 1 = .ok (.aload_n 1, 1) := by decide +kernel
theorem dX2_hold_2 : decode cX2_hold 2 = .ok (.putfield 59, 3) := by decide +kernel
theorem dX2_hold_5 : decode cX2_hold 5 = .ok (.aload_n 0, 1) := by decide +kernel
theorem dX2_hold_6 : decode cX2_hold 6 = .ok (.iconst 0, 1) := by decide +kernel
theorem dX2_hold_7 : decode cX2_hold 7 = .ok (.putfield 28, 3) := by decide +kernel
theorem dX2_hold_10 : decode cX2_hold 10 = .ok (.aload_n 0, 1) := by decide +kernel
theorem dX2_hold_11 : decode cX2_hold 11 = .ok (.lconst 0, 1) := by decide +kernel
theorem dX2_hold_12 : decode cX2_hold 12 = .ok (.putfield 43, 3) := by decide +kernel
theorem dX2_hold_15 : decode cX2_hold 15 = .ok (.aload_n 0, 1) := by decide +kernel
theorem dX2_hold_16 : decode cX2_hold 16 = .ok (.iconst 0, 1) := by decide +kernel
theorem dX2_hold_17 : decode cX2_hold 17 = .ok (.putfield 32, 3) := by decide +kernel
theorem dX2_hold_20 : decode cX2_hold 20 = .ok (.aload_n 0, 1) := by decide +kernel
theorem dX2_hold_21 : decode cX2_hold 21 = .ok (.getfield 15, 3) := by decide +kernel
theorem dX2_hold_24 : decode cX2_hold 24 = .ok (.lconst 0, 1) := by decide +kernel
theorem dX2_hold_25 : decode cX2_hold 25 = .ok (.invokestatic 63, 3) := by decide +kernel
theorem dX2_hold_28 : decode cX2_hold 28 = .ok (.aload_n 0, 1) := by decide +kernel
theorem dX2_hold_29 : decode cX2_hold 29 = .ok (.invokevirtual 69, 3) := by decide +kernel
theorem dX2_hold_32 : decode cX2_hold 32 = .ok (.iconst 0, 1) := by decide +kernel
theorem dX2_hold_33 : decode cX2_hold 33 = .ok (.istore_n 2, 1) := by decide +kernel
theorem dX2_hold_34 : decode cX2_hold 34 = .ok (.iload_n 2, 1) := by decide +kernel
theorem dX2_hold_35 : decode cX2_hold 35 = .ok (.aload_n 0, 1) := by decide +kernel
theorem dX2_hold_36 : decode cX2_hold 36 = .ok (.getfield 59, 3) := by decide +kernel
theorem dX2_hold_39 : decode cX2_hold 39 = .ok (.getfield 72, 3) := by decide +kernel
theorem dX2_hold_42 : decode cX2_hold 42 = .ok (.getfield 78, 3) := by decide +kernel
theorem dX2_hold_45 : decode cX2_hold 45 = .ok (.if_icmp .ge 73, 3) := by decide +kernel
theorem dX2_hold_118 : decode cX2_hold 118 = .ok (.return_, 1) := by decide +kernel
theorem dX2_init_0 : decode cX2_init 0 = .ok (.aload_n 0, 1) := by decide +kernel
theorem dX2_init_1 : decode cX2_init 1 = .ok (.invokespecial 3, 3) := by decide +kernel
theorem dX2_init_4 : decode cX2_init 4 = .ok (.aload_n 0, 1) := by decide +kernel
theorem dX2_init_5 : decode cX2_init 5 = .ok (.bipush 55, 2) := by decide +kernel
theorem dX2_init_7 : decode cX2_init 7 = .ok (.newarray .long, 2) := by decide +kernel
theorem dX2_init_9 : decode cX2_init 9 = .ok (.putfield 9, 3) := by decide +kernel
theorem dX2_init_12 : decode cX2_init 12 = .ok (.aload_n 0, 1) := by decide +kernel
theorem dX2_init_13 : decode cX2_init 13 = .ok (.iconst 5, 1) := by decide +kernel
theorem dX2_init_14 : decode cX2_init 14 = .ok (.newarray .long, 2) := by decide +kernel
theorem dX2_init_16 : decode cX2_init 16 = .ok (.putfield 15, 3) := by decide +kernel
theorem dX2_init_19 : decode cX2_init 19 = .ok (.aload_n 0, 1) := by decide +kernel
theorem dX2_init_20 : decode cX2_init 20 = .ok (.sipush 320, 3) := by decide +kernel
theorem dX2_init_23 : decode cX2_init 23 = .ok (.newarray .long, 2) := by decide +kernel
theorem dX2_init_25 : decode cX2_init 25 = .ok (.putfield 18, 3) := by decide +kernel
theorem dX2_init_28 : decode cX2_init 28 = .ok (.aload_n 0, 1) := by decide +kernel
theorem dX2_init_29 : decode cX2_init 29 = .ok (.new 21, 3) := by decide +kernel
theorem dX2_init_32 : decode cX2_init 32 = .ok (.dup, 1) := by decide +kernel
theorem dX2_init_33 : decode cX2_init 33 = .ok (.invokespecial 23, 3) := by decide +kernel
theorem dX2_init_36 : decode cX2_init 36 = .ok (.putfield 24, 3) := by decide +kernel
theorem dX2_init_39 : decode cX2_init 39 = .ok (.aload_n 0, 1) := by decide +kernel
theorem dX2_init_40 : decode cX2_init 40 = .ok (.iconst 0, 1) := by decide +kernel
theorem dX2_init_41 : decode cX2_init 41 = .ok (.putfield 28, 3) := by decide +kernel
theorem dX2_init_44 : decode cX2_init 44 = .ok (.aload_n 0, 1) := by decide +kernel
theorem dX2_init_45 : decode cX2_init 45 = .ok (.iconst 0, 1) := by decide +kernel
theorem dX2_init_46 : decode cX2_init 46 = .ok (.putfield 32, 3) := by decide +kernel
theorem dX2_init_49 : decode cX2_init 49 = .ok (.aload_n 0, 1) := by decide +kernel
theorem dX2_init_50 : decode cX2_init 50 = .ok (.bipush 10, 2) := by decide +kernel
theorem dX2_init_52 : decode cX2_init 52 = .ok (.newarray .int, 2) := by decide +kernel
theorem dX2_init_54 : decode cX2_init 54 = .ok (.putfield 36, 3) := by decide +kernel
theorem dX2_init_57 : decode cX2_init 57 = .ok (.aload_n 0, 1) := by decide +kernel
theorem dX2_init_58 : decode cX2_init 58 = .ok (.bipush 10, 2) := by decide +kernel
theorem dX2_init_60 : decode cX2_init 60 = .ok (.newarray .long, 2) := by decide +kernel
theorem dX2_init_62 : decode cX2_init 62 = .ok (.putfield 40, 3) := by decide +kernel
theorem dX2_init_65 : decode cX2_init 65 = .ok (.aload_n 0, 1) := by decide +kernel
theorem dX2_init_66 : decode cX2_init 66 = .ok (.lconst 0, 1) := by decide +kernel
theorem dX2_init_67 : decode cX2_init 67 = .ok (.putfield 43, 3) := by decide +kernel
theorem dX2_init_70 : decode cX2_init 70 = .ok (.aload_n 0, 1) := by decide +kernel
theorem dX2_init_71 : decode cX2_init 71 = .ok (.iconst 0, 1) := by decide +kernel
theorem dX2_init_72 : decode cX2_init 72 = .ok (.putfield 47, 3) := by decide +kernel
theorem dX2_init_75 : decode cX2_init 75 = .ok (.aload_n 0, 1) := by decide +kernel
theorem dX2_init_76 : decode cX2_init 76 = .ok (.iconst 0, 1) := by decide +kernel
theorem dX2_init_77 : decode cX2_init 77 = .ok (.putfield 50, 3) := by decide +kernel
theorem dX2_init_80 : decode cX2_init 80 = .ok (.aload_n 0, 1) := by decide +kernel
theorem dX2_init_81 : decode cX2_init 81 = .ok (.iconst 0, 1) := by decide +kernel
theorem dX2_init_82 : decode cX2_init 82 = .ok (.putfield 53, 3) := by decide +kernel
theorem dX2_init_85 : decode cX2_init 85 = .ok (.aload_n 0, 1) := by decide +kernel
theorem dX2_init_86 : decode cX2_init 86 = .ok (.iconst (-1), 1) := by decide +kernel
theorem dX2_init_87 : decode cX2_init 87 = .ok (.putfield 56, 3) := by decide +kernel
theorem dX2_init_90 : decode cX2_init 90 = .ok (.aload_n 0, 1) := by decide +kernel
theorem dX2_init_91 : decode cX2_init 91 = .ok (.aload_n 1, 1) := by decide +kernel
theorem dX2_init_92 : decode cX2_init 92 = .ok (.putfield 59, 3) := by decide +kernel
theorem dX2_init_95 : decode cX2_init 95 = .ok (.return_, 1) := by decide +kernel
theorem dX3_clear_0 : decode cX3_clear 0 = .ok (.aload_n 0, 1) := by decide +kernel
theorem dX3_clear_1 : decode cX3_clear 1 = .ok (.iconst 0, 1) := by decide +kernel
theorem dX3_clear_2 : decode cX3_clear 2 = .ok (.putfield 18, 3) := by decide +kernel
theorem dX3_clear_5 : decode cX3_clear 5 = .ok (.aload_n 0, 1) := by decide +kernel
theorem dX3_clear_6 : decode cX3_clear 6 = .ok (.iconst 0, 1) := by decide +kernel
theorem dX3_clear_7 : decode cX3_clear 7 = .ok (.putfield 22, 3) := by decide +kernel
theorem dX3_clear_10 : decode cX3_clear 10 = .ok (.return_, 1) := by decide +kernel
theorem dX3_init_0 : decode cX3_init 0 = .ok (.aload_n 0, 1) := by decide +kernel
theorem dX3_init_1 : decode cX3_init 1 = .ok (.invokespecial 3, 3) := by decide +kernel
