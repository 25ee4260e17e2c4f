theorem dX9_about_158 : decode cX9_about 158 = .ok (.ireturn, 1) := by decide +kernel
theorem dX9_apart_0 : decode cX9_apart 0 = .ok (.aload_n 0, 1) := by decide +kernel
theorem dX9_apart_1 : decode cX9_apart 1 = .ok (.getfield 20, 3) := by decide +kernel
theorem dX9_apart_4 : decode cX9_apart 4 = .ok (.iload_n 1, 1) := by decide +kernel
theorem dX9_apart_5 : decode cX9_apart 5 = .ok (.invokevirtual 128, 3) := by decide +kernel
theorem dX9_apart_8 : decode cX9_apart 8 = .ok (.ifCond .eq 26, 3) := by decide +kernel
theorem dX9_apart_34 : decode cX9_apart 34 = .ok (.iconst (-1), 1) := by decide +kernel
theorem dX9_apart_35 : decode cX9_apart 35 = .ok (.ireturn, 1) := by decide +kernel
theorem dX9_back_0 : decode cX9_back 0 = .ok (.iload_n 1, 1) := by decide +kernel
theorem dX9_back_1 : decode cX9_back 1 = .ok (.ifCond .lt 20, 3) := by decide +kernel
theorem dX9_back_4 : decode cX9_back 4 = .ok (.iload_n 1, 1) := by decide +kernel
theorem dX9_back_5 : decode cX9_back 5 = .ok (.iconst 3, 1) := by decide +kernel
theorem dX9_back_6 : decode cX9_back 6 = .ok (.if_icmp .ge 15, 3) := by decide +kernel
theorem dX9_back_9 : decode cX9_back 9 = .ok (.aload_n 0, 1) := by decide +kernel
theorem dX9_back_10 : decode cX9_back 10 = .ok (.getfield 59, 3) := by decide +kernel
theorem dX9_back_13 : decode cX9_back 13 = .ok (.iload_n 1, 1) := by decide +kernel
theorem dX9_back_14 : decode cX9_back 14 = .ok (.aaload, 1) := by decide +kernel
theorem dX9_back_15 : decode cX9_back 15 = .ok (.getfield 77, 3) := by decide +kernel
theorem dX9_back_18 : decode cX9_back 18 = .ok (.ifCond .ne 5, 3) := by decide +kernel
theorem dX9_back_21 : decode cX9_back 21 = .ok (.iconst (-1), 1) := by decide +kernel
theorem dX9_back_22 : decode cX9_back 22 = .ok (.ireturn, 1) := by decide +kernel
theorem dX9_bestSeat_0 : decode cX9_bestSeat 0 = .ok (.aload_n 0, 1) := by decide +kernel
theorem dX9_bestSeat_1 : decode cX9_bestSeat 1 = .ok (.getfield 39, 3) := by decide +kernel
theorem dX9_bestSeat_4 : decode cX9_bestSeat 4 = .ok (.invokevirtual 209, 3) := by decide +kernel
theorem dX9_bestSeat_7 : decode cX9_bestSeat 7 = .ok (.ifCond .ne 5, 3) := by decide +kernel
theorem dX9_bestSeat_10 : decode cX9_bestSeat 10 = .ok (.iconst (-1), 1) := by decide +kernel
theorem dX9_bestSeat_11 : decode cX9_bestSeat 11 = .ok (.ireturn, 1) := by decide +kernel
theorem dX9_blind_0 : decode cX9_blind 0 = .ok (.aload_n 0, 1) := by decide +kernel
theorem dX9_blind_1 : decode cX9_blind 1 = .ok (.getfield 20, 3) := by decide +kernel
theorem dX9_blind_4 : decode cX9_blind 4 = .ok (.iload_n 1, 1) := by decide +kernel
theorem dX9_blind_5 : decode cX9_blind 5 = .ok (.invokevirtual 194, 3) := by decide +kernel
theorem dX9_blind_8 : decode cX9_blind 8 = .ok (.ifCond .eq 14, 3) := by decide +kernel
theorem dX9_blind_22 : decode cX9_blind 22 = .ok (.iconst (-1), 1) := by decide +kernel
theorem dX9_blind_23 : decode cX9_blind 23 = .ok (.ireturn, 1) := by decide +kernel
theorem dX9_byTurn_0 : decode cX9_byTurn 0 = .ok (.aload_n 0, 1) := by decide +kernel
theorem dX9_byTurn_1 : decode cX9_byTurn 1 = .ok (.getfield 20, 3) := by decide +kernel
theorem dX9_byTurn_4 : decode cX9_byTurn 4 = .ok (.iload_n 1, 1) := by decide +kernel
theorem dX9_byTurn_5 : decode cX9_byTurn 5 = .ok (.invokevirtual 225, 3) := by decide +kernel
theorem dX9_byTurn_8 : decode cX9_byTurn 8 = .ok (.ifCond .eq 14, 3) := by decide +kernel
theorem dX9_byTurn_11 : decode cX9_byTurn 11 = .ok (.aload_n 0, 1) := by decide +kernel
theorem dX9_byTurn_12 : decode cX9_byTurn 12 = .ok (.getfield 48, 3) := by decide +kernel
theorem dX9_byTurn_15 : decode cX9_byTurn 15 = .ok (.iload_n 1, 1) := by decide +kernel
theorem dX9_byTurn_16 : decode cX9_byTurn 16 = .ok (.invokevirtual 228, 3) := by decide +kernel
theorem dX9_byTurn_19 : decode cX9_byTurn 19 = .ok (.goto 4, 3) := by decide +kernel
theorem dX9_byTurn_22 : decode cX9_byTurn 22 = .ok (.iconst (-1), 1) := by decide +kernel
theorem dX9_byTurn_23 : decode cX9_byTurn 23 = .ok (.ireturn, 1) := by decide +kernel
theorem dX9_call_0 : decode cX9_call 0 = .ok (.aload_n 0, 1) := by decide +kernel
theorem dX9_call_1 : decode cX9_call 1 = .ok (.getfield 20, 3) := by decide +kernel
theorem dX9_call_4 : decode cX9_call 4 = .ok (.iload_n 1, 1) := by decide +kernel
theorem dX9_call_5 : decode cX9_call 5 = .ok (.invokevirtual 100, 3) := by decide +kernel
theorem dX9_call_8 : decode cX9_call 8 = .ok (.ifCond .eq 25, 3) := by decide +kernel
theorem dX9_call_33 : decode cX9_call 33 = .ok (.iconst (-1), 1) := by decide +kernel
theorem dX9_call_34 : decode cX9_call 34 = .ok (.ireturn, 1) := by decide +kernel
theorem dX9_edge_0 : decode cX9_edge 0 = .ok (.aload_n 0, 1) := by decide +kernel
theorem dX9_edge_1 : decode cX9_edge 1 = .ok (.getfield 20, 3) := by decide +kernel
theorem dX9_edge_4 : decode cX9_edge 4 = .ok (.iload_n 1, 1) := by decide +kernel
theorem dX9_edge_5 : decode cX9_edge 5 = .ok (.invokevirtual 100, 3) := by decide +kernel
theorem dX9_edge_8 : decode cX9_edge 8 = .ok (.ifCond .eq 17, 3) := by decide +kernel
theorem dX9_edge_25 : decode cX9_edge 25 = .ok (.iconst (-1), 1) := by decide +kernel
theorem dX9_edge_26 : decode cX9_edge 26 = .ok (.ireturn, 1) := by decide +kernel
theorem dX9_eitherOf_0 : decode cX9_eitherOf 0 = .ok (.iload_n 0, 1) := by decide +kernel
theorem dX9_eitherOf_1 : decode cX9_eitherOf 1 = .ok (.lookupswitch 31 #[(0, 27), (1, 29)], 27) := by decide +kernel
theorem dX9_eitherOf_28 : decode cX9_eitherOf 28 = .ok (.iload_n 1, 1) := by decide +kernel
theorem dX9_eitherOf_29 : decode cX9_eitherOf 29 = .ok (.ireturn, 1) := by decide +kernel
theorem dX9_eitherOf_30 : decode cX9_eitherOf 30 = .ok (.iload_n 2, 1) := by decide +kernel
theorem dX9_eitherOf_31 : decode cX9_eitherOf 31 = .ok (.ireturn, 1) := by decide +kernel
theorem dX9_eitherOf_32 : decode cX9_eitherOf 32 = .ok (.iconst (-1), 1) := by decide +kernel
theorem dX9_eitherOf_33 : decode cX9_eitherOf 33 = .ok (.ireturn, 1) := by decide +kernel
theorem dX9_end_0 : decode cX9_end 0 = .ok (.iload_n 1, 1) := by decide +kernel
theorem dX9_end_1 : decode cX9_end 1 = .ok (.ifCond .lt 11, 3) := by decide +kernel
theorem dX9_end_4 : decode cX9_end 4 = .ok (.iload_n 1, 1) := by decide +kernel
theorem dX9_end_5 : decode cX9_end 5 = .ok (.aload_n 0, 1) := by decide +kernel
theorem dX9_end_6 : decode cX9_end 6 = .ok (.getfield 13, 3) := by decide +kernel
theorem dX9_end_9 : decode cX9_end 9 = .ok (.if_icmp .le 5, 3) := by decide +kernel
theorem dX9_end_12 : decode cX9_end 12 = .ok (.iconst (-1), 1) := by decide +kernel
theorem dX9_end_13 : decode cX9_end 13 = .ok (.ireturn, 1) := by decide +kernel
theorem dX9_end_14 : decode cX9_end 14 = .ok (.aload_n 0, 1) := by decide +kernel
theorem dX9_end_15 : decode cX9_end 15 = .ok (.iload_n 1, 1) := by decide +kernel
theorem dX9_end_16 : decode cX9_end 16 = .ok (.putfield 13, 3) := by decide +kernel
theorem dX9_end_19 : decode cX9_end 19 = .ok (.iload_n 1, 1) := by decide +kernel
theorem dX9_end_20 : decode cX9_end 20 = .ok (.ireturn, 1) := by decide +kernel
theorem dX9_fault_0 : decode cX9_fault 0 = .ok (.iload_n 1, 1) := by decide +kernel
theorem dX9_fault_1 : decode cX9_fault 1 = .ok (.lookupswitch 43 #[(0, 27), (1, 35)], 27) := by decide +kernel
theorem dX9_fault_28 : decode cX9_fault 28 = .ok (.aload_n 0, 1) := by decide +kernel
theorem dX9_fault_29 : decode cX9_fault 29 = .ok (.getfield 32, 3) := by decide +kernel
theorem dX9_fault_32 : decode cX9_fault 32 = .ok (.getfield 94, 3) := by decide +kernel
theorem dX9_fault_35 : decode cX9_fault 35 = .ok (.ireturn, 1) := by decide +kernel
theorem dX9_fault_36 : decode cX9_fault 36 = .ok (.aload_n 0, 1) := by decide +kernel
theorem dX9_fault_37 : decode cX9_fault 37 = .ok (.getfield 32, 3) := by decide +kernel
theorem dX9_fault_40 : decode cX9_fault 40 = .ok (.getfield 97, 3) := by decide +kernel
theorem dX9_fault_43 : decode cX9_fault 43 = .ok (.ireturn, 1) := by decide +kernel
theorem dX9_fault_44 : decode cX9_fault 44 = .ok (.iconst (-1), 1) := by decide +kernel
theorem dX9_fault_45 : decode cX9_fault 45 = .ok (.ireturn, 1) := by decide +kernel
theorem dX9_feed_0 : decode cX9_feed 0 = .ok (.aload_n 0, 1) := by decide +kernel
theorem dX9_feed_1 : decode cX9_feed 1 = .ok (.getfield 13, 3) := by decide +kernel
theorem dX9_feed_4 : decode cX9_feed 4 = .ok (.sipush 1680, 3) := by decide +kernel
theorem dX9_feed_7 : decode cX9_feed 7 = .ok (.if_icmp .le 5, 3) := by decide +kernel
theorem dX9_feed_12 : decode cX9_feed 12 = .ok (.aload_n 0, 1) := by decide +kernel
theorem dX9_feed_13 : decode cX9_feed 13 = .ok (.iload_n 1, 1) := by decide +kernel
theorem dX9_feed_14 : decode cX9_feed 14 = .ok (.invokevirtual 63, 3) := by decide +kernel
theorem dX9_feed_17 : decode cX9_feed 17 = .ok (.aload_n 0, 1) := by decide +kernel
theorem dX9_feed_18 : decode cX9_feed 18 = .ok (.iload_n 2, 1) := by decide +kernel
theorem dX9_feed_19 : decode cX9_feed 19 = .ok (.invokevirtual 63, 3) := by decide +kernel
theorem dX9_feed_22 : decode cX9_feed 22 = .ok (.aload_n 0, 1) := by decide +kernel
theorem dX9_feed_23 : decode cX9_feed 23 = .ok (.iload_n 3, 1) := by decide +kernel
theorem dX9_feed_24 : decode cX9_feed 24 = .ok (.invokevirtual 63, 3) := by decide +kernel
theorem dX9_feed_27 : decode cX9_feed 27 = .ok (.aload_n 0, 1) := by decide +kernel
theorem dX9_feed_28 : decode cX9_feed 28 = .ok (.iload 4, 2) := by decide +kernel
theorem dX9_feed_30 : decode cX9_feed 30 = .ok (.invokevirtual 63, 3) := by decide +kernel
theorem dX9_feed_33 : decode cX9_feed 33 = .ok (.aload_n 0, 1) := by decide +kernel
theorem dX9_feed_34 : decode cX9_feed 34 = .ok (.iload 5, 2) := by decide +kernel
theorem dX9_feed_36 : decode cX9_feed 36 = .ok (.invokevirtual 63, 3) := by decide +kernel
theorem dX9_feed_39 : decode cX9_feed 39 = .ok (.aload_n 0, 1) := by decide +kernel
theorem dX9_feed_40 : decode cX9_feed 40 = .ok (.getfield 13, 3) := by decide +kernel
theorem dX9_feed_43 : decode cX9_feed 43 = .ok (.ireturn, 1) := by decide +kernel
theorem dX9_fewest_0 : decode cX9_fewest 0 = .ok (.iconst (-1), 1) := by decide +kernel
theorem dX9_fewest_1 : decode cX9_fewest 1 = .ok (.istore_n 3, 1) := by decide +kernel
theorem dX9_fewest_2 : decode cX9_fewest 2 = .ok (.iconst (-1), 1) := by decide +kernel
theorem dX9_fewest_3 : decode cX9_fewest 3 = .ok (.istore 4, 2) := by decide +kernel
theorem dX9_fewest_5 : decode cX9_fewest 5 = .ok (.iconst 0, 1) := by decide +kernel
theorem dX9_fewest_6 : decode cX9_fewest 6 = .ok (.istore 5, 2) := by decide +kernel
theorem dX9_fewest_8 : decode cX9_fewest 8 = .ok (.iload 5, 2) := by decide +kernel
theorem dX9_fewest_10 : decode cX9_fewest 10 = .ok (.aload_n 0, 1) := by decide +kernel
theorem dX9_fewest_11 : decode cX9_fewest 11 = .ok (.getfield 20, 3) := by decide +kernel
theorem dX9_fewest_14 : decode cX9_fewest 14 = .ok (.getfield 160, 3) := by decide +kernel
theorem dX9_fewest_17 : decode cX9_fewest 17 = .ok (.getfield 91, 3) := by decide +kernel
theorem dX9_fewest_20 : decode cX9_fewest 20 = .ok (.if_icmp .ge 40, 3) := by decide +kernel
theorem dX9_fewest_60 : decode cX9_fewest 60 = .ok (.iload_n 1, 1) := by decide +kernel
theorem dX9_fewest_61 : decode cX9_fewest 61 = .ok (.iload_n 3, 1) := by decide +kernel
theorem dX9_fewest_62 : decode cX9_fewest 62 = .ok (.iload 4, 2) := by decide +kernel
theorem dX9_fewest_64 : decode cX9_fewest 64 = .ok (.invokestatic 175, 3) := by decide +kernel
theorem dX9_fewest_67 : decode cX9_fewest 67 = .ok (.ireturn, 1) := by decide +kernel
theorem dX9_fits_0 : decode cX9_fits 0 = .ok (.iconst 0, 1) := by decide +kernel
theorem dX9_fits_1 : decode cX9_fits 1 = .ok (.istore_n 2, 1) := by decide +kernel
theorem dX9_fits_2 : decode cX9_fits 2 = .ok (.iconst 0, 1) := by decide +kernel
theorem dX9_fits_3 : decode cX9_fits 3 = .ok (.istore_n 3, 1) := by decide +kernel
theorem dX9_fits_4 : decode cX9_fits 4 = .ok (.iload_n 3, 1) := by decide +kernel
theorem dX9_fits_5 : decode cX9_fits 5 = .ok (.aload_n 0, 1) := by decide +kernel
theorem dX9_fits_6 : decode cX9_fits 6 = .ok (.getfield 20, 3) := by decide +kernel
theorem dX9_fits_9 : decode cX9_fits 9 = .ok (.getfield 160, 3) := by decide +kernel
theorem dX9_fits_12 : decode cX9_fits 12 = .ok (.getfield 91, 3) := by decide +kernel
theorem dX9_fits_15 : decode cX9_fits 15 = .ok (.if_icmp .ge 24, 3) := by decide +kernel
theorem dX9_fits_39 : decode cX9_fits 39 = .ok (.iload_n 2, 1) := by decide +kernel
theorem dX9_fits_40 : decode cX9_fits 40 = .ok (.ireturn, 1) := by decide +kernel
theorem dX9_image_0 : decode cX9_image 0 = .ok (.iload_n 1, 1) := by decide +kernel
theorem dX9_image_1 : decode cX9_image 1 = .ok (.ifCond .lt 8, 3) := by decide +kernel
theorem dX9_image_4 : decode cX9_image 4 = .ok (.iload_n 1, 1) := by decide +kernel
theorem dX9_image_5 : decode cX9_image 5 = .ok (.iconst 3, 1) := by decide +kernel
theorem dX9_image_6 : decode cX9_image 6 = .ok (.if_icmp .lt 5, 3) := by decide +kernel
theorem dX9_image_9 : decode cX9_image 9 = .ok (.iconst (-1), 1) := by decide +kernel
theorem dX9_image_10 : decode cX9_image 10 = .ok (.ireturn, 1) := by decide +kernel
theorem dX9_image_11 : decode cX9_image 11 = .ok (.aload_n 0, 1) := by decide +kernel
theorem dX9_image_12 : decode cX9_image 12 = .ok (.getfield 59, 3) := by decide +kernel
theorem dX9_image_15 : decode cX9_image 15 = .ok (.iload_n 1, 1) := by decide +kernel
theorem dX9_image_16 : decode cX9_image 16 = .ok (.aaload, 1) := by decide +kernel
theorem dX9_image_17 : decode cX9_image 17 = .ok (.aload_n 0, 1) := by decide +kernel
theorem dX9_image_18 : decode cX9_image 18 = .ok (.getfield 55, 3) := by decide +kernel
theorem dX9_image_21 : decode cX9_image 21 = .ok (.invokevirtual 255, 3) := by decide +kernel
theorem dX9_image_24 : decode cX9_image 24 = .ok (.aload_n 0, 1) := by decide +kernel
theorem dX9_image_25 : decode cX9_image 25 = .ok (.getfield 59, 3) := by decide +kernel
theorem dX9_image_28 : decode cX9_image 28 = .ok (.iload_n 1, 1) := by decide +kernel
theorem dX9_image_29 : decode cX9_image 29 = .ok (.aaload, 1) := by decide +kernel
theorem dX9_image_30 : decode cX9_image 30 = .ok (.iconst 1, 1) := by decide +kernel
theorem dX9_image_31 : decode cX9_image 31 = .ok (.putfield 77, 3) := by decide +kernel
theorem dX9_image_34 : decode cX9_image 34 = .ok (.aload_n 0, 1) := by decide +kernel
theorem dX9_image_35 : decode cX9_image 35 = .ok (.getfield 55, 3) := by decide +kernel
theorem dX9_image_38 : decode cX9_image 38 = .ok (.getfield 74, 3) := by decide +kernel
theorem dX9_image_41 : decode cX9_image 41 = .ok (.ireturn, 1) := by decide +kernel
theorem dX9_init_0 : decode cX9_init 0 = .ok (.aload_n 0, 1) := by decide +kernel
theorem dX9_init_1 : decode cX9_init 1 = .ok (.invokespecial 1, 3) := by decide +kernel
theorem dX9_init_4 : decode cX9_init 4 = .ok (.aload_n 0, 1) := by decide +kernel
theorem dX9_init_5 : decode cX9_init 5 = .ok (.sipush 1700, 3) := by decide +kernel
theorem dX9_init_8 : decode cX9_init 8 = .ok (.newarray .byte, 2) := by decide +kernel
theorem dX9_init_10 : decode cX9_init 10 = .ok (.putfield 9, 3) := by decide +kernel
theorem dX9_init_13 : decode cX9_init 13 = .ok (.aload_n 0, 1) := by decide +kernel
theorem dX9_init_14 : decode cX9_init 14 = .ok (.iconst 0, 1) := by decide +kernel
theorem dX9_init_15 : decode cX9_init 15 = .ok (.putfield 13, 3) := by decide +kernel
theorem dX9_init_18 : decode cX9_init 18 = .ok (.aload_n 0, 1) := by decide +kernel
theorem dX9_init_19 : decode cX9_init 19 = .ok (.new 17, 3) := by decide +kernel
theorem dX9_init_22 : decode cX9_init 22 = .ok (.dup, 1) := by decide +kernel
theorem dX9_init_23 : decode cX9_init 23 = .ok (.invokespecial 19, 3) := by decide +kernel
theorem dX9_init_26 : decode cX9_init 26 = .ok (.putfield 20, 3) := by decide +kernel
theorem dX9_init_29 : decode cX9_init 29 = .ok (.aload_n 0, 1) := by decide +kernel
theorem dX9_init_30 : decode cX9_init 30 = .ok (.new 17, 3) := by decide +kernel
theorem dX9_init_33 : decode cX9_init 33 = .ok (.dup, 1) := by decide +kernel
theorem dX9_init_34 : decode cX9_init 34 = .ok (.invokespecial 19, 3) := by decide +kernel
theorem dX9_init_37 : decode cX9_init 37 = .ok (.putfield 24, 3) := by decide +kernel
theorem dX9_init_40 : decode cX9_init 40 = .ok (.aload_n 0, 1) := by decide +kernel
theorem dX9_init_41 : decode cX9_init 41 = .ok (.new 27, 3) := by decide +kernel
theorem dX9_init_44 : decode cX9_init 44 = .ok (.dup, 1) := by decide +kernel
theorem dX9_init_45 : decode cX9_init 45 = .ok (.aload_n 0, 1) := by decide +kernel
theorem dX9_init_46 : decode cX9_init 46 = .ok (.getfield 24, 3) := by decide +kernel
theorem dX9_init_49 : decode cX9_init 49 = .ok (.invokespecial 29, 3) := by decide +kernel
theorem dX9_init_52 : decode cX9_init 52 = .ok (.putfield 32, 3) := by decide +kernel
theorem dX9_init_55 : decode cX9_init 55 = .ok (.aload_n 0, 1) := by decide +kernel
theorem dX9_init_56 : decode cX9_init 56 = .ok (.new 36, 3) := by decide +kernel
theorem dX9_init_59 : decode cX9_init 59 = .ok (.dup, 1) := by decide +kernel
theorem dX9_init_60 : decode cX9_init 60 = .ok (.aload_n 0, 1) := by decide +kernel
theorem dX9_init_61 : decode cX9_init 61 = .ok (.getfield 20, 3) := by decide +kernel
theorem dX9_init_64 : decode cX9_init 64 = .ok (.invokespecial 38, 3) := by decide +kernel
theorem dX9_init_67 : decode cX9_init 67 = .ok (.putfield 39, 3) := by decide +kernel
theorem dX9_init_70 : decode cX9_init 70 = .ok (.aload_n 0, 1) := by decide +kernel
theorem dX9_init_71 : decode cX9_init 71 = .ok (.new 43, 3) := by decide +kernel
theorem dX9_init_74 : decode cX9_init 74 = .ok (.dup, 1) := by decide +kernel
theorem dX9_init_75 : decode cX9_init 75 = .ok (.aload_n 0, 1) := by decide +kernel
theorem dX9_init_76 : decode cX9_init 76 = .ok (.getfield 39, 3) := by decide +kernel
theorem dX9_init_79 : decode cX9_init 79 = .ok (.invokespecial 45, 3) := by decide +kernel
theorem dX9_init_82 : decode cX9_init 82 = .ok (.putfield 48, 3) := by decide +kernel
theorem dX9_init_85 : decode cX9_init 85 = .ok (.aload_n 0, 1) := by decide +kernel
theorem dX9_init_86 : decode cX9_init 86 = .ok (.new 52, 3) := by decide +kernel
theorem dX9_init_89 : decode cX9_init 89 = .ok (.dup, 1) := by decide +kernel
theorem dX9_init_90 : decode cX9_init 90 = .ok (.invokespecial 54, 3) := by decide +kernel
theorem dX9_init_93 : decode cX9_init 93 = .ok (.putfield 55, 3) := by decide +kernel
theorem dX9_init_96 : decode cX9_init 96 = .ok (.aload_n 0, 1) := by decide +kernel
theorem dX9_init_97 : decode cX9_init 97 = .ok (.iconst 3, 1) := by decide +kernel
theorem dX9_init_98 : decode cX9_init 98 = .ok (.anewarray 52, 3) := by decide +kernel
theorem dX9_init_101 : decode cX9_init 101 = .ok (.putfield 59, 3) := by decide +kernel
theorem dX9_init_104 : decode cX9_init 104 = .ok (.iconst 0, 1) := by decide +kernel
theorem dX9_init_105 : decode cX9_init 105 = .ok (.istore_n 1, 1) := by decide +kernel
theorem dX9_init_106 : decode cX9_init 106 = .ok (.iload_n 1, 1) := by decide +kernel
theorem dX9_init_107 : decode cX9_init 107 = .ok (.iconst 3, 1) := by decide +kernel
theorem dX9_init_108 : decode cX9_init 108 = .ok (.if_icmp .ge 22, 3) := by decide +kernel
theorem dX9_init_111 : decode cX9_init 111 = .ok (.aload_n 0, 1) := by decide +kernel
theorem dX9_init_112 : decode cX9_init 112 = .ok (.getfield 59, 3) := by decide +kernel
theorem dX9_init_115 : decode cX9_init 115 = .ok (.iload_n 1, 1) := by decide +kernel
theorem dX9_init_116 : decode cX9_init 116 = .ok (.new 52, 3) := by decide +kernel
theorem dX9_init_119 : decode cX9_init 119 = .ok (.dup, 1) := by decide +kernel
theorem dX9_init_120 : decode cX9_init 120 = .ok (.invokespecial 54, 3) := by decide +kernel
theorem dX9_init_123 : decode cX9_init 123 = .ok (.aastore, 1) := by decide +kernel
theorem dX9_init_124 : decode cX9_init 124 = .ok (.iinc 1 1, 3) := by decide +kernel
theorem dX9_init_127 : decode cX9_init 127 = .ok (.goto (-21), 3) := by decide +kernel
theorem dX9_init_130 : decode cX9_init 130 = .ok (.return_, 1) := by decide +kernel
theorem dX9_later_0 : decode cX9_later 0 = .ok (.iload_n 1, 1) := by decide +kernel
theorem dX9_later_1 : decode cX9_later 1 = .ok (.ifCond .lt 24, 3) := by decide +kernel
theorem dX9_later_4 : decode cX9_later 4 = .ok (.iload_n 1, 1) := by decide +kernel
theorem dX9_later_5 : decode cX9_later 5 = .ok (.sipush 1000, 3) := by decide +kernel
theorem dX9_later_8 : decode cX9_later 8 = .ok (.if_icmp .gt 17, 3) := by decide +kernel
theorem dX9_later_11 : decode cX9_later 11 = .ok (.aload_n 0, 1) := by decide +kernel
theorem dX9_later_12 : decode cX9_later 12 = .ok (.getfield 55, 3) := by decide +kernel
theorem dX9_later_15 : decode cX9_later 15 = .ok (.getfield 156, 3) := by decide +kernel
theorem dX9_later_18 : decode cX9_later 18 = .ok (.iload_n 1, 1) := by decide +kernel
theorem dX9_later_19 : decode cX9_later 19 = .ok (.iadd, 1) := by decide +kernel
theorem dX9_later_20 : decode cX9_later 20 = .ok (.ldc 159, 2) := by decide +kernel
theorem dX9_later_22 : decode cX9_later 22 = .ok (.if_icmp .le 5, 3) := by decide +kernel
theorem dX9_later_25 : decode cX9_later 25 = .ok (.iconst (-1), 1) := by decide +kernel
theorem dX9_later_26 : decode cX9_later 26 = .ok (.ireturn, 1) := by decide +kernel
theorem dX9_later_27 : decode cX9_later 27 = .ok (.aload_n 0, 1) := by decide +kernel
theorem dX9_later_28 : decode cX9_later 28 = .ok (.getfield 55, 3) := by decide +kernel
theorem dX9_later_31 : decode cX9_later 31 = .ok (.dup, 1) := by decide +kernel
theorem dX9_later_32 : decode cX9_later 32 = .ok (.getfield 156, 3) := by decide +kernel
theorem dX9_later_35 : decode cX9_later 35 = .ok (.iload_n 1, 1) := by decide +kernel
theorem dX9_later_36 : decode cX9_later 36 = .ok (.iadd, 1) := by decide +kernel
theorem dX9_later_37 : decode cX9_later 37 = .ok (.putfield 156, 3) := by decide +kernel
theorem dX9_later_40 : decode cX9_later 40 = .ok (.aload_n 0, 1) := by decide +kernel
theorem dX9_later_41 : decode cX9_later 41 = .ok (.getfield 55, 3) := by decide +kernel
theorem dX9_later_44 : decode cX9_later 44 = .ok (.getfield 156, 3) := by decide +kernel
theorem dX9_later_47 : decode cX9_later 47 = .ok (.ireturn, 1) := by decide +kernel
theorem dX9_liars_0 : decode cX9_liars 0 = .ok (.aload_n 0, 1) := by decide +kernel
theorem dX9_liars_1 : decode cX9_liars 1 = .ok (.getfield 20, 3) := by decide +kernel
theorem dX9_liars_4 : decode cX9_liars 4 = .ok (.iload_n 1, 1) := by decide +kernel
theorem dX9_liars_5 : decode cX9_liars 5 = .ok (.invokevirtual 128, 3) := by decide +kernel
theorem dX9_liars_8 : decode cX9_liars 8 = .ok (.ifCond .eq 12, 3) := by decide +kernel
theorem dX9_liars_20 : decode cX9_liars 20 = .ok (.iconst (-1), 1) := by decide +kernel
theorem dX9_liars_21 : decode cX9_liars 21 = .ok (.ireturn, 1) := by decide +kernel
theorem dX9_list_0 : decode cX9_list 0 = .ok (.aload_n 0, 1) := by decide +kernel
theorem dX9_list_1 : decode cX9_list 1 = .ok (.getfield 20, 3) := by decide +kernel
theorem dX9_list_4 : decode cX9_list 4 = .ok (.iload_n 1, 1) := by decide +kernel
theorem dX9_list_5 : decode cX9_list 5 = .ok (.invokevirtual 225, 3) := by decide +kernel
theorem dX9_list_8 : decode cX9_list 8 = .ok (.ifCond .ne 5, 3) := by decide +kernel
theorem dX9_list_11 : decode cX9_list 11 = .ok (.iconst (-1), 1) := by decide +kernel
theorem dX9_list_12 : decode cX9_list 12 = .ok (.ireturn, 1) := by decide +kernel
theorem dX9_list_13 : decode cX9_list 13 = .ok (.aload_n 0, 1) := by decide +kernel
theorem dX9_list_14 : decode cX9_list 14 = .ok (.getfield 48, 3) := by decide +kernel
theorem dX9_list_17 : decode cX9_list 17 = .ok (.iload_n 1, 1) := by decide +kernel
theorem dX9_list_18 : decode cX9_list 18 = .ok (.invokevirtual 243, 3) := by decide +kernel
theorem dX9_list_21 : decode cX9_list 21 = .ok (.istore_n 3, 1) := by decide +kernel
theorem dX9_list_22 : decode cX9_list 22 = .ok (.iload_n 2, 1) := by decide +kernel
theorem dX9_list_23 : decode cX9_list 23 = .ok (.iload_n 3, 1) := by decide +kernel
theorem dX9_list_24 : decode cX9_list 24 = .ok (.aload_n 0, 1) := by decide +kernel
theorem dX9_list_25 : decode cX9_list 25 = .ok (.getfield 48, 3) := by decide +kernel
theorem dX9_list_28 : decode cX9_list 28 = .ok (.iload_n 3, 1) := by decide +kernel
theorem dX9_list_29 : decode cX9_list 29 = .ok (.invokevirtual 246, 3) := by decide +kernel
theorem dX9_list_32 : decode cX9_list 32 = .ok (.invokestatic 175, 3) := by decide +kernel
theorem dX9_list_35 : decode cX9_list 35 = .ok (.ireturn, 1) := by decide +kernel
theorem dX9_pairsOf_0 : decode cX9_pairsOf 0 = .ok (.lconst 0, 1) := by decide +kernel
theorem dX9_pairsOf_1 : decode cX9_pairsOf 1 = .ok (.lstore_n 1, 1) := by decide +kernel
theorem dX9_pairsOf_2 : decode cX9_pairsOf 2 = .ok (.iconst 0, 1) := by decide +kernel
theorem dX9_pairsOf_3 : decode cX9_pairsOf 3 = .ok (.istore_n 3, 1) := by decide +kernel
theorem dX9_pairsOf_4 : decode cX9_pairsOf 4 = .ok (.iload_n 3, 1) := by decide +kernel
theorem dX9_pairsOf_5 : decode cX9_pairsOf 5 = .ok (.bipush 8, 2) := by decide +kernel
theorem dX9_pairsOf_7 : decode cX9_pairsOf 7 = .ok (.if_icmp .ge 28, 3) := by decide +kernel
theorem dX9_pairsOf_10 : decode cX9_pairsOf 10 = .ok (.iload_n 0, 1) := by decide +kernel
theorem dX9_pairsOf_11 : decode cX9_pairsOf 11 = .ok (.iload_n 3, 1) := by decide +kernel
theorem dX9_pairsOf_12 : decode cX9_pairsOf 12 = .ok (.ishr, 1) := by decide +kernel
theorem dX9_pairsOf_13 : decode cX9_pairsOf 13 = .ok (.iconst 1, 1) := by decide +kernel
theorem dX9_pairsOf_14 : decode cX9_pairsOf 14 = .ok (.iand, 1) := by decide +kernel
theorem dX9_pairsOf_15 : decode cX9_pairsOf 15 = .ok (.iconst 1, 1) := by decide +kernel
theorem dX9_pairsOf_16 : decode cX9_pairsOf 16 = .ok (.if_icmp .ne 13, 3) := by decide +kernel
theorem dX9_pairsOf_29 : decode cX9_pairsOf 29 = .ok (.iinc 3 1, 3) := by decide +kernel
theorem dX9_pairsOf_32 : decode cX9_pairsOf 32 = .ok (.goto (-28), 3) := by decide +kernel
theorem dX9_pairsOf_35 : decode cX9_pairsOf 35 = .ok (.lload_n 1, 1) := by decide +kernel
theorem dX9_pairsOf_36 : decode cX9_pairsOf 36 = .ok (.lreturn, 1) := by decide +kernel
theorem dX9_parted_0 : decode cX9_parted 0 = .ok (.aload_n 0, 1) := by decide +kernel
theorem dX9_parted_1 : decode cX9_parted 1 = .ok (.getfield 20, 3) := by decide +kernel
theorem dX9_parted_4 : decode cX9_parted 4 = .ok (.iload_n 1, 1) := by decide +kernel
theorem dX9_parted_5 : decode cX9_parted 5 = .ok (.invokevirtual 128, 3) := by decide +kernel
theorem dX9_parted_8 : decode cX9_parted 8 = .ok (.ifCond .eq 14, 3) := by decide +kernel
theorem dX9_parted_22 : decode cX9_parted 22 = .ok (.iconst (-1), 1) := by decide +kernel
theorem dX9_parted_23 : decode cX9_parted 23 = .ok (.ireturn, 1) := by decide +kernel
theorem dX9_parts_0 : decode cX9_parts 0 = .ok (.aload_n 0, 1) := by decide +kernel
theorem dX9_parts_1 : decode cX9_parts 1 = .ok (.getfield 20, 3) := by decide +kernel
theorem dX9_parts_4 : decode cX9_parts 4 = .ok (.iload_n 1, 1) := by decide +kernel
theorem dX9_parts_5 : decode cX9_parts 5 = .ok (.invokevirtual 100, 3) := by decide +kernel
theorem dX9_parts_8 : decode cX9_parts 8 = .ok (.ifCond .eq 25, 3) := by decide +kernel
theorem dX9_parts_33 : decode cX9_parts 33 = .ok (.iconst (-1), 1) := by decide +kernel
theorem dX9_parts_34 : decode cX9_parts 34 = .ok (.ireturn, 1) := by decide +kernel
theorem dX9_putBytes_0 : decode cX9_putBytes 0 = .ok (.bipush 24, 2) := by decide +kernel
theorem dX9_putBytes_2 : decode cX9_putBytes 2 = .ok (.istore_n 2, 1) := by decide +kernel
theorem dX9_putBytes_3 : decode cX9_putBytes 3 = .ok (.iload_n 2, 1) := by decide +kernel
theorem dX9_putBytes_4 : decode cX9_putBytes 4 = .ok (.ifCond .lt 42, 3) := by decide +kernel
theorem dX9_putBytes_7 : decode cX9_putBytes 7 = .ok (.aload_n 0, 1) := by decide +kernel
theorem dX9_putBytes_8 : decode cX9_putBytes 8 = .ok (.getfield 13, 3) := by decide +kernel
theorem dX9_putBytes_11 : decode cX9_putBytes 11 = .ok (.sipush 1700, 3) := by decide +kernel
theorem dX9_putBytes_14 : decode cX9_putBytes 14 = .ok (.if_icmp .ge 32, 3) := by decide +kernel
theorem dX9_putBytes_17 : decode cX9_putBytes 17 = .ok (.aload_n 0, 1) := by decide +kernel
theorem dX9_putBytes_18 : decode cX9_putBytes 18 = .ok (.getfield 9, 3) := by decide +kernel
theorem dX9_putBytes_21 : decode cX9_putBytes 21 = .ok (.aload_n 0, 1) := by decide +kernel
theorem dX9_putBytes_22 : decode cX9_putBytes 22 = .ok (.getfield 13, 3) := by decide +kernel
theorem dX9_putBytes_25 : decode cX9_putBytes 25 = .ok (.iload_n 1, 1) := by decide +kernel
theorem dX9_putBytes_26 : decode cX9_putBytes 26 = .ok (.iload_n 2, 1) := by decide +kernel
theorem dX9_putBytes_27 : decode cX9_putBytes 27 = .ok (.ishr, 1) := by decide +kernel
theorem dX9_putBytes_28 : decode cX9_putBytes 28 = .ok (.i2b, 1) := by decide +kernel
theorem dX9_putBytes_29 : decode cX9_putBytes 29 = .ok (.bastore, 1) := by decide +kernel
theorem dX9_putBytes_30 : decode cX9_putBytes 30 = .ok (.aload_n 0, 1) := by decide +kernel
theorem dX9_putBytes_31 : decode cX9_putBytes 31 = .ok (.dup, 1) := by decide +kernel
theorem dX9_putBytes_32 : decode cX9_putBytes 32 = .ok (.getfield 13, 3) := by decide +kernel
theorem dX9_putBytes_35 : decode cX9_putBytes 35 = .ok (.iconst 1, 1) := by decide +kernel
theorem dX9_putBytes_36 : decode cX9_putBytes 36 = .ok (.iadd, 1) := by decide +kernel
theorem dX9_putBytes_37 : decode cX9_putBytes 37 = .ok (.putfield 13, 3) := by decide +kernel
theorem dX9_putBytes_40 : decode cX9_putBytes 40 = .ok (.iinc 2 (-8), 3) := by decide +kernel
theorem dX9_putBytes_43 : decode cX9_putBytes 43 = .ok (.goto (-40), 3) := by decide +kernel
theorem dX9_putBytes_46 : decode cX9_putBytes 46 = .ok (.return_, 1) := by decide +kernel
theorem dX9_rounds_0 : decode cX9_rounds 0 = .ok (.aload_n 0, 1) := by decide +kernel
theorem dX9_rounds_1 : decode cX9_rounds 1 = .ok (.getfield 20, 3) := by decide +kernel
theorem dX9_rounds_4 : decode cX9_rounds 4 = .ok (.iload_n 1, 1) := by decide +kernel
theorem dX9_rounds_5 : decode cX9_rounds 5 = .ok (.invokevirtual 225, 3) := by decide +kernel
theorem dX9_rounds_8 : decode cX9_rounds 8 = .ok (.ifCond .ne 5, 3) := by decide +kernel
theorem dX9_rounds_11 : decode cX9_rounds 11 = .ok (.iconst (-1), 1) := by decide +kernel
theorem dX9_rounds_12 : decode cX9_rounds 12 = .ok (.ireturn, 1) := by decide +kernel
theorem dX9_rounds_13 : decode cX9_rounds 13 = .ok (.iload_n 2, 1) := by decide +kernel
theorem dX9_rounds_14 : decode cX9_rounds 14 = .ok (.aload_n 0, 1) := by decide +kernel
theorem dX9_rounds_15 : decode cX9_rounds 15 = .ok (.getfield 48, 3) := by decide +kernel
theorem dX9_rounds_18 : decode cX9_rounds 18 = .ok (.iload_n 1, 1) := by decide +kernel
theorem dX9_rounds_19 : decode cX9_rounds 19 = .ok (.invokevirtual 249, 3) := by decide +kernel
theorem dX9_rounds_22 : decode cX9_rounds 22 = .ok (.aload_n 0, 1) := by decide +kernel
theorem dX9_rounds_23 : decode cX9_rounds 23 = .ok (.getfield 48, 3) := by decide +kernel
theorem dX9_rounds_26 : decode cX9_rounds 26 = .ok (.iload_n 1, 1) := by decide +kernel
theorem dX9_rounds_27 : decode cX9_rounds 27 = .ok (.invokevirtual 252, 3) := by decide +kernel
theorem dX9_rounds_30 : decode cX9_rounds 30 = .ok (.invokestatic 175, 3) := by decide +kernel
theorem dX9_rounds_33 : decode cX9_rounds 33 = .ok (.ireturn, 1) := by decide +kernel
theorem dX9_scene_0 : decode cX9_scene 0 = .ok (.aload_n 0, 1) := by decide +kernel
theorem dX9_scene_1 : decode cX9_scene 1 = .ok (.getfield 20, 3) := by decide +kernel
theorem dX9_scene_4 : decode cX9_scene 4 = .ok (.iload_n 1, 1) := by decide +kernel
theorem dX9_scene_5 : decode cX9_scene 5 = .ok (.invokevirtual 128, 3) := by decide +kernel
theorem dX9_scene_8 : decode cX9_scene 8 = .ok (.ifCond .eq 17, 3) := by decide +kernel
theorem dX9_scene_25 : decode cX9_scene 25 = .ok (.iconst (-1), 1) := by decide +kernel
theorem dX9_scene_26 : decode cX9_scene 26 = .ok (.ireturn, 1) := by decide +kernel
theorem dX9_seat_0 : decode cX9_seat 0 = .ok (.aload_n 0, 1) := by decide +kernel
theorem dX9_seat_1 : decode cX9_seat 1 = .ok (.getfield 20, 3) := by decide +kernel
theorem dX9_seat_4 : decode cX9_seat 4 = .ok (.iload_n 1, 1) := by decide +kernel
theorem dX9_seat_5 : decode cX9_seat 5 = .ok (.iload_n 2, 1) := by decide +kernel
theorem dX9_seat_6 : decode cX9_seat 6 = .ok (.invokevirtual 200, 3) := by decide +kernel
theorem dX9_seat_9 : decode cX9_seat 9 = .ok (.ifCond .eq 24, 3) := by decide +kernel
theorem dX9_seat_33 : decode cX9_seat 33 = .ok (.iconst (-1), 1) := by decide +kernel
theorem dX9_seat_34 : decode cX9_seat 34 = .ok (.ireturn, 1) := by decide +kernel
theorem dX9_state_0 : decode cX9_state 0 = .ok (.aload_n 0, 1) := by decide +kernel
theorem dX9_state_1 : decode cX9_state 1 = .ok (.getfield 20, 3) := by decide +kernel
theorem dX9_state_4 : decode cX9_state 4 = .ok (.iload_n 1, 1) := by decide +kernel
theorem dX9_state_5 : decode cX9_state 5 = .ok (.invokevirtual 100, 3) := by decide +kernel
theorem dX9_state_8 : decode cX9_state 8 = .ok (.ifCond .eq 17, 3) := by decide +kernel
theorem dX9_state_25 : decode cX9_state 25 = .ok (.iconst (-1), 1) := by decide +kernel
theorem dX9_state_26 : decode cX9_state 26 = .ok (.ireturn, 1) := by decide +kernel
theorem dX9_struck_0 : decode cX9_struck 0 = .ok (.iconst (-1), 1) := by decide +kernel
theorem dX9_struck_1 : decode cX9_struck 1 = .ok (.istore_n 3, 1) := by decide +kernel
theorem dX9_struck_2 : decode cX9_struck 2 = .ok (.iconst (-1), 1) := by decide +kernel
theorem dX9_struck_3 : decode cX9_struck 3 = .ok (.istore 4, 2) := by decide +kernel
theorem dX9_struck_5 : decode cX9_struck 5 = .ok (.iconst 0, 1) := by decide +kernel
theorem dX9_struck_6 : decode cX9_struck 6 = .ok (.istore 5, 2) := by decide +kernel
theorem dX9_struck_8 : decode cX9_struck 8 = .ok (.iload 5, 2) := by decide +kernel
theorem dX9_struck_10 : decode cX9_struck 10 = .ok (.aload_n 0, 1) := by decide +kernel
theorem dX9_struck_11 : decode cX9_struck 11 = .ok (.getfield 20, 3) := by decide +kernel
theorem dX9_struck_14 : decode cX9_struck 14 = .ok (.getfield 160, 3) := by decide +kernel
theorem dX9_struck_17 : decode cX9_struck 17 = .ok (.getfield 91, 3) := by decide +kernel
theorem dX9_struck_20 : decode cX9_struck 20 = .ok (.if_icmp .ge 37, 3) := by decide +kernel
theorem dX9_struck_57 : decode cX9_struck 57 = .ok (.iload_n 1, 1) := by decide +kernel
theorem dX9_struck_58 : decode cX9_struck 58 = .ok (.iload_n 3, 1) := by decide +kernel
theorem dX9_struck_59 : decode cX9_struck 59 = .ok (.iload 4, 2) := by decide +kernel
theorem dX9_struck_61 : decode cX9_struck 61 = .ok (.invokestatic 175, 3) := by decide +kernel
theorem dX9_struck_64 : decode cX9_struck 64 = .ok (.ireturn, 1) := by decide +kernel
theorem dX9_sure_0 : decode cX9_sure 0 = .ok (.aload_n 0, 1) := by decide +kernel
theorem dX9_sure_1 : decode cX9_sure 1 = .ok (.getfield 20, 3) := by decide +kernel
theorem dX9_sure_4 : decode cX9_sure 4 = .ok (.iload_n 1, 1) := by decide +kernel
theorem dX9_sure_5 : decode cX9_sure 5 = .ok (.iload_n 2, 1) := by decide +kernel
theorem dX9_sure_6 : decode cX9_sure 6 = .ok (.iload_n 3, 1) := by decide +kernel
theorem dX9_sure_7 : decode cX9_sure 7 = .ok (.invokevirtual 104, 3) := by decide +kernel
theorem dX9_sure_10 : decode cX9_sure 10 = .ok (.ifCond .ne 5, 3) := by decide +kernel
theorem dX9_sure_13 : decode cX9_sure 13 = .ok (.iconst (-1), 1) := by decide +kernel
theorem dX9_sure_14 : decode cX9_sure 14 = .ok (.ireturn, 1) := by decide +kernel
theorem dX9_trial_0 : decode cX9_trial 0 = .ok (.aload_n 0, 1) := by decide +kernel
theorem dX9_trial_1 : decode cX9_trial 1 = .ok (.getfield 24, 3) := by decide +kernel
theorem dX9_trial_4 : decode cX9_trial 4 = .ok (.invokevirtual 67, 3) := by decide +kernel
theorem dX9_trial_7 : decode cX9_trial 7 = .ok (.aload_n 0, 1) := by decide +kernel
theorem dX9_trial_8 : decode cX9_trial 8 = .ok (.getfield 32, 3) := by decide +kernel
theorem dX9_trial_11 : decode cX9_trial 11 = .ok (.aload_n 0, 1) := by decide +kernel
theorem dX9_trial_12 : decode cX9_trial 12 = .ok (.getfield 9, 3) := by decide +kernel
theorem dX9_trial_15 : decode cX9_trial 15 = .ok (.aload_n 0, 1) := by decide +kernel
theorem dX9_trial_16 : decode cX9_trial 16 = .ok (.getfield 13, 3) := by decide +kernel
theorem dX9_trial_19 : decode cX9_trial 19 = .ok (.aload_n 0, 1) := by decide +kernel
theorem dX9_trial_20 : decode cX9_trial 20 = .ok (.getfield 24, 3) := by decide +kernel
theorem dX9_trial_23 : decode cX9_trial 23 = .ok (.invokevirtual 70, 3) := by decide +kernel
theorem dX9_trial_26 : decode cX9_trial 26 = .ok (.ifCond .ne 5, 3) := by decide +kernel
theorem dX9_trial_31 : decode cX9_trial 31 = .ok (.aload_n 0, 1) := by decide +kernel
theorem dX9_trial_32 : decode cX9_trial 32 = .ok (.getfield 20, 3) := by decide +kernel
theorem dX9_trial_35 : decode cX9_trial 35 = .ok (.astore_n 1, 1) := by decide +kernel
theorem dX9_trial_36 : decode cX9_trial 36 = .ok (.aload_n 0, 1) := by decide +kernel
theorem dX9_trial_37 : decode cX9_trial 37 = .ok (.aload_n 0, 1) := by decide +kernel
theorem dX9_trial_38 : decode cX9_trial 38 = .ok (.getfield 24, 3) := by decide +kernel
theorem dX9_trial_41 : decode cX9_trial 41 = .ok (.putfield 20, 3) := by decide +kernel
theorem dX9_trial_44 : decode cX9_trial 44 = .ok (.aload_n 0, 1) := by decide +kernel
theorem dX9_trial_45 : decode cX9_trial 45 = .ok (.aload_n 1, 1) := by decide +kernel
theorem dX9_trial_46 : decode cX9_trial 46 = .ok (.putfield 24, 3) := by decide +kernel
theorem dX9_trial_49 : decode cX9_trial 49 = .ok (.aload_n 0, 1) := by decide +kernel
theorem dX9_trial_50 : decode cX9_trial 50 = .ok (.iconst 0, 1) := by decide +kernel
theorem dX9_trial_51 : decode cX9_trial 51 = .ok (.putfield 13, 3) := by decide +kernel
theorem dX9_trial_54 : decode cX9_trial 54 = .ok (.aload_n 0, 1) := by decide +kernel
theorem dX9_trial_55 : decode cX9_trial 55 = .ok (.getfield 55, 3) := by decide +kernel
theorem dX9_trial_58 : decode cX9_trial 58 = .ok (.iconst 0, 1) := by decide +kernel
theorem dX9_trial_59 : decode cX9_trial 59 = .ok (.putfield 74, 3) := by decide +kernel
theorem dX9_trial_62 : decode cX9_trial 62 = .ok (.iconst 0, 1) := by decide +kernel
theorem dX9_trial_63 : decode cX9_trial 63 = .ok (.istore_n 2, 1) := by decide +kernel
theorem dX9_trial_64 : decode cX9_trial 64 = .ok (.iload_n 2, 1) := by decide +kernel
theorem dX9_trial_65 : decode cX9_trial 65 = .ok (.iconst 3, 1) := by decide +kernel
theorem dX9_trial_66 : decode cX9_trial 66 = .ok (.if_icmp .ge 19, 3) := by decide +kernel
theorem dX9_trial_69 : decode cX9_trial 69 = .ok (.aload_n 0, 1) := by decide +kernel
theorem dX9_trial_70 : decode cX9_trial 70 = .ok (.getfield 59, 3) := by decide +kernel
theorem dX9_trial_73 : decode cX9_trial 73 = .ok (.iload_n 2, 1) := by decide +kernel
theorem dX9_trial_74 : decode cX9_trial 74 = .ok (.aaload, 1) := by decide +kernel
theorem dX9_trial_75 : decode cX9_trial 75 = .ok (.iconst 0, 1) := by decide +kernel
theorem dX9_trial_76 : decode cX9_trial 76 = .ok (.putfield 77, 3) := by decide +kernel
theorem dX9_trial_79 : decode cX9_trial 79 = .ok (.iinc 2 1, 3) := by decide +kernel
theorem dX9_trial_82 : decode cX9_trial 82 = .ok (.goto (-18), 3) := by decide +kernel
theorem dX9_trial_85 : decode cX9_trial 85 = .ok (.aload_n 0, 1) := by decide +kernel
theorem dX9_trial_86 : decode cX9_trial 86 = .ok (.getfield 39, 3) := by decide +kernel
theorem dX9_trial_89 : decode cX9_trial 89 = .ok (.aload_n 0, 1) := by decide +kernel
theorem dX9_trial_90 : decode cX9_trial 90 = .ok (.getfield 20, 3) := by decide +kernel
theorem dX9_trial_93 : decode cX9_trial 93 = .ok (.invokevirtual 81, 3) := by decide +kernel
theorem dX9_trial_96 : decode cX9_trial 96 = .ok (.aload_n 0, 1) := by decide +kernel
theorem dX9_trial_97 : decode cX9_trial 97 = .ok (.getfield 48, 3) := by decide +kernel
theorem dX9_trial_100 : decode cX9_trial 100 = .ok (.invokevirtual 84, 3) := by decide +kernel
theorem dX9_trial_103 : decode cX9_trial 103 = .ok (.aload_n 0, 1) := by decide +kernel
theorem dX9_trial_104 : decode cX9_trial 104 = .ok (.getfield 20, 3) := by decide +kernel
theorem dX9_trial_107 : decode cX9_trial 107 = .ok (.getfield 87, 3) := by decide +kernel
theorem dX9_trial_110 : decode cX9_trial 110 = .ok (.getfield 91, 3) := by decide +kernel
theorem dX9_trial_113 : decode cX9_trial 113 = .ok (.ireturn, 1) := by decide +kernel
theorem dX9_twice_0 : decode cX9_twice 0 = .ok (.iconst 0, 1) := by decide +kernel
theorem dX9_twice_1 : decode cX9_twice 1 = .ok (.istore_n 2, 1) := by decide +kernel
theorem dX9_twice_2 : decode cX9_twice 2 = .ok (.iconst 0, 1) := by decide +kernel
theorem dX9_twice_3 : decode cX9_twice 3 = .ok (.istore_n 3, 1) := by decide +kernel
theorem dX9_twice_4 : decode cX9_twice 4 = .ok (.iload_n 3, 1) := by decide +kernel
theorem dX9_twice_5 : decode cX9_twice 5 = .ok (.aload_n 0, 1) := by decide +kernel
theorem dX9_twice_6 : decode cX9_twice 6 = .ok (.getfield 55, 3) := by decide +kernel
theorem dX9_twice_9 : decode cX9_twice 9 = .ok (.getfield 74, 3) := by decide +kernel
theorem dX9_twice_12 : decode cX9_twice 12 = .ok (.if_icmp .ge 76, 3) := by decide +kernel
theorem dX9_twice_88 : decode cX9_twice 88 = .ok (.iload_n 2, 1) := by decide +kernel
theorem dX9_twice_89 : decode cX9_twice 89 = .ok (.ireturn, 1) := by decide +kernel
theorem dX9_untell_0 : decode cX9_untell 0 = .ok (.iload_n 1, 1) := by decide +kernel
theorem dX9_untell_1 : decode cX9_untell 1 = .ok (.ifCond .lt 27, 3) := by decide +kernel
theorem dX9_untell_4 : decode cX9_untell 4 = .ok (.iload_n 1, 1) := by decide +kernel
theorem dX9_untell_5 : decode cX9_untell 5 = .ok (.aload_n 0, 1) := by decide +kernel
theorem dX9_untell_6 : decode cX9_untell 6 = .ok (.getfield 55, 3) := by decide +kernel
theorem dX9_untell_9 : decode cX9_untell 9 = .ok (.getfield 74, 3) := by decide +kernel
theorem dX9_untell_12 : decode cX9_untell 12 = .ok (.if_icmp .ge 16, 3) := by decide +kernel
theorem dX9_untell_28 : decode cX9_untell 28 = .ok (.iconst 0, 1) := by decide +kernel
theorem dX9_untell_29 : decode cX9_untell 29 = .ok (.ireturn, 1) := by decide +kernel
theorem dX9_witness_0 : decode cX9_witness 0 = .ok (.aload_n 0, 1) := by decide +kernel
theorem dX9_witness_1 : decode cX9_witness 1 = .ok (.getfield 20, 3) := by decide +kernel
theorem dX9_witness_4 : decode cX9_witness 4 = .ok (.iload_n 1, 1) := by decide +kernel
theorem dX9_witness_5 : decode cX9_witness 5 = .ok (.invokevirtual 100, 3) := by decide +kernel
theorem dX9_witness_8 : decode cX9_witness 8 = .ok (.ifCond .ne 5, 3) := by decide +kernel
theorem dX9_witness_11 : decode cX9_witness 11 = .ok (.iconst (-1), 1) := by decide +kernel
theorem dX9_witness_12 : decode cX9_witness 12 = .ok (.ireturn, 1) := by decide +kernel
