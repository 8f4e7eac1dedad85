theorem d_M_order_0 : decode b_M_order 0 = .ok (.aload_n 0, 1) := by decide +kernel
theorem d_M_order_1 : decode b_M_order 1 = .ok (.iconst 0, 1) := by decide +kernel
theorem d_M_order_2 : decode b_M_order 2 = .ok (.putfield 55, 3) := by decide +kernel
theorem d_M_order_5 : decode b_M_order 5 = .ok (.aload_n 0, 1) := by decide +kernel
theorem d_M_order_6 : decode b_M_order 6 = .ok (.iload_n 1, 1) := by decide +kernel
theorem d_M_order_7 : decode b_M_order 7 = .ok (.invokevirtual 86, 3) := by decide +kernel
theorem d_M_order_10 : decode b_M_order 10 = .ok (.ifCond .ne 5, 3) := by decide +kernel
theorem d_M_order_13 : decode b_M_order 13 = .ok (.iconst 0, 1) := by decide +kernel
theorem d_M_order_14 : decode b_M_order 14 = .ok (.ireturn, 1) := by decide +kernel
theorem d_M_order_15 : decode b_M_order 15 = .ok (.aload_n 0, 1) := by decide +kernel
theorem d_M_order_16 : decode b_M_order 16 = .ok (.iload_n 1, 1) := by decide +kernel
theorem d_M_order_17 : decode b_M_order 17 = .ok (.invokevirtual 89, 3) := by decide +kernel
theorem d_M_order_20 : decode b_M_order 20 = .ok (.iconst 1, 1) := by decide +kernel
theorem d_M_order_21 : decode b_M_order 21 = .ok (.if_icmp .ne 7, 3) := by decide +kernel
theorem d_M_order_24 : decode b_M_order 24 = .ok (.iconst 4, 1) := by decide +kernel
theorem d_M_order_25 : decode b_M_order 25 = .ok (.goto 17, 3) := by decide +kernel
theorem d_M_order_28 : decode b_M_order 28 = .ok (.aload_n 0, 1) := by decide +kernel
theorem d_M_order_29 : decode b_M_order 29 = .ok (.iload_n 1, 1) := by decide +kernel
theorem d_M_order_30 : decode b_M_order 30 = .ok (.invokevirtual 89, 3) := by decide +kernel
theorem d_M_order_33 : decode b_M_order 33 = .ok (.iconst 2, 1) := by decide +kernel
theorem d_M_order_34 : decode b_M_order 34 = .ok (.if_icmp .ne 7, 3) := by decide +kernel
theorem d_M_order_37 : decode b_M_order 37 = .ok (.iconst 2, 1) := by decide +kernel
theorem d_M_order_38 : decode b_M_order 38 = .ok (.goto 4, 3) := by decide +kernel
theorem d_M_order_41 : decode b_M_order 41 = .ok (.iconst 3, 1) := by decide +kernel
theorem d_M_order_42 : decode b_M_order 42 = .ok (.ireturn, 1) := by decide +kernel
theorem d_M_side_0 : decode b_M_side 0 = .ok (.aload_n 0, 1) := by decide +kernel
theorem d_M_side_1 : decode b_M_side 1 = .ok (.iconst 0, 1) := by decide +kernel
theorem d_M_side_2 : decode b_M_side 2 = .ok (.putfield 55, 3) := by decide +kernel
theorem d_M_side_5 : decode b_M_side 5 = .ok (.aload_n 0, 1) := by decide +kernel
theorem d_M_side_6 : decode b_M_side 6 = .ok (.iload_n 1, 1) := by decide +kernel
theorem d_M_side_7 : decode b_M_side 7 = .ok (.invokevirtual 106, 3) := by decide +kernel
theorem d_M_side_10 : decode b_M_side 10 = .ok (.ifCond .eq 20, 3) := by decide +kernel
theorem d_M_side_13 : decode b_M_side 13 = .ok (.aload_n 0, 1) := by decide +kernel
theorem d_M_side_14 : decode b_M_side 14 = .ok (.iload_n 2, 1) := by decide +kernel
theorem d_M_side_15 : decode b_M_side 15 = .ok (.invokevirtual 113, 3) := by decide +kernel
theorem d_M_side_18 : decode b_M_side 18 = .ok (.ifCond .eq 12, 3) := by decide +kernel
theorem d_M_side_21 : decode b_M_side 21 = .ok (.aload_n 0, 1) := by decide +kernel
theorem d_M_side_22 : decode b_M_side 22 = .ok (.iload_n 1, 1) := by decide +kernel
theorem d_M_side_23 : decode b_M_side 23 = .ok (.iload_n 2, 1) := by decide +kernel
theorem d_M_side_24 : decode b_M_side 24 = .ok (.invokevirtual 116, 3) := by decide +kernel
theorem d_M_side_27 : decode b_M_side 27 = .ok (.goto 4, 3) := by decide +kernel
theorem d_M_side_30 : decode b_M_side 30 = .ok (.iconst (-1), 1) := by decide +kernel
theorem d_M_side_31 : decode b_M_side 31 = .ok (.ireturn, 1) := by decide +kernel
theorem d_M_pieces_0 : decode b_M_pieces 0 = .ok (.aload_n 0, 1) := by decide +kernel
theorem d_M_pieces_1 : decode b_M_pieces 1 = .ok (.iconst 0, 1) := by decide +kernel
theorem d_M_pieces_2 : decode b_M_pieces 2 = .ok (.putfield 55, 3) := by decide +kernel
theorem d_M_pieces_5 : decode b_M_pieces 5 = .ok (.aload_n 0, 1) := by decide +kernel
theorem d_M_pieces_6 : decode b_M_pieces 6 = .ok (.aload_n 0, 1) := by decide +kernel
theorem d_M_pieces_7 : decode b_M_pieces 7 = .ok (.getfield 59, 3) := by decide +kernel
theorem d_M_pieces_10 : decode b_M_pieces 10 = .ok (.invokevirtual 126, 3) := by decide +kernel
theorem d_M_pieces_13 : decode b_M_pieces 13 = .ok (.ireturn, 1) := by decide +kernel
theorem d_M_piece_0 : decode b_M_piece 0 = .ok (.aload_n 0, 1) := by decide +kernel
theorem d_M_piece_1 : decode b_M_piece 1 = .ok (.iconst 0, 1) := by decide +kernel
theorem d_M_piece_2 : decode b_M_piece 2 = .ok (.putfield 55, 3) := by decide +kernel
theorem d_M_piece_5 : decode b_M_piece 5 = .ok (.aload_n 0, 1) := by decide +kernel
theorem d_M_piece_6 : decode b_M_piece 6 = .ok (.iload_n 1, 1) := by decide +kernel
theorem d_M_piece_7 : decode b_M_piece 7 = .ok (.invokevirtual 106, 3) := by decide +kernel
theorem d_M_piece_10 : decode b_M_piece 10 = .ok (.ifCond .eq 15, 3) := by decide +kernel
theorem d_M_piece_13 : decode b_M_piece 13 = .ok (.aload_n 0, 1) := by decide +kernel
theorem d_M_piece_14 : decode b_M_piece 14 = .ok (.aload_n 0, 1) := by decide +kernel
theorem d_M_piece_15 : decode b_M_piece 15 = .ok (.iload_n 1, 1) := by decide +kernel
theorem d_M_piece_16 : decode b_M_piece 16 = .ok (.invokevirtual 123, 3) := by decide +kernel
theorem d_M_piece_19 : decode b_M_piece 19 = .ok (.invokevirtual 126, 3) := by decide +kernel
theorem d_M_piece_22 : decode b_M_piece 22 = .ok (.goto 4, 3) := by decide +kernel
theorem d_M_piece_25 : decode b_M_piece 25 = .ok (.iconst (-1), 1) := by decide +kernel
theorem d_M_piece_26 : decode b_M_piece 26 = .ok (.ireturn, 1) := by decide +kernel
theorem d_M_image_0 : decode b_M_image 0 = .ok (.aload_n 0, 1) := by decide +kernel
theorem d_M_image_1 : decode b_M_image 1 = .ok (.iconst 0, 1) := by decide +kernel
theorem d_M_image_2 : decode b_M_image 2 = .ok (.putfield 55, 3) := by decide +kernel
theorem d_M_image_5 : decode b_M_image 5 = .ok (.aload_n 0, 1) := by decide +kernel
theorem d_M_image_6 : decode b_M_image 6 = .ok (.iload_n 1, 1) := by decide +kernel
theorem d_M_image_7 : decode b_M_image 7 = .ok (.invokevirtual 86, 3) := by decide +kernel
theorem d_M_image_10 : decode b_M_image 10 = .ok (.ifCond .eq 20, 3) := by decide +kernel
theorem d_M_image_13 : decode b_M_image 13 = .ok (.aload_n 0, 1) := by decide +kernel
theorem d_M_image_14 : decode b_M_image 14 = .ok (.iload_n 2, 1) := by decide +kernel
theorem d_M_image_15 : decode b_M_image 15 = .ok (.invokevirtual 106, 3) := by decide +kernel
theorem d_M_image_18 : decode b_M_image 18 = .ok (.ifCond .eq 12, 3) := by decide +kernel
theorem d_M_image_21 : decode b_M_image 21 = .ok (.aload_n 0, 1) := by decide +kernel
theorem d_M_image_22 : decode b_M_image 22 = .ok (.iload_n 1, 1) := by decide +kernel
theorem d_M_image_23 : decode b_M_image 23 = .ok (.iload_n 2, 1) := by decide +kernel
theorem d_M_image_24 : decode b_M_image 24 = .ok (.invokevirtual 109, 3) := by decide +kernel
theorem d_M_image_27 : decode b_M_image 27 = .ok (.goto 4, 3) := by decide +kernel
theorem d_M_image_30 : decode b_M_image 30 = .ok (.iconst (-1), 1) := by decide +kernel
theorem d_M_image_31 : decode b_M_image 31 = .ok (.ireturn, 1) := by decide +kernel
theorem d_M_at_0 : decode b_M_at 0 = .ok (.aload_n 0, 1) := by decide +kernel
theorem d_M_at_1 : decode b_M_at 1 = .ok (.iconst 0, 1) := by decide +kernel
theorem d_M_at_2 : decode b_M_at 2 = .ok (.putfield 55, 3) := by decide +kernel
theorem d_M_at_5 : decode b_M_at 5 = .ok (.aload_n 0, 1) := by decide +kernel
theorem d_M_at_6 : decode b_M_at 6 = .ok (.iload_n 1, 1) := by decide +kernel
theorem d_M_at_7 : decode b_M_at 7 = .ok (.invokevirtual 106, 3) := by decide +kernel
theorem d_M_at_10 : decode b_M_at 10 = .ok (.ifCond .eq 12, 3) := by decide +kernel
theorem d_M_at_13 : decode b_M_at 13 = .ok (.aload_n 0, 1) := by decide +kernel
theorem d_M_at_14 : decode b_M_at 14 = .ok (.getfield 25, 3) := by decide +kernel
theorem d_M_at_17 : decode b_M_at 17 = .ok (.iload_n 1, 1) := by decide +kernel
theorem d_M_at_18 : decode b_M_at 18 = .ok (.iaload, 1) := by decide +kernel
theorem d_M_at_19 : decode b_M_at 19 = .ok (.goto 4, 3) := by decide +kernel
theorem d_M_at_22 : decode b_M_at 22 = .ok (.iconst (-1), 1) := by decide +kernel
theorem d_M_at_23 : decode b_M_at 23 = .ok (.ireturn, 1) := by decide +kernel
theorem d_M_way_0 : decode b_M_way 0 = .ok (.aload_n 0, 1) := by decide +kernel
theorem d_M_way_1 : decode b_M_way 1 = .ok (.iconst 0, 1) := by decide +kernel
theorem d_M_way_2 : decode b_M_way 2 = .ok (.putfield 55, 3) := by decide +kernel
theorem d_M_way_5 : decode b_M_way 5 = .ok (.aload_n 0, 1) := by decide +kernel
theorem d_M_way_6 : decode b_M_way 6 = .ok (.iload_n 1, 1) := by decide +kernel
theorem d_M_way_7 : decode b_M_way 7 = .ok (.invokevirtual 106, 3) := by decide +kernel
theorem d_M_way_10 : decode b_M_way 10 = .ok (.ifCond .eq 12, 3) := by decide +kernel
theorem d_M_way_13 : decode b_M_way 13 = .ok (.aload_n 0, 1) := by decide +kernel
theorem d_M_way_14 : decode b_M_way 14 = .ok (.getfield 28, 3) := by decide +kernel
theorem d_M_way_17 : decode b_M_way 17 = .ok (.iload_n 1, 1) := by decide +kernel
theorem d_M_way_18 : decode b_M_way 18 = .ok (.iaload, 1) := by decide +kernel
theorem d_M_way_19 : decode b_M_way 19 = .ok (.goto 4, 3) := by decide +kernel
theorem d_M_way_22 : decode b_M_way 22 = .ok (.iconst (-1), 1) := by decide +kernel
theorem d_M_way_23 : decode b_M_way 23 = .ok (.ireturn, 1) := by decide +kernel
theorem d_M_home_0 : decode b_M_home 0 = .ok (.aload_n 0, 1) := by decide +kernel
theorem d_M_home_1 : decode b_M_home 1 = .ok (.iconst 0, 1) := by decide +kernel
theorem d_M_home_2 : decode b_M_home 2 = .ok (.putfield 55, 3) := by decide +kernel
theorem d_M_home_5 : decode b_M_home 5 = .ok (.iconst 0, 1) := by decide +kernel
theorem d_M_home_6 : decode b_M_home 6 = .ok (.istore_n 1, 1) := by decide +kernel
theorem d_M_home_7 : decode b_M_home 7 = .ok (.iconst 0, 1) := by decide +kernel
theorem d_M_home_8 : decode b_M_home 8 = .ok (.istore_n 2, 1) := by decide +kernel
theorem d_M_home_9 : decode b_M_home 9 = .ok (.iload_n 2, 1) := by decide +kernel
theorem d_M_home_10 : decode b_M_home 10 = .ok (.aload_n 0, 1) := by decide +kernel
theorem d_M_home_11 : decode b_M_home 11 = .ok (.getfield 59, 3) := by decide +kernel
theorem d_M_home_14 : decode b_M_home 14 = .ok (.if_icmp .ge 36, 3) := by decide +kernel
theorem d_M_home_17 : decode b_M_home 17 = .ok (.iload_n 1, 1) := by decide +kernel
theorem d_M_home_18 : decode b_M_home 18 = .ok (.aload_n 0, 1) := by decide +kernel
theorem d_M_home_19 : decode b_M_home 19 = .ok (.getfield 25, 3) := by decide +kernel
theorem d_M_home_22 : decode b_M_home 22 = .ok (.iload_n 2, 1) := by decide +kernel
theorem d_M_home_23 : decode b_M_home 23 = .ok (.iaload, 1) := by decide +kernel
theorem d_M_home_24 : decode b_M_home 24 = .ok (.iload_n 2, 1) := by decide +kernel
theorem d_M_home_25 : decode b_M_home 25 = .ok (.if_icmp .ne 16, 3) := by decide +kernel
theorem d_M_home_28 : decode b_M_home 28 = .ok (.aload_n 0, 1) := by decide +kernel
theorem d_M_home_29 : decode b_M_home 29 = .ok (.getfield 28, 3) := by decide +kernel
theorem d_M_home_32 : decode b_M_home 32 = .ok (.iload_n 2, 1) := by decide +kernel
theorem d_M_home_33 : decode b_M_home 33 = .ok (.iaload, 1) := by decide +kernel
theorem d_M_home_34 : decode b_M_home 34 = .ok (.ifCond .ne 7, 3) := by decide +kernel
theorem d_M_home_37 : decode b_M_home 37 = .ok (.iconst 1, 1) := by decide +kernel
theorem d_M_home_38 : decode b_M_home 38 = .ok (.goto 4, 3) := by decide +kernel
theorem d_M_home_41 : decode b_M_home 41 = .ok (.iconst 0, 1) := by decide +kernel
theorem d_M_home_42 : decode b_M_home 42 = .ok (.iadd, 1) := by decide +kernel
theorem d_M_home_43 : decode b_M_home 43 = .ok (.istore_n 1, 1) := by decide +kernel
theorem d_M_home_44 : decode b_M_home 44 = .ok (.iinc 2 1, 3) := by decide +kernel
theorem d_M_home_47 : decode b_M_home 47 = .ok (.goto (-38), 3) := by decide +kernel
theorem d_M_home_50 : decode b_M_home 50 = .ok (.iload_n 1, 1) := by decide +kernel
theorem d_M_home_51 : decode b_M_home 51 = .ok (.ireturn, 1) := by decide +kernel
theorem d_M_maps_0 : decode b_M_maps 0 = .ok (.aload_n 0, 1) := by decide +kernel
theorem d_M_maps_1 : decode b_M_maps 1 = .ok (.iconst 0, 1) := by decide +kernel
theorem d_M_maps_2 : decode b_M_maps 2 = .ok (.putfield 55, 3) := by decide +kernel
theorem d_M_maps_5 : decode b_M_maps 5 = .ok (.aload_n 0, 1) := by decide +kernel
theorem d_M_maps_6 : decode b_M_maps 6 = .ok (.iload_n 1, 1) := by decide +kernel
theorem d_M_maps_7 : decode b_M_maps 7 = .ok (.invokevirtual 86, 3) := by decide +kernel
theorem d_M_maps_10 : decode b_M_maps 10 = .ok (.ifCond .ne 5, 3) := by decide +kernel
theorem d_M_maps_13 : decode b_M_maps 13 = .ok (.iconst 0, 1) := by decide +kernel
theorem d_M_maps_14 : decode b_M_maps 14 = .ok (.ireturn, 1) := by decide +kernel
theorem d_M_maps_15 : decode b_M_maps 15 = .ok (.iconst 0, 1) := by decide +kernel
theorem d_M_maps_16 : decode b_M_maps 16 = .ok (.istore_n 2, 1) := by decide +kernel
theorem d_M_maps_17 : decode b_M_maps 17 = .ok (.iload_n 2, 1) := by decide +kernel
theorem d_M_maps_18 : decode b_M_maps 18 = .ok (.aload_n 0, 1) := by decide +kernel
theorem d_M_maps_19 : decode b_M_maps 19 = .ok (.getfield 59, 3) := by decide +kernel
theorem d_M_maps_22 : decode b_M_maps 22 = .ok (.if_icmp .ge 20, 3) := by decide +kernel
theorem d_M_maps_25 : decode b_M_maps 25 = .ok (.aload_n 0, 1) := by decide +kernel
theorem d_M_maps_26 : decode b_M_maps 26 = .ok (.iload_n 1, 1) := by decide +kernel
theorem d_M_maps_27 : decode b_M_maps 27 = .ok (.iload_n 2, 1) := by decide +kernel
theorem d_M_maps_28 : decode b_M_maps 28 = .ok (.invokevirtual 109, 3) := by decide +kernel
theorem d_M_maps_31 : decode b_M_maps 31 = .ok (.ifCond .ge 5, 3) := by decide +kernel
theorem d_M_maps_34 : decode b_M_maps 34 = .ok (.iconst 0, 1) := by decide +kernel
theorem d_M_maps_35 : decode b_M_maps 35 = .ok (.ireturn, 1) := by decide +kernel
theorem d_M_maps_36 : decode b_M_maps 36 = .ok (.iinc 2 1, 3) := by decide +kernel
theorem d_M_maps_39 : decode b_M_maps 39 = .ok (.goto (-22), 3) := by decide +kernel
theorem d_M_maps_42 : decode b_M_maps 42 = .ok (.iconst 0, 1) := by decide +kernel
theorem d_M_maps_43 : decode b_M_maps 43 = .ok (.istore_n 2, 1) := by decide +kernel
theorem d_M_maps_44 : decode b_M_maps 44 = .ok (.iload_n 2, 1) := by decide +kernel
theorem d_M_maps_45 : decode b_M_maps 45 = .ok (.aload_n 0, 1) := by decide +kernel
theorem d_M_maps_46 : decode b_M_maps 46 = .ok (.getfield 62, 3) := by decide +kernel
theorem d_M_maps_49 : decode b_M_maps 49 = .ok (.if_icmp .ge 20, 3) := by decide +kernel
theorem d_M_maps_52 : decode b_M_maps 52 = .ok (.aload_n 0, 1) := by decide +kernel
theorem d_M_maps_53 : decode b_M_maps 53 = .ok (.iload_n 1, 1) := by decide +kernel
theorem d_M_maps_54 : decode b_M_maps 54 = .ok (.iload_n 2, 1) := by decide +kernel
theorem d_M_maps_55 : decode b_M_maps 55 = .ok (.invokevirtual 162, 3) := by decide +kernel
theorem d_M_maps_58 : decode b_M_maps 58 = .ok (.ifCond .ne 5, 3) := by decide +kernel
theorem d_M_maps_61 : decode b_M_maps 61 = .ok (.iconst 0, 1) := by decide +kernel
theorem d_M_maps_62 : decode b_M_maps 62 = .ok (.ireturn, 1) := by decide +kernel
theorem d_M_maps_63 : decode b_M_maps 63 = .ok (.iinc 2 1, 3) := by decide +kernel
theorem d_M_maps_66 : decode b_M_maps 66 = .ok (.goto (-22), 3) := by decide +kernel
theorem d_M_maps_69 : decode b_M_maps 69 = .ok (.iconst 1, 1) := by decide +kernel
theorem d_M_maps_70 : decode b_M_maps 70 = .ok (.ireturn, 1) := by decide +kernel
theorem d_M_cycle_0 : decode b_M_cycle 0 = .ok (.aload_n 0, 1) := by decide +kernel
theorem d_M_cycle_1 : decode b_M_cycle 1 = .ok (.iconst 0, 1) := by decide +kernel
theorem d_M_cycle_2 : decode b_M_cycle 2 = .ok (.putfield 55, 3) := by decide +kernel
theorem d_M_cycle_5 : decode b_M_cycle 5 = .ok (.aload_n 0, 1) := by decide +kernel
theorem d_M_cycle_6 : decode b_M_cycle 6 = .ok (.iload_n 1, 1) := by decide +kernel
theorem d_M_cycle_7 : decode b_M_cycle 7 = .ok (.invokevirtual 86, 3) := by decide +kernel
theorem d_M_cycle_10 : decode b_M_cycle 10 = .ok (.ifCond .eq 28, 3) := by decide +kernel
theorem d_M_cycle_13 : decode b_M_cycle 13 = .ok (.aload_n 0, 1) := by decide +kernel
theorem d_M_cycle_14 : decode b_M_cycle 14 = .ok (.iload_n 2, 1) := by decide +kernel
theorem d_M_cycle_15 : decode b_M_cycle 15 = .ok (.invokevirtual 113, 3) := by decide +kernel
theorem d_M_cycle_18 : decode b_M_cycle 18 = .ok (.ifCond .eq 20, 3) := by decide +kernel
theorem d_M_cycle_21 : decode b_M_cycle 21 = .ok (.aload_n 0, 1) := by decide +kernel
theorem d_M_cycle_22 : decode b_M_cycle 22 = .ok (.iload_n 3, 1) := by decide +kernel
theorem d_M_cycle_23 : decode b_M_cycle 23 = .ok (.invokevirtual 106, 3) := by decide +kernel
theorem d_M_cycle_26 : decode b_M_cycle 26 = .ok (.ifCond .eq 12, 3) := by decide +kernel
theorem d_M_cycle_29 : decode b_M_cycle 29 = .ok (.aload_n 0, 1) := by decide +kernel
theorem d_M_cycle_30 : decode b_M_cycle 30 = .ok (.iload_n 1, 1) := by decide +kernel
theorem d_M_cycle_31 : decode b_M_cycle 31 = .ok (.iload_n 2, 1) := by decide +kernel
theorem d_M_cycle_32 : decode b_M_cycle 32 = .ok (.invokevirtual 147, 3) := by decide +kernel
theorem d_M_cycle_35 : decode b_M_cycle 35 = .ok (.ifCond .le 5, 3) := by decide +kernel
theorem d_M_cycle_38 : decode b_M_cycle 38 = .ok (.iconst 0, 1) := by decide +kernel
theorem d_M_cycle_39 : decode b_M_cycle 39 = .ok (.ireturn, 1) := by decide +kernel
theorem d_M_cycle_40 : decode b_M_cycle 40 = .ok (.aload_n 0, 1) := by decide +kernel
theorem d_M_cycle_41 : decode b_M_cycle 41 = .ok (.iload_n 3, 1) := by decide +kernel
theorem d_M_cycle_42 : decode b_M_cycle 42 = .ok (.iload_n 2, 1) := by decide +kernel
theorem d_M_cycle_43 : decode b_M_cycle 43 = .ok (.invokevirtual 116, 3) := by decide +kernel
theorem d_M_cycle_46 : decode b_M_cycle 46 = .ok (.iconst 2, 1) := by decide +kernel
theorem d_M_cycle_47 : decode b_M_cycle 47 = .ok (.if_icmp .eq 5, 3) := by decide +kernel
theorem d_M_cycle_50 : decode b_M_cycle 50 = .ok (.iconst 1, 1) := by decide +kernel
theorem d_M_cycle_51 : decode b_M_cycle 51 = .ok (.ireturn, 1) := by decide +kernel
theorem d_M_cycle_52 : decode b_M_cycle 52 = .ok (.iconst 1, 1) := by decide +kernel
theorem d_M_cycle_53 : decode b_M_cycle 53 = .ok (.istore 4, 2) := by decide +kernel
theorem d_M_cycle_55 : decode b_M_cycle 55 = .ok (.aload_n 0, 1) := by decide +kernel
theorem d_M_cycle_56 : decode b_M_cycle 56 = .ok (.iload_n 1, 1) := by decide +kernel
theorem d_M_cycle_57 : decode b_M_cycle 57 = .ok (.iload_n 3, 1) := by decide +kernel
theorem d_M_cycle_58 : decode b_M_cycle 58 = .ok (.invokevirtual 109, 3) := by decide +kernel
theorem d_M_cycle_61 : decode b_M_cycle 61 = .ok (.istore 5, 2) := by decide +kernel
theorem d_M_cycle_63 : decode b_M_cycle 63 = .ok (.iload 5, 2) := by decide +kernel
theorem d_M_cycle_65 : decode b_M_cycle 65 = .ok (.iload_n 3, 1) := by decide +kernel
theorem d_M_cycle_66 : decode b_M_cycle 66 = .ok (.if_icmp .eq 18, 3) := by decide +kernel
theorem d_M_cycle_69 : decode b_M_cycle 69 = .ok (.iinc 4 1, 3) := by decide +kernel
theorem d_M_cycle_72 : decode b_M_cycle 72 = .ok (.aload_n 0, 1) := by decide +kernel
theorem d_M_cycle_73 : decode b_M_cycle 73 = .ok (.iload_n 1, 1) := by decide +kernel
theorem d_M_cycle_74 : decode b_M_cycle 74 = .ok (.iload 5, 2) := by decide +kernel
theorem d_M_cycle_76 : decode b_M_cycle 76 = .ok (.invokevirtual 109, 3) := by decide +kernel
theorem d_M_cycle_79 : decode b_M_cycle 79 = .ok (.istore 5, 2) := by decide +kernel
theorem d_M_cycle_81 : decode b_M_cycle 81 = .ok (.goto (-18), 3) := by decide +kernel
theorem d_M_cycle_84 : decode b_M_cycle 84 = .ok (.iload 4, 2) := by decide +kernel
theorem d_M_cycle_86 : decode b_M_cycle 86 = .ok (.ireturn, 1) := by decide +kernel
theorem d_M_plane_0 : decode b_M_plane 0 = .ok (.aload_n 0, 1) := by decide +kernel
theorem d_M_plane_1 : decode b_M_plane 1 = .ok (.iconst 0, 1) := by decide +kernel
theorem d_M_plane_2 : decode b_M_plane 2 = .ok (.putfield 55, 3) := by decide +kernel
theorem d_M_plane_5 : decode b_M_plane 5 = .ok (.iload_n 1, 1) := by decide +kernel
theorem d_M_plane_6 : decode b_M_plane 6 = .ok (.invokestatic 72, 3) := by decide +kernel
theorem d_M_plane_9 : decode b_M_plane 9 = .ok (.ifCond .eq 52, 3) := by decide +kernel
theorem d_M_plane_12 : decode b_M_plane 12 = .ok (.iload_n 2, 1) := by decide +kernel
theorem d_M_plane_13 : decode b_M_plane 13 = .ok (.invokestatic 72, 3) := by decide +kernel
theorem d_M_plane_16 : decode b_M_plane 16 = .ok (.ifCond .eq 45, 3) := by decide +kernel
theorem d_M_plane_19 : decode b_M_plane 19 = .ok (.iload_n 3, 1) := by decide +kernel
theorem d_M_plane_20 : decode b_M_plane 20 = .ok (.invokestatic 72, 3) := by decide +kernel
theorem d_M_plane_23 : decode b_M_plane 23 = .ok (.ifCond .eq 38, 3) := by decide +kernel
theorem d_M_plane_26 : decode b_M_plane 26 = .ok (.iload_n 1, 1) := by decide +kernel
theorem d_M_plane_27 : decode b_M_plane 27 = .ok (.ifCond .ne 11, 3) := by decide +kernel
theorem d_M_plane_30 : decode b_M_plane 30 = .ok (.iload_n 2, 1) := by decide +kernel
theorem d_M_plane_31 : decode b_M_plane 31 = .ok (.ifCond .ne 7, 3) := by decide +kernel
theorem d_M_plane_34 : decode b_M_plane 34 = .ok (.iload_n 3, 1) := by decide +kernel
theorem d_M_plane_35 : decode b_M_plane 35 = .ok (.ifCond .eq 26, 3) := by decide +kernel
theorem d_M_plane_38 : decode b_M_plane 38 = .ok (.iload 4, 2) := by decide +kernel
theorem d_M_plane_40 : decode b_M_plane 40 = .ok (.bipush (-99), 2) := by decide +kernel
theorem d_M_plane_42 : decode b_M_plane 42 = .ok (.if_icmp .lt 19, 3) := by decide +kernel
theorem d_M_plane_45 : decode b_M_plane 45 = .ok (.iload 4, 2) := by decide +kernel
theorem d_M_plane_47 : decode b_M_plane 47 = .ok (.bipush 99, 2) := by decide +kernel
theorem d_M_plane_49 : decode b_M_plane 49 = .ok (.if_icmp .gt 12, 3) := by decide +kernel
theorem d_M_plane_52 : decode b_M_plane 52 = .ok (.aload_n 0, 1) := by decide +kernel
theorem d_M_plane_53 : decode b_M_plane 53 = .ok (.getfield 62, 3) := by decide +kernel
theorem d_M_plane_56 : decode b_M_plane 56 = .ok (.bipush 20, 2) := by decide +kernel
theorem d_M_plane_58 : decode b_M_plane 58 = .ok (.if_icmp .ne 5, 3) := by decide +kernel
theorem d_M_plane_61 : decode b_M_plane 61 = .ok (.iconst (-1), 1) := by decide +kernel
theorem d_M_plane_62 : decode b_M_plane 62 = .ok (.ireturn, 1) := by decide +kernel
theorem d_M_plane_63 : decode b_M_plane 63 = .ok (.aload_n 0, 1) := by decide +kernel
theorem d_M_plane_64 : decode b_M_plane 64 = .ok (.getfield 19, 3) := by decide +kernel
theorem d_M_plane_67 : decode b_M_plane 67 = .ok (.iconst 4, 1) := by decide +kernel
theorem d_M_plane_68 : decode b_M_plane 68 = .ok (.aload_n 0, 1) := by decide +kernel
theorem d_M_plane_69 : decode b_M_plane 69 = .ok (.getfield 62, 3) := by decide +kernel
theorem d_M_plane_72 : decode b_M_plane 72 = .ok (.imul, 1) := by decide +kernel
theorem d_M_plane_73 : decode b_M_plane 73 = .ok (.iload_n 1, 1) := by decide +kernel
theorem d_M_plane_74 : decode b_M_plane 74 = .ok (.iastore, 1) := by decide +kernel
theorem d_M_plane_75 : decode b_M_plane 75 = .ok (.aload_n 0, 1) := by decide +kernel
theorem d_M_plane_76 : decode b_M_plane 76 = .ok (.getfield 19, 3) := by decide +kernel
theorem d_M_plane_79 : decode b_M_plane 79 = .ok (.iconst 4, 1) := by decide +kernel
theorem d_M_plane_80 : decode b_M_plane 80 = .ok (.aload_n 0, 1) := by decide +kernel
theorem d_M_plane_81 : decode b_M_plane 81 = .ok (.getfield 62, 3) := by decide +kernel
theorem d_M_plane_84 : decode b_M_plane 84 = .ok (.imul, 1) := by decide +kernel
theorem d_M_plane_85 : decode b_M_plane 85 = .ok (.iconst 1, 1) := by decide +kernel
theorem d_M_plane_86 : decode b_M_plane 86 = .ok (.iadd, 1) := by decide +kernel
theorem d_M_plane_87 : decode b_M_plane 87 = .ok (.iload_n 2, 1) := by decide +kernel
theorem d_M_plane_88 : decode b_M_plane 88 = .ok (.iastore, 1) := by decide +kernel
theorem d_M_plane_89 : decode b_M_plane 89 = .ok (.aload_n 0, 1) := by decide +kernel
theorem d_M_plane_90 : decode b_M_plane 90 = .ok (.getfield 19, 3) := by decide +kernel
theorem d_M_plane_93 : decode b_M_plane 93 = .ok (.iconst 4, 1) := by decide +kernel
theorem d_M_plane_94 : decode b_M_plane 94 = .ok (.aload_n 0, 1) := by decide +kernel
theorem d_M_plane_95 : decode b_M_plane 95 = .ok (.getfield 62, 3) := by decide +kernel
theorem d_M_plane_98 : decode b_M_plane 98 = .ok (.imul, 1) := by decide +kernel
theorem d_M_plane_99 : decode b_M_plane 99 = .ok (.iconst 2, 1) := by decide +kernel
theorem d_M_plane_100 : decode b_M_plane 100 = .ok (.iadd, 1) := by decide +kernel
theorem d_M_plane_101 : decode b_M_plane 101 = .ok (.iload_n 3, 1) := by decide +kernel
theorem d_M_plane_102 : decode b_M_plane 102 = .ok (.iastore, 1) := by decide +kernel
theorem d_M_plane_103 : decode b_M_plane 103 = .ok (.aload_n 0, 1) := by decide +kernel
theorem d_M_plane_104 : decode b_M_plane 104 = .ok (.getfield 19, 3) := by decide +kernel
theorem d_M_plane_107 : decode b_M_plane 107 = .ok (.iconst 4, 1) := by decide +kernel
theorem d_M_plane_108 : decode b_M_plane 108 = .ok (.aload_n 0, 1) := by decide +kernel
theorem d_M_plane_109 : decode b_M_plane 109 = .ok (.getfield 62, 3) := by decide +kernel
theorem d_M_plane_112 : decode b_M_plane 112 = .ok (.imul, 1) := by decide +kernel
theorem d_M_plane_113 : decode b_M_plane 113 = .ok (.iconst 3, 1) := by decide +kernel
theorem d_M_plane_114 : decode b_M_plane 114 = .ok (.iadd, 1) := by decide +kernel
theorem d_M_plane_115 : decode b_M_plane 115 = .ok (.iload 4, 2) := by decide +kernel
theorem d_M_plane_117 : decode b_M_plane 117 = .ok (.iastore, 1) := by decide +kernel
theorem d_M_plane_118 : decode b_M_plane 118 = .ok (.aload_n 0, 1) := by decide +kernel
theorem d_M_plane_119 : decode b_M_plane 119 = .ok (.dup, 1) := by decide +kernel
theorem d_M_plane_120 : decode b_M_plane 120 = .ok (.getfield 62, 3) := by decide +kernel
theorem d_M_plane_123 : decode b_M_plane 123 = .ok (.iconst 1, 1) := by decide +kernel
theorem d_M_plane_124 : decode b_M_plane 124 = .ok (.iadd, 1) := by decide +kernel
theorem d_M_plane_125 : decode b_M_plane 125 = .ok (.putfield 62, 3) := by decide +kernel
theorem d_M_plane_128 : decode b_M_plane 128 = .ok (.aload_n 0, 1) := by decide +kernel
theorem d_M_plane_129 : decode b_M_plane 129 = .ok (.getfield 62, 3) := by decide +kernel
theorem d_M_plane_132 : decode b_M_plane 132 = .ok (.iconst 1, 1) := by decide +kernel
theorem d_M_plane_133 : decode b_M_plane 133 = .ok (.isub, 1) := by decide +kernel
theorem d_M_plane_134 : decode b_M_plane 134 = .ok (.ireturn, 1) := by decide +kernel
theorem d_M_axis_0 : decode b_M_axis 0 = .ok (.aload_n 0, 1) := by decide +kernel
theorem d_M_axis_1 : decode b_M_axis 1 = .ok (.iconst 0, 1) := by decide +kernel
theorem d_M_axis_2 : decode b_M_axis 2 = .ok (.putfield 55, 3) := by decide +kernel
theorem d_M_axis_5 : decode b_M_axis 5 = .ok (.iload_n 1, 1) := by decide +kernel
theorem d_M_axis_6 : decode b_M_axis 6 = .ok (.invokestatic 83, 3) := by decide +kernel
theorem d_M_axis_9 : decode b_M_axis 9 = .ok (.ifCond .eq 38, 3) := by decide +kernel
theorem d_M_axis_12 : decode b_M_axis 12 = .ok (.iload_n 2, 1) := by decide +kernel
theorem d_M_axis_13 : decode b_M_axis 13 = .ok (.invokestatic 83, 3) := by decide +kernel
theorem d_M_axis_16 : decode b_M_axis 16 = .ok (.ifCond .eq 31, 3) := by decide +kernel
theorem d_M_axis_19 : decode b_M_axis 19 = .ok (.iload_n 3, 1) := by decide +kernel
theorem d_M_axis_20 : decode b_M_axis 20 = .ok (.invokestatic 83, 3) := by decide +kernel
theorem d_M_axis_23 : decode b_M_axis 23 = .ok (.ifCond .eq 24, 3) := by decide +kernel
theorem d_M_axis_26 : decode b_M_axis 26 = .ok (.iload_n 1, 1) := by decide +kernel
theorem d_M_axis_27 : decode b_M_axis 27 = .ok (.ifCond .ne 11, 3) := by decide +kernel
theorem d_M_axis_30 : decode b_M_axis 30 = .ok (.iload_n 2, 1) := by decide +kernel
theorem d_M_axis_31 : decode b_M_axis 31 = .ok (.ifCond .ne 7, 3) := by decide +kernel
theorem d_M_axis_34 : decode b_M_axis 34 = .ok (.iload_n 3, 1) := by decide +kernel
theorem d_M_axis_35 : decode b_M_axis 35 = .ok (.ifCond .eq 12, 3) := by decide +kernel
theorem d_M_axis_38 : decode b_M_axis 38 = .ok (.aload_n 0, 1) := by decide +kernel
theorem d_M_axis_39 : decode b_M_axis 39 = .ok (.getfield 65, 3) := by decide +kernel
theorem d_M_axis_42 : decode b_M_axis 42 = .ok (.bipush 13, 2) := by decide +kernel
theorem d_M_axis_44 : decode b_M_axis 44 = .ok (.if_icmp .ne 5, 3) := by decide +kernel
theorem d_M_axis_47 : decode b_M_axis 47 = .ok (.iconst (-1), 1) := by decide +kernel
theorem d_M_axis_48 : decode b_M_axis 48 = .ok (.ireturn, 1) := by decide +kernel
theorem d_M_axis_49 : decode b_M_axis 49 = .ok (.aload_n 0, 1) := by decide +kernel
theorem d_M_axis_50 : decode b_M_axis 50 = .ok (.getfield 22, 3) := by decide +kernel
theorem d_M_axis_53 : decode b_M_axis 53 = .ok (.iconst 3, 1) := by decide +kernel
theorem d_M_axis_54 : decode b_M_axis 54 = .ok (.aload_n 0, 1) := by decide +kernel
theorem d_M_axis_55 : decode b_M_axis 55 = .ok (.getfield 65, 3) := by decide +kernel
theorem d_M_axis_58 : decode b_M_axis 58 = .ok (.imul, 1) := by decide +kernel
theorem d_M_axis_59 : decode b_M_axis 59 = .ok (.iload_n 1, 1) := by decide +kernel
theorem d_M_axis_60 : decode b_M_axis 60 = .ok (.iastore, 1) := by decide +kernel
theorem d_M_axis_61 : decode b_M_axis 61 = .ok (.aload_n 0, 1) := by decide +kernel
theorem d_M_axis_62 : decode b_M_axis 62 = .ok (.getfield 22, 3) := by decide +kernel
theorem d_M_axis_65 : decode b_M_axis 65 = .ok (.iconst 3, 1) := by decide +kernel
theorem d_M_axis_66 : decode b_M_axis 66 = .ok (.aload_n 0, 1) := by decide +kernel
theorem d_M_axis_67 : decode b_M_axis 67 = .ok (.getfield 65, 3) := by decide +kernel
theorem d_M_axis_70 : decode b_M_axis 70 = .ok (.imul, 1) := by decide +kernel
theorem d_M_axis_71 : decode b_M_axis 71 = .ok (.iconst 1, 1) := by decide +kernel
theorem d_M_axis_72 : decode b_M_axis 72 = .ok (.iadd, 1) := by decide +kernel
theorem d_M_axis_73 : decode b_M_axis 73 = .ok (.iload_n 2, 1) := by decide +kernel
theorem d_M_axis_74 : decode b_M_axis 74 = .ok (.iastore, 1) := by decide +kernel
theorem d_M_axis_75 : decode b_M_axis 75 = .ok (.aload_n 0, 1) := by decide +kernel
theorem d_M_axis_76 : decode b_M_axis 76 = .ok (.getfield 22, 3) := by decide +kernel
theorem d_M_axis_79 : decode b_M_axis 79 = .ok (.iconst 3, 1) := by decide +kernel
theorem d_M_axis_80 : decode b_M_axis 80 = .ok (.aload_n 0, 1) := by decide +kernel
theorem d_M_axis_81 : decode b_M_axis 81 = .ok (.getfield 65, 3) := by decide +kernel
theorem d_M_axis_84 : decode b_M_axis 84 = .ok (.imul, 1) := by decide +kernel
theorem d_M_axis_85 : decode b_M_axis 85 = .ok (.iconst 2, 1) := by decide +kernel
theorem d_M_axis_86 : decode b_M_axis 86 = .ok (.iadd, 1) := by decide +kernel
theorem d_M_axis_87 : decode b_M_axis 87 = .ok (.iload_n 3, 1) := by decide +kernel
theorem d_M_axis_88 : decode b_M_axis 88 = .ok (.iastore, 1) := by decide +kernel
theorem d_M_axis_89 : decode b_M_axis 89 = .ok (.aload_n 0, 1) := by decide +kernel
theorem d_M_axis_90 : decode b_M_axis 90 = .ok (.dup, 1) := by decide +kernel
theorem d_M_axis_91 : decode b_M_axis 91 = .ok (.getfield 65, 3) := by decide +kernel
theorem d_M_axis_94 : decode b_M_axis 94 = .ok (.iconst 1, 1) := by decide +kernel
theorem d_M_axis_95 : decode b_M_axis 95 = .ok (.iadd, 1) := by decide +kernel
theorem d_M_axis_96 : decode b_M_axis 96 = .ok (.putfield 65, 3) := by decide +kernel
theorem d_M_axis_99 : decode b_M_axis 99 = .ok (.aload_n 0, 1) := by decide +kernel
theorem d_M_axis_100 : decode b_M_axis 100 = .ok (.getfield 65, 3) := by decide +kernel
theorem d_M_axis_103 : decode b_M_axis 103 = .ok (.iconst 1, 1) := by decide +kernel
theorem d_M_axis_104 : decode b_M_axis 104 = .ok (.isub, 1) := by decide +kernel
theorem d_M_axis_105 : decode b_M_axis 105 = .ok (.ireturn, 1) := by decide +kernel
theorem d_M_point_0 : decode b_M_point 0 = .ok (.aload_n 0, 1) := by decide +kernel
theorem d_M_point_1 : decode b_M_point 1 = .ok (.iconst 0, 1) := by decide +kernel
theorem d_M_point_2 : decode b_M_point 2 = .ok (.putfield 55, 3) := by decide +kernel
theorem d_M_point_5 : decode b_M_point 5 = .ok (.iload_n 1, 1) := by decide +kernel
theorem d_M_point_6 : decode b_M_point 6 = .ok (.invokestatic 72, 3) := by decide +kernel
theorem d_M_point_9 : decode b_M_point 9 = .ok (.ifCond .eq 27, 3) := by decide +kernel
theorem d_M_point_12 : decode b_M_point 12 = .ok (.iload_n 2, 1) := by decide +kernel
theorem d_M_point_13 : decode b_M_point 13 = .ok (.invokestatic 72, 3) := by decide +kernel
theorem d_M_point_16 : decode b_M_point 16 = .ok (.ifCond .eq 20, 3) := by decide +kernel
theorem d_M_point_19 : decode b_M_point 19 = .ok (.iload_n 3, 1) := by decide +kernel
theorem d_M_point_20 : decode b_M_point 20 = .ok (.invokestatic 72, 3) := by decide +kernel
theorem d_M_point_23 : decode b_M_point 23 = .ok (.ifCond .eq 13, 3) := by decide +kernel
theorem d_M_point_26 : decode b_M_point 26 = .ok (.aload_n 0, 1) := by decide +kernel
theorem d_M_point_27 : decode b_M_point 27 = .ok (.iload_n 1, 1) := by decide +kernel
theorem d_M_point_28 : decode b_M_point 28 = .ok (.iload_n 2, 1) := by decide +kernel
theorem d_M_point_29 : decode b_M_point 29 = .ok (.iload_n 3, 1) := by decide +kernel
theorem d_M_point_30 : decode b_M_point 30 = .ok (.invokevirtual 76, 3) := by decide +kernel
theorem d_M_point_33 : decode b_M_point 33 = .ok (.ifCond .ne 5, 3) := by decide +kernel
theorem d_M_point_36 : decode b_M_point 36 = .ok (.iconst (-1), 1) := by decide +kernel
theorem d_M_point_37 : decode b_M_point 37 = .ok (.ireturn, 1) := by decide +kernel
theorem d_M_point_38 : decode b_M_point 38 = .ok (.aload_n 0, 1) := by decide +kernel
theorem d_M_point_39 : decode b_M_point 39 = .ok (.invokevirtual 80, 3) := by decide +kernel
theorem d_M_point_42 : decode b_M_point 42 = .ok (.aload_n 0, 1) := by decide +kernel
theorem d_M_point_43 : decode b_M_point 43 = .ok (.getfield 59, 3) := by decide +kernel
theorem d_M_point_46 : decode b_M_point 46 = .ok (.iconst 1, 1) := by decide +kernel
theorem d_M_point_47 : decode b_M_point 47 = .ok (.isub, 1) := by decide +kernel
theorem d_M_point_48 : decode b_M_point 48 = .ok (.ireturn, 1) := by decide +kernel
theorem d_M_cube_0 : decode b_M_cube 0 = .ok (.aload_n 0, 1) := by decide +kernel
theorem d_M_cube_1 : decode b_M_cube 1 = .ok (.iconst 0, 1) := by decide +kernel
theorem d_M_cube_2 : decode b_M_cube 2 = .ok (.putfield 55, 3) := by decide +kernel
theorem d_M_cube_5 : decode b_M_cube 5 = .ok (.iload_n 1, 1) := by decide +kernel
theorem d_M_cube_6 : decode b_M_cube 6 = .ok (.ifCond .lt 8, 3) := by decide +kernel
theorem d_M_cube_9 : decode b_M_cube 9 = .ok (.iload_n 1, 1) := by decide +kernel
theorem d_M_cube_10 : decode b_M_cube 10 = .ok (.iconst 2, 1) := by decide +kernel
theorem d_M_cube_11 : decode b_M_cube 11 = .ok (.if_icmp .le 5, 3) := by decide +kernel
theorem d_M_cube_14 : decode b_M_cube 14 = .ok (.iconst (-1), 1) := by decide +kernel
theorem d_M_cube_15 : decode b_M_cube 15 = .ok (.ireturn, 1) := by decide +kernel
theorem d_M_cube_16 : decode b_M_cube 16 = .ok (.iconst 0, 1) := by decide +kernel
theorem d_M_cube_17 : decode b_M_cube 17 = .ok (.istore_n 2, 1) := by decide +kernel
theorem d_M_cube_18 : decode b_M_cube 18 = .ok (.iload_n 1, 1) := by decide +kernel
theorem d_M_cube_19 : decode b_M_cube 19 = .ok (.ineg, 1) := by decide +kernel
theorem d_M_cube_20 : decode b_M_cube 20 = .ok (.istore_n 3, 1) := by decide +kernel
theorem d_M_cube_21 : decode b_M_cube 21 = .ok (.iload_n 3, 1) := by decide +kernel
theorem d_M_cube_22 : decode b_M_cube 22 = .ok (.iload_n 1, 1) := by decide +kernel
theorem d_M_cube_23 : decode b_M_cube 23 = .ok (.if_icmp .gt 61, 3) := by decide +kernel
theorem d_M_cube_26 : decode b_M_cube 26 = .ok (.iload_n 1, 1) := by decide +kernel
theorem d_M_cube_27 : decode b_M_cube 27 = .ok (.ineg, 1) := by decide +kernel
theorem d_M_cube_28 : decode b_M_cube 28 = .ok (.istore 4, 2) := by decide +kernel
theorem d_M_cube_30 : decode b_M_cube 30 = .ok (.iload 4, 2) := by decide +kernel
theorem d_M_cube_32 : decode b_M_cube 32 = .ok (.iload_n 1, 1) := by decide +kernel
theorem d_M_cube_33 : decode b_M_cube 33 = .ok (.if_icmp .gt 45, 3) := by decide +kernel
theorem d_M_cube_36 : decode b_M_cube 36 = .ok (.iload_n 1, 1) := by decide +kernel
theorem d_M_cube_37 : decode b_M_cube 37 = .ok (.ineg, 1) := by decide +kernel
theorem d_M_cube_38 : decode b_M_cube 38 = .ok (.istore 5, 2) := by decide +kernel
theorem d_M_cube_40 : decode b_M_cube 40 = .ok (.iload 5, 2) := by decide +kernel
theorem d_M_cube_42 : decode b_M_cube 42 = .ok (.iload_n 1, 1) := by decide +kernel
theorem d_M_cube_43 : decode b_M_cube 43 = .ok (.if_icmp .gt 29, 3) := by decide +kernel
theorem d_M_cube_46 : decode b_M_cube 46 = .ok (.iload_n 2, 1) := by decide +kernel
theorem d_M_cube_47 : decode b_M_cube 47 = .ok (.aload_n 0, 1) := by decide +kernel
theorem d_M_cube_48 : decode b_M_cube 48 = .ok (.iload_n 3, 1) := by decide +kernel
theorem d_M_cube_49 : decode b_M_cube 49 = .ok (.iload 4, 2) := by decide +kernel
theorem d_M_cube_51 : decode b_M_cube 51 = .ok (.iload 5, 2) := by decide +kernel
theorem d_M_cube_53 : decode b_M_cube 53 = .ok (.invokevirtual 76, 3) := by decide +kernel
theorem d_M_cube_56 : decode b_M_cube 56 = .ok (.ifCond .eq 7, 3) := by decide +kernel
theorem d_M_cube_59 : decode b_M_cube 59 = .ok (.iconst 1, 1) := by decide +kernel
theorem d_M_cube_60 : decode b_M_cube 60 = .ok (.goto 4, 3) := by decide +kernel
theorem d_M_cube_63 : decode b_M_cube 63 = .ok (.iconst 0, 1) := by decide +kernel
theorem d_M_cube_64 : decode b_M_cube 64 = .ok (.iadd, 1) := by decide +kernel
theorem d_M_cube_65 : decode b_M_cube 65 = .ok (.istore_n 2, 1) := by decide +kernel
theorem d_M_cube_66 : decode b_M_cube 66 = .ok (.iinc 5 1, 3) := by decide +kernel
theorem d_M_cube_69 : decode b_M_cube 69 = .ok (.goto (-29), 3) := by decide +kernel
theorem d_M_cube_72 : decode b_M_cube 72 = .ok (.iinc 4 1, 3) := by decide +kernel
theorem d_M_cube_75 : decode b_M_cube 75 = .ok (.goto (-45), 3) := by decide +kernel
theorem d_M_cube_78 : decode b_M_cube 78 = .ok (.iinc 3 1, 3) := by decide +kernel
theorem d_M_cube_81 : decode b_M_cube 81 = .ok (.goto (-60), 3) := by decide +kernel
theorem d_M_cube_84 : decode b_M_cube 84 = .ok (.aload_n 0, 1) := by decide +kernel
theorem d_M_cube_85 : decode b_M_cube 85 = .ok (.invokevirtual 80, 3) := by decide +kernel
theorem d_M_cube_88 : decode b_M_cube 88 = .ok (.iload_n 2, 1) := by decide +kernel
theorem d_M_cube_89 : decode b_M_cube 89 = .ok (.ireturn, 1) := by decide +kernel
