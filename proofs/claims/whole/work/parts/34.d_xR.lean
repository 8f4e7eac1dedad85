theorem d_X_hasAxis_0 : decode b_X_hasAxis 0 = .ok (.iload_n 1, 1) := by decide +kernel
theorem d_X_hasAxis_1 : decode b_X_hasAxis 1 = .ok (.ifCond .lt 15, 3) := by decide +kernel
theorem d_X_hasAxis_4 : decode b_X_hasAxis 4 = .ok (.iload_n 1, 1) := by decide +kernel
theorem d_X_hasAxis_5 : decode b_X_hasAxis 5 = .ok (.aload_n 0, 1) := by decide +kernel
theorem d_X_hasAxis_6 : decode b_X_hasAxis 6 = .ok (.getfield 20, 3) := by decide +kernel
theorem d_X_hasAxis_9 : decode b_X_hasAxis 9 = .ok (.if_icmp .ge 7, 3) := by decide +kernel
theorem d_X_hasAxis_12 : decode b_X_hasAxis 12 = .ok (.iconst 1, 1) := by decide +kernel
theorem d_X_hasAxis_13 : decode b_X_hasAxis 13 = .ok (.goto 4, 3) := by decide +kernel
theorem d_X_hasAxis_16 : decode b_X_hasAxis 16 = .ok (.iconst 0, 1) := by decide +kernel
theorem d_X_hasAxis_17 : decode b_X_hasAxis 17 = .ok (.ireturn, 1) := by decide +kernel
theorem d_X_order_0 : decode b_X_order 0 = .ok (.aload_n 0, 1) := by decide +kernel
theorem d_X_order_1 : decode b_X_order 1 = .ok (.iload_n 1, 1) := by decide +kernel
theorem d_X_order_2 : decode b_X_order 2 = .ok (.invokevirtual 70, 3) := by decide +kernel
theorem d_X_order_5 : decode b_X_order 5 = .ok (.ifCond .eq 15, 3) := by decide +kernel
theorem d_X_order_8 : decode b_X_order 8 = .ok (.aload_n 0, 1) := by decide +kernel
theorem d_X_order_9 : decode b_X_order 9 = .ok (.getfield 16, 3) := by decide +kernel
theorem d_X_order_12 : decode b_X_order 12 = .ok (.iload_n 1, 1) := by decide +kernel
theorem d_X_order_13 : decode b_X_order 13 = .ok (.iaload, 1) := by decide +kernel
theorem d_X_order_14 : decode b_X_order 14 = .ok (.invokestatic 74, 3) := by decide +kernel
theorem d_X_order_17 : decode b_X_order 17 = .ok (.goto 4, 3) := by decide +kernel
theorem d_X_order_20 : decode b_X_order 20 = .ok (.iconst 0, 1) := by decide +kernel
theorem d_X_order_21 : decode b_X_order 21 = .ok (.ireturn, 1) := by decide +kernel
theorem d_X_side_0 : decode b_X_side 0 = .ok (.aload_n 0, 1) := by decide +kernel
theorem d_X_side_1 : decode b_X_side 1 = .ok (.getfield 10, 3) := by decide +kernel
theorem d_X_side_4 : decode b_X_side 4 = .ok (.iload_n 1, 1) := by decide +kernel
theorem d_X_side_5 : decode b_X_side 5 = .ok (.invokevirtual 78, 3) := by decide +kernel
theorem d_X_side_8 : decode b_X_side 8 = .ok (.ifCond .eq 26, 3) := by decide +kernel
theorem d_X_side_11 : decode b_X_side 11 = .ok (.aload_n 0, 1) := by decide +kernel
theorem d_X_side_12 : decode b_X_side 12 = .ok (.getfield 10, 3) := by decide +kernel
theorem d_X_side_15 : decode b_X_side 15 = .ok (.iload_n 2, 1) := by decide +kernel
theorem d_X_side_16 : decode b_X_side 16 = .ok (.invokevirtual 81, 3) := by decide +kernel
theorem d_X_side_19 : decode b_X_side 19 = .ok (.ifCond .eq 15, 3) := by decide +kernel
theorem d_X_side_22 : decode b_X_side 22 = .ok (.aload_n 0, 1) := by decide +kernel
theorem d_X_side_23 : decode b_X_side 23 = .ok (.getfield 10, 3) := by decide +kernel
theorem d_X_side_26 : decode b_X_side 26 = .ok (.iload_n 1, 1) := by decide +kernel
theorem d_X_side_27 : decode b_X_side 27 = .ok (.iload_n 2, 1) := by decide +kernel
theorem d_X_side_28 : decode b_X_side 28 = .ok (.invokevirtual 84, 3) := by decide +kernel
theorem d_X_side_31 : decode b_X_side 31 = .ok (.goto 4, 3) := by decide +kernel
theorem d_X_side_34 : decode b_X_side 34 = .ok (.iconst (-1), 1) := by decide +kernel
theorem d_X_side_35 : decode b_X_side 35 = .ok (.ireturn, 1) := by decide +kernel
theorem d_X_pieces_0 : decode b_X_pieces 0 = .ok (.aload_n 0, 1) := by decide +kernel
theorem d_X_pieces_1 : decode b_X_pieces 1 = .ok (.getfield 10, 3) := by decide +kernel
theorem d_X_pieces_4 : decode b_X_pieces 4 = .ok (.aload_n 0, 1) := by decide +kernel
theorem d_X_pieces_5 : decode b_X_pieces 5 = .ok (.getfield 10, 3) := by decide +kernel
theorem d_X_pieces_8 : decode b_X_pieces 8 = .ok (.getfield 88, 3) := by decide +kernel
theorem d_X_pieces_11 : decode b_X_pieces 11 = .ok (.invokevirtual 91, 3) := by decide +kernel
theorem d_X_pieces_14 : decode b_X_pieces 14 = .ok (.ireturn, 1) := by decide +kernel
theorem d_X_piece_0 : decode b_X_piece 0 = .ok (.aload_n 0, 1) := by decide +kernel
theorem d_X_piece_1 : decode b_X_piece 1 = .ok (.getfield 10, 3) := by decide +kernel
theorem d_X_piece_4 : decode b_X_piece 4 = .ok (.iload_n 1, 1) := by decide +kernel
theorem d_X_piece_5 : decode b_X_piece 5 = .ok (.invokevirtual 78, 3) := by decide +kernel
theorem d_X_piece_8 : decode b_X_piece 8 = .ok (.ifCond .eq 21, 3) := by decide +kernel
theorem d_X_piece_11 : decode b_X_piece 11 = .ok (.aload_n 0, 1) := by decide +kernel
theorem d_X_piece_12 : decode b_X_piece 12 = .ok (.getfield 10, 3) := by decide +kernel
theorem d_X_piece_15 : decode b_X_piece 15 = .ok (.aload_n 0, 1) := by decide +kernel
theorem d_X_piece_16 : decode b_X_piece 16 = .ok (.getfield 10, 3) := by decide +kernel
theorem d_X_piece_19 : decode b_X_piece 19 = .ok (.iload_n 1, 1) := by decide +kernel
theorem d_X_piece_20 : decode b_X_piece 20 = .ok (.invokevirtual 94, 3) := by decide +kernel
theorem d_X_piece_23 : decode b_X_piece 23 = .ok (.invokevirtual 91, 3) := by decide +kernel
theorem d_X_piece_26 : decode b_X_piece 26 = .ok (.goto 4, 3) := by decide +kernel
theorem d_X_piece_29 : decode b_X_piece 29 = .ok (.iconst (-1), 1) := by decide +kernel
theorem d_X_piece_30 : decode b_X_piece 30 = .ok (.ireturn, 1) := by decide +kernel
theorem d_X_image_0 : decode b_X_image 0 = .ok (.aload_n 0, 1) := by decide +kernel
theorem d_X_image_1 : decode b_X_image 1 = .ok (.iload_n 1, 1) := by decide +kernel
theorem d_X_image_2 : decode b_X_image 2 = .ok (.invokevirtual 70, 3) := by decide +kernel
theorem d_X_image_5 : decode b_X_image 5 = .ok (.ifCond .eq 31, 3) := by decide +kernel
theorem d_X_image_8 : decode b_X_image 8 = .ok (.aload_n 0, 1) := by decide +kernel
theorem d_X_image_9 : decode b_X_image 9 = .ok (.getfield 10, 3) := by decide +kernel
theorem d_X_image_12 : decode b_X_image 12 = .ok (.iload_n 2, 1) := by decide +kernel
theorem d_X_image_13 : decode b_X_image 13 = .ok (.invokevirtual 78, 3) := by decide +kernel
theorem d_X_image_16 : decode b_X_image 16 = .ok (.ifCond .eq 20, 3) := by decide +kernel
theorem d_X_image_19 : decode b_X_image 19 = .ok (.aload_n 0, 1) := by decide +kernel
theorem d_X_image_20 : decode b_X_image 20 = .ok (.getfield 10, 3) := by decide +kernel
theorem d_X_image_23 : decode b_X_image 23 = .ok (.iload_n 2, 1) := by decide +kernel
theorem d_X_image_24 : decode b_X_image 24 = .ok (.aload_n 0, 1) := by decide +kernel
theorem d_X_image_25 : decode b_X_image 25 = .ok (.getfield 16, 3) := by decide +kernel
theorem d_X_image_28 : decode b_X_image 28 = .ok (.iload_n 1, 1) := by decide +kernel
theorem d_X_image_29 : decode b_X_image 29 = .ok (.iaload, 1) := by decide +kernel
theorem d_X_image_30 : decode b_X_image 30 = .ok (.invokevirtual 97, 3) := by decide +kernel
theorem d_X_image_33 : decode b_X_image 33 = .ok (.goto 4, 3) := by decide +kernel
theorem d_X_image_36 : decode b_X_image 36 = .ok (.iconst (-1), 1) := by decide +kernel
theorem d_X_image_37 : decode b_X_image 37 = .ok (.ireturn, 1) := by decide +kernel
theorem d_X_at_0 : decode b_X_at 0 = .ok (.aload_n 0, 1) := by decide +kernel
theorem d_X_at_1 : decode b_X_at 1 = .ok (.getfield 10, 3) := by decide +kernel
theorem d_X_at_4 : decode b_X_at 4 = .ok (.iload_n 1, 1) := by decide +kernel
theorem d_X_at_5 : decode b_X_at 5 = .ok (.invokevirtual 78, 3) := by decide +kernel
theorem d_X_at_8 : decode b_X_at 8 = .ok (.ifCond .eq 15, 3) := by decide +kernel
theorem d_X_at_11 : decode b_X_at 11 = .ok (.aload_n 0, 1) := by decide +kernel
theorem d_X_at_12 : decode b_X_at 12 = .ok (.getfield 27, 3) := by decide +kernel
theorem d_X_at_15 : decode b_X_at 15 = .ok (.getfield 107, 3) := by decide +kernel
theorem d_X_at_18 : decode b_X_at 18 = .ok (.iload_n 1, 1) := by decide +kernel
theorem d_X_at_19 : decode b_X_at 19 = .ok (.iaload, 1) := by decide +kernel
theorem d_X_at_20 : decode b_X_at 20 = .ok (.goto 4, 3) := by decide +kernel
theorem d_X_at_23 : decode b_X_at 23 = .ok (.iconst (-1), 1) := by decide +kernel
theorem d_X_at_24 : decode b_X_at 24 = .ok (.ireturn, 1) := by decide +kernel
theorem d_X_way_0 : decode b_X_way 0 = .ok (.aload_n 0, 1) := by decide +kernel
theorem d_X_way_1 : decode b_X_way 1 = .ok (.getfield 10, 3) := by decide +kernel
theorem d_X_way_4 : decode b_X_way 4 = .ok (.iload_n 1, 1) := by decide +kernel
theorem d_X_way_5 : decode b_X_way 5 = .ok (.invokevirtual 78, 3) := by decide +kernel
theorem d_X_way_8 : decode b_X_way 8 = .ok (.ifCond .eq 15, 3) := by decide +kernel
theorem d_X_way_11 : decode b_X_way 11 = .ok (.aload_n 0, 1) := by decide +kernel
theorem d_X_way_12 : decode b_X_way 12 = .ok (.getfield 27, 3) := by decide +kernel
theorem d_X_way_15 : decode b_X_way 15 = .ok (.getfield 110, 3) := by decide +kernel
theorem d_X_way_18 : decode b_X_way 18 = .ok (.iload_n 1, 1) := by decide +kernel
theorem d_X_way_19 : decode b_X_way 19 = .ok (.iaload, 1) := by decide +kernel
theorem d_X_way_20 : decode b_X_way 20 = .ok (.goto 4, 3) := by decide +kernel
theorem d_X_way_23 : decode b_X_way 23 = .ok (.iconst (-1), 1) := by decide +kernel
theorem d_X_way_24 : decode b_X_way 24 = .ok (.ireturn, 1) := by decide +kernel
theorem d_X_home_0 : decode b_X_home 0 = .ok (.iconst 0, 1) := by decide +kernel
theorem d_X_home_1 : decode b_X_home 1 = .ok (.istore_n 1, 1) := by decide +kernel
theorem d_X_home_2 : decode b_X_home 2 = .ok (.iconst 0, 1) := by decide +kernel
theorem d_X_home_3 : decode b_X_home 3 = .ok (.istore_n 2, 1) := by decide +kernel
theorem d_X_home_4 : decode b_X_home 4 = .ok (.iload_n 2, 1) := by decide +kernel
theorem d_X_home_5 : decode b_X_home 5 = .ok (.aload_n 0, 1) := by decide +kernel
theorem d_X_home_6 : decode b_X_home 6 = .ok (.getfield 10, 3) := by decide +kernel
theorem d_X_home_9 : decode b_X_home 9 = .ok (.getfield 88, 3) := by decide +kernel
theorem d_X_home_12 : decode b_X_home 12 = .ok (.if_icmp .ge 37, 3) := by decide +kernel
theorem d_X_home_15 : decode b_X_home 15 = .ok (.aload_n 0, 1) := by decide +kernel
theorem d_X_home_16 : decode b_X_home 16 = .ok (.getfield 27, 3) := by decide +kernel
theorem d_X_home_19 : decode b_X_home 19 = .ok (.getfield 107, 3) := by decide +kernel
theorem d_X_home_22 : decode b_X_home 22 = .ok (.iload_n 2, 1) := by decide +kernel
theorem d_X_home_23 : decode b_X_home 23 = .ok (.iaload, 1) := by decide +kernel
theorem d_X_home_24 : decode b_X_home 24 = .ok (.iload_n 2, 1) := by decide +kernel
theorem d_X_home_25 : decode b_X_home 25 = .ok (.if_icmp .ne 18, 3) := by decide +kernel
theorem d_X_home_28 : decode b_X_home 28 = .ok (.aload_n 0, 1) := by decide +kernel
theorem d_X_home_29 : decode b_X_home 29 = .ok (.getfield 27, 3) := by decide +kernel
theorem d_X_home_32 : decode b_X_home 32 = .ok (.getfield 110, 3) := by decide +kernel
theorem d_X_home_35 : decode b_X_home 35 = .ok (.iload_n 2, 1) := by decide +kernel
theorem d_X_home_36 : decode b_X_home 36 = .ok (.iaload, 1) := by decide +kernel
theorem d_X_home_37 : decode b_X_home 37 = .ok (.ifCond .ne 6, 3) := by decide +kernel
theorem d_X_home_40 : decode b_X_home 40 = .ok (.iinc 1 1, 3) := by decide +kernel
theorem d_X_home_43 : decode b_X_home 43 = .ok (.iinc 2 1, 3) := by decide +kernel
theorem d_X_home_46 : decode b_X_home 46 = .ok (.goto (-42), 3) := by decide +kernel
theorem d_X_home_49 : decode b_X_home 49 = .ok (.iload_n 1, 1) := by decide +kernel
theorem d_X_home_50 : decode b_X_home 50 = .ok (.ireturn, 1) := by decide +kernel
theorem d_X_maps_0 : decode b_X_maps 0 = .ok (.aload_n 0, 1) := by decide +kernel
theorem d_X_maps_1 : decode b_X_maps 1 = .ok (.iload_n 1, 1) := by decide +kernel
theorem d_X_maps_2 : decode b_X_maps 2 = .ok (.invokevirtual 70, 3) := by decide +kernel
theorem d_X_maps_5 : decode b_X_maps 5 = .ok (.ifCond .eq 39, 3) := by decide +kernel
theorem d_X_maps_8 : decode b_X_maps 8 = .ok (.aload_n 0, 1) := by decide +kernel
theorem d_X_maps_9 : decode b_X_maps 9 = .ok (.getfield 10, 3) := by decide +kernel
theorem d_X_maps_12 : decode b_X_maps 12 = .ok (.aload_n 0, 1) := by decide +kernel
theorem d_X_maps_13 : decode b_X_maps 13 = .ok (.getfield 16, 3) := by decide +kernel
theorem d_X_maps_16 : decode b_X_maps 16 = .ok (.iload_n 1, 1) := by decide +kernel
theorem d_X_maps_17 : decode b_X_maps 17 = .ok (.iaload, 1) := by decide +kernel
theorem d_X_maps_18 : decode b_X_maps 18 = .ok (.invokevirtual 113, 3) := by decide +kernel
theorem d_X_maps_21 : decode b_X_maps 21 = .ok (.ifCond .eq 23, 3) := by decide +kernel
theorem d_X_maps_24 : decode b_X_maps 24 = .ok (.aload_n 0, 1) := by decide +kernel
theorem d_X_maps_25 : decode b_X_maps 25 = .ok (.getfield 10, 3) := by decide +kernel
theorem d_X_maps_28 : decode b_X_maps 28 = .ok (.aload_n 0, 1) := by decide +kernel
theorem d_X_maps_29 : decode b_X_maps 29 = .ok (.getfield 16, 3) := by decide +kernel
theorem d_X_maps_32 : decode b_X_maps 32 = .ok (.iload_n 1, 1) := by decide +kernel
theorem d_X_maps_33 : decode b_X_maps 33 = .ok (.iaload, 1) := by decide +kernel
theorem d_X_maps_34 : decode b_X_maps 34 = .ok (.invokevirtual 116, 3) := by decide +kernel
theorem d_X_maps_37 : decode b_X_maps 37 = .ok (.ifCond .eq 7, 3) := by decide +kernel
theorem d_X_maps_40 : decode b_X_maps 40 = .ok (.iconst 1, 1) := by decide +kernel
theorem d_X_maps_41 : decode b_X_maps 41 = .ok (.goto 4, 3) := by decide +kernel
theorem d_X_maps_44 : decode b_X_maps 44 = .ok (.iconst 0, 1) := by decide +kernel
theorem d_X_maps_45 : decode b_X_maps 45 = .ok (.ireturn, 1) := by decide +kernel
theorem d_X_rowsUntilBack_0 : decode b_X_rowsUntilBack 0 = .ok (.iconst 1, 1) := by decide +kernel
theorem d_X_rowsUntilBack_1 : decode b_X_rowsUntilBack 1 = .ok (.istore_n 1, 1) := by decide +kernel
theorem d_X_rowsUntilBack_2 : decode b_X_rowsUntilBack 2 = .ok (.iconst 0, 1) := by decide +kernel
theorem d_X_rowsUntilBack_3 : decode b_X_rowsUntilBack 3 = .ok (.istore_n 2, 1) := by decide +kernel
theorem d_X_rowsUntilBack_4 : decode b_X_rowsUntilBack 4 = .ok (.iload_n 2, 1) := by decide +kernel
theorem d_X_rowsUntilBack_5 : decode b_X_rowsUntilBack 5 = .ok (.aload_n 0, 1) := by decide +kernel
theorem d_X_rowsUntilBack_6 : decode b_X_rowsUntilBack 6 = .ok (.getfield 10, 3) := by decide +kernel
theorem d_X_rowsUntilBack_9 : decode b_X_rowsUntilBack 9 = .ok (.getfield 88, 3) := by decide +kernel
theorem d_X_rowsUntilBack_12 : decode b_X_rowsUntilBack 12 = .ok (.if_icmp .ge 29, 3) := by decide +kernel
theorem d_X_rowsUntilBack_15 : decode b_X_rowsUntilBack 15 = .ok (.iload_n 1, 1) := by decide +kernel
theorem d_X_rowsUntilBack_16 : decode b_X_rowsUntilBack 16 = .ok (.sipush 2000, 3) := by decide +kernel
theorem d_X_rowsUntilBack_19 : decode b_X_rowsUntilBack 19 = .ok (.if_icmp .gt 22, 3) := by decide +kernel
theorem d_X_rowsUntilBack_22 : decode b_X_rowsUntilBack 22 = .ok (.iload_n 1, 1) := by decide +kernel
theorem d_X_rowsUntilBack_23 : decode b_X_rowsUntilBack 23 = .ok (.aload_n 0, 1) := by decide +kernel
theorem d_X_rowsUntilBack_24 : decode b_X_rowsUntilBack 24 = .ok (.getfield 31, 3) := by decide +kernel
theorem d_X_rowsUntilBack_27 : decode b_X_rowsUntilBack 27 = .ok (.iload_n 2, 1) := by decide +kernel
theorem d_X_rowsUntilBack_28 : decode b_X_rowsUntilBack 28 = .ok (.invokevirtual 133, 3) := by decide +kernel
theorem d_X_rowsUntilBack_31 : decode b_X_rowsUntilBack 31 = .ok (.invokestatic 136, 3) := by decide +kernel
theorem d_X_rowsUntilBack_34 : decode b_X_rowsUntilBack 34 = .ok (.istore_n 1, 1) := by decide +kernel
theorem d_X_rowsUntilBack_35 : decode b_X_rowsUntilBack 35 = .ok (.iinc 2 1, 3) := by decide +kernel
theorem d_X_rowsUntilBack_38 : decode b_X_rowsUntilBack 38 = .ok (.goto (-34), 3) := by decide +kernel
theorem d_X_rowsUntilBack_41 : decode b_X_rowsUntilBack 41 = .ok (.iload_n 1, 1) := by decide +kernel
theorem d_X_rowsUntilBack_42 : decode b_X_rowsUntilBack 42 = .ok (.sipush 2000, 3) := by decide +kernel
theorem d_X_rowsUntilBack_45 : decode b_X_rowsUntilBack 45 = .ok (.if_icmp .gt 7, 3) := by decide +kernel
theorem d_X_rowsUntilBack_48 : decode b_X_rowsUntilBack 48 = .ok (.iload_n 1, 1) := by decide +kernel
theorem d_X_rowsUntilBack_49 : decode b_X_rowsUntilBack 49 = .ok (.goto 4, 3) := by decide +kernel
theorem d_X_rowsUntilBack_52 : decode b_X_rowsUntilBack 52 = .ok (.iconst (-1), 1) := by decide +kernel
theorem d_X_rowsUntilBack_53 : decode b_X_rowsUntilBack 53 = .ok (.ireturn, 1) := by decide +kernel
