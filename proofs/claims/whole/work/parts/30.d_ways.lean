theorem d_W_xGoesTo_0 : decode b_W_xGoesTo 0 = .ok (.iload_n 0, 1) := by decide +kernel
theorem d_W_xGoesTo_1 : decode b_W_xGoesTo 1 = .ok (.iconst 4, 1) := by decide +kernel
theorem d_W_xGoesTo_2 : decode b_W_xGoesTo 2 = .ok (.idiv, 1) := by decide +kernel
theorem d_W_xGoesTo_3 : decode b_W_xGoesTo 3 = .ok (.ireturn, 1) := by decide +kernel
theorem d_W_yGoesTo_0 : decode b_W_yGoesTo 0 = .ok (.iload_n 0, 1) := by decide +kernel
theorem d_W_yGoesTo_1 : decode b_W_yGoesTo 1 = .ok (.iconst 4, 1) := by decide +kernel
theorem d_W_yGoesTo_2 : decode b_W_yGoesTo 2 = .ok (.irem, 1) := by decide +kernel
theorem d_W_yGoesTo_3 : decode b_W_yGoesTo 3 = .ok (.istore_n 1, 1) := by decide +kernel
theorem d_W_yGoesTo_4 : decode b_W_yGoesTo 4 = .ok (.iload_n 0, 1) := by decide +kernel
theorem d_W_yGoesTo_5 : decode b_W_yGoesTo 5 = .ok (.invokestatic 7, 3) := by decide +kernel
theorem d_W_yGoesTo_8 : decode b_W_yGoesTo 8 = .ok (.iconst 2, 1) := by decide +kernel
theorem d_W_yGoesTo_9 : decode b_W_yGoesTo 9 = .ok (.idiv, 1) := by decide +kernel
theorem d_W_yGoesTo_10 : decode b_W_yGoesTo 10 = .ok (.iconst 2, 1) := by decide +kernel
theorem d_W_yGoesTo_11 : decode b_W_yGoesTo 11 = .ok (.imul, 1) := by decide +kernel
theorem d_W_yGoesTo_12 : decode b_W_yGoesTo 12 = .ok (.istore_n 2, 1) := by decide +kernel
theorem d_W_yGoesTo_13 : decode b_W_yGoesTo 13 = .ok (.iload_n 1, 1) := by decide +kernel
theorem d_W_yGoesTo_14 : decode b_W_yGoesTo 14 = .ok (.iload_n 2, 1) := by decide +kernel
theorem d_W_yGoesTo_15 : decode b_W_yGoesTo 15 = .ok (.if_icmp .ge 7, 3) := by decide +kernel
theorem d_W_yGoesTo_18 : decode b_W_yGoesTo 18 = .ok (.iload_n 1, 1) := by decide +kernel
theorem d_W_yGoesTo_19 : decode b_W_yGoesTo 19 = .ok (.goto 6, 3) := by decide +kernel
theorem d_W_yGoesTo_22 : decode b_W_yGoesTo 22 = .ok (.iload_n 1, 1) := by decide +kernel
theorem d_W_yGoesTo_23 : decode b_W_yGoesTo 23 = .ok (.iconst 2, 1) := by decide +kernel
theorem d_W_yGoesTo_24 : decode b_W_yGoesTo 24 = .ok (.iadd, 1) := by decide +kernel
theorem d_W_yGoesTo_25 : decode b_W_yGoesTo 25 = .ok (.ireturn, 1) := by decide +kernel
theorem d_W_zGoesTo_0 : decode b_W_zGoesTo 0 = .ok (.iload_n 0, 1) := by decide +kernel
theorem d_W_zGoesTo_1 : decode b_W_zGoesTo 1 = .ok (.invokestatic 7, 3) := by decide +kernel
theorem d_W_zGoesTo_4 : decode b_W_zGoesTo 4 = .ok (.istore_n 1, 1) := by decide +kernel
theorem d_W_zGoesTo_5 : decode b_W_zGoesTo 5 = .ok (.iload_n 0, 1) := by decide +kernel
theorem d_W_zGoesTo_6 : decode b_W_zGoesTo 6 = .ok (.invokestatic 13, 3) := by decide +kernel
theorem d_W_zGoesTo_9 : decode b_W_zGoesTo 9 = .ok (.istore_n 2, 1) := by decide +kernel
theorem d_W_zGoesTo_10 : decode b_W_zGoesTo 10 = .ok (.iconst 3, 1) := by decide +kernel
theorem d_W_zGoesTo_11 : decode b_W_zGoesTo 11 = .ok (.iload_n 1, 1) := by decide +kernel
theorem d_W_zGoesTo_12 : decode b_W_zGoesTo 12 = .ok (.iconst 2, 1) := by decide +kernel
theorem d_W_zGoesTo_13 : decode b_W_zGoesTo 13 = .ok (.idiv, 1) := by decide +kernel
theorem d_W_zGoesTo_14 : decode b_W_zGoesTo 14 = .ok (.isub, 1) := by decide +kernel
theorem d_W_zGoesTo_15 : decode b_W_zGoesTo 15 = .ok (.iload_n 2, 1) := by decide +kernel
theorem d_W_zGoesTo_16 : decode b_W_zGoesTo 16 = .ok (.iconst 2, 1) := by decide +kernel
theorem d_W_zGoesTo_17 : decode b_W_zGoesTo 17 = .ok (.idiv, 1) := by decide +kernel
theorem d_W_zGoesTo_18 : decode b_W_zGoesTo 18 = .ok (.isub, 1) := by decide +kernel
theorem d_W_zGoesTo_19 : decode b_W_zGoesTo 19 = .ok (.istore_n 3, 1) := by decide +kernel
theorem d_W_zGoesTo_20 : decode b_W_zGoesTo 20 = .ok (.iload_n 1, 1) := by decide +kernel
theorem d_W_zGoesTo_21 : decode b_W_zGoesTo 21 = .ok (.iconst 2, 1) := by decide +kernel
theorem d_W_zGoesTo_22 : decode b_W_zGoesTo 22 = .ok (.idiv, 1) := by decide +kernel
theorem d_W_zGoesTo_23 : decode b_W_zGoesTo 23 = .ok (.iconst 1, 1) := by decide +kernel
theorem d_W_zGoesTo_24 : decode b_W_zGoesTo 24 = .ok (.iadd, 1) := by decide +kernel
theorem d_W_zGoesTo_25 : decode b_W_zGoesTo 25 = .ok (.iconst 3, 1) := by decide +kernel
theorem d_W_zGoesTo_26 : decode b_W_zGoesTo 26 = .ok (.irem, 1) := by decide +kernel
theorem d_W_zGoesTo_27 : decode b_W_zGoesTo 27 = .ok (.iload_n 2, 1) := by decide +kernel
theorem d_W_zGoesTo_28 : decode b_W_zGoesTo 28 = .ok (.iconst 2, 1) := by decide +kernel
theorem d_W_zGoesTo_29 : decode b_W_zGoesTo 29 = .ok (.idiv, 1) := by decide +kernel
theorem d_W_zGoesTo_30 : decode b_W_zGoesTo 30 = .ok (.if_icmp .ne 7, 3) := by decide +kernel
theorem d_W_zGoesTo_33 : decode b_W_zGoesTo 33 = .ok (.iconst 0, 1) := by decide +kernel
theorem d_W_zGoesTo_34 : decode b_W_zGoesTo 34 = .ok (.goto 4, 3) := by decide +kernel
theorem d_W_zGoesTo_37 : decode b_W_zGoesTo 37 = .ok (.iconst 1, 1) := by decide +kernel
theorem d_W_zGoesTo_38 : decode b_W_zGoesTo 38 = .ok (.istore 4, 2) := by decide +kernel
theorem d_W_zGoesTo_40 : decode b_W_zGoesTo 40 = .ok (.iconst 2, 1) := by decide +kernel
theorem d_W_zGoesTo_41 : decode b_W_zGoesTo 41 = .ok (.iload_n 3, 1) := by decide +kernel
theorem d_W_zGoesTo_42 : decode b_W_zGoesTo 42 = .ok (.imul, 1) := by decide +kernel
theorem d_W_zGoesTo_43 : decode b_W_zGoesTo 43 = .ok (.iload_n 1, 1) := by decide +kernel
theorem d_W_zGoesTo_44 : decode b_W_zGoesTo 44 = .ok (.iload_n 2, 1) := by decide +kernel
theorem d_W_zGoesTo_45 : decode b_W_zGoesTo 45 = .ok (.iadd, 1) := by decide +kernel
theorem d_W_zGoesTo_46 : decode b_W_zGoesTo 46 = .ok (.iload 4, 2) := by decide +kernel
theorem d_W_zGoesTo_48 : decode b_W_zGoesTo 48 = .ok (.iadd, 1) := by decide +kernel
theorem d_W_zGoesTo_49 : decode b_W_zGoesTo 49 = .ok (.iconst 2, 1) := by decide +kernel
theorem d_W_zGoesTo_50 : decode b_W_zGoesTo 50 = .ok (.irem, 1) := by decide +kernel
theorem d_W_zGoesTo_51 : decode b_W_zGoesTo 51 = .ok (.iadd, 1) := by decide +kernel
theorem d_W_zGoesTo_52 : decode b_W_zGoesTo 52 = .ok (.ireturn, 1) := by decide +kernel
theorem d_W_numberOf_0 : decode b_W_numberOf 0 = .ok (.iconst 4, 1) := by decide +kernel
theorem d_W_numberOf_1 : decode b_W_numberOf 1 = .ok (.iload_n 0, 1) := by decide +kernel
theorem d_W_numberOf_2 : decode b_W_numberOf 2 = .ok (.imul, 1) := by decide +kernel
theorem d_W_numberOf_3 : decode b_W_numberOf 3 = .ok (.iload_n 1, 1) := by decide +kernel
theorem d_W_numberOf_4 : decode b_W_numberOf 4 = .ok (.iload_n 0, 1) := by decide +kernel
theorem d_W_numberOf_5 : decode b_W_numberOf 5 = .ok (.if_icmp .ge 7, 3) := by decide +kernel
theorem d_W_numberOf_8 : decode b_W_numberOf 8 = .ok (.iload_n 1, 1) := by decide +kernel
theorem d_W_numberOf_9 : decode b_W_numberOf 9 = .ok (.goto 6, 3) := by decide +kernel
theorem d_W_numberOf_12 : decode b_W_numberOf 12 = .ok (.iload_n 1, 1) := by decide +kernel
theorem d_W_numberOf_13 : decode b_W_numberOf 13 = .ok (.iconst 2, 1) := by decide +kernel
theorem d_W_numberOf_14 : decode b_W_numberOf 14 = .ok (.isub, 1) := by decide +kernel
theorem d_W_numberOf_15 : decode b_W_numberOf 15 = .ok (.iadd, 1) := by decide +kernel
theorem d_W_numberOf_16 : decode b_W_numberOf 16 = .ok (.ireturn, 1) := by decide +kernel
theorem d_W_directionTo_0 : decode b_W_directionTo 0 = .ok (.iload_n 1, 1) := by decide +kernel
theorem d_W_directionTo_1 : decode b_W_directionTo 1 = .ok (.iconst 2, 1) := by decide +kernel
theorem d_W_directionTo_2 : decode b_W_directionTo 2 = .ok (.idiv, 1) := by decide +kernel
theorem d_W_directionTo_3 : decode b_W_directionTo 3 = .ok (.istore_n 2, 1) := by decide +kernel
theorem d_W_directionTo_4 : decode b_W_directionTo 4 = .ok (.iload_n 2, 1) := by decide +kernel
theorem d_W_directionTo_5 : decode b_W_directionTo 5 = .ok (.ifCond .ne 10, 3) := by decide +kernel
theorem d_W_directionTo_8 : decode b_W_directionTo 8 = .ok (.iload_n 0, 1) := by decide +kernel
theorem d_W_directionTo_9 : decode b_W_directionTo 9 = .ok (.invokestatic 7, 3) := by decide +kernel
theorem d_W_directionTo_12 : decode b_W_directionTo 12 = .ok (.goto 19, 3) := by decide +kernel
theorem d_W_directionTo_15 : decode b_W_directionTo 15 = .ok (.iload_n 2, 1) := by decide +kernel
theorem d_W_directionTo_16 : decode b_W_directionTo 16 = .ok (.iconst 1, 1) := by decide +kernel
theorem d_W_directionTo_17 : decode b_W_directionTo 17 = .ok (.if_icmp .ne 10, 3) := by decide +kernel
theorem d_W_directionTo_20 : decode b_W_directionTo 20 = .ok (.iload_n 0, 1) := by decide +kernel
theorem d_W_directionTo_21 : decode b_W_directionTo 21 = .ok (.invokestatic 13, 3) := by decide +kernel
theorem d_W_directionTo_24 : decode b_W_directionTo 24 = .ok (.goto 7, 3) := by decide +kernel
theorem d_W_directionTo_27 : decode b_W_directionTo 27 = .ok (.iload_n 0, 1) := by decide +kernel
theorem d_W_directionTo_28 : decode b_W_directionTo 28 = .ok (.invokestatic 16, 3) := by decide +kernel
theorem d_W_directionTo_31 : decode b_W_directionTo 31 = .ok (.istore_n 3, 1) := by decide +kernel
theorem d_W_directionTo_32 : decode b_W_directionTo 32 = .ok (.iload_n 3, 1) := by decide +kernel
theorem d_W_directionTo_33 : decode b_W_directionTo 33 = .ok (.iload_n 1, 1) := by decide +kernel
theorem d_W_directionTo_34 : decode b_W_directionTo 34 = .ok (.iconst 1, 1) := by decide +kernel
theorem d_W_directionTo_35 : decode b_W_directionTo 35 = .ok (.iand, 1) := by decide +kernel
theorem d_W_directionTo_36 : decode b_W_directionTo 36 = .ok (.ixor, 1) := by decide +kernel
theorem d_W_directionTo_37 : decode b_W_directionTo 37 = .ok (.ireturn, 1) := by decide +kernel
theorem d_W_compose_0 : decode b_W_compose 0 = .ok (.iload_n 0, 1) := by decide +kernel
theorem d_W_compose_1 : decode b_W_compose 1 = .ok (.iload_n 1, 1) := by decide +kernel
theorem d_W_compose_2 : decode b_W_compose 2 = .ok (.invokestatic 7, 3) := by decide +kernel
theorem d_W_compose_5 : decode b_W_compose 5 = .ok (.invokestatic 19, 3) := by decide +kernel
theorem d_W_compose_8 : decode b_W_compose 8 = .ok (.iload_n 0, 1) := by decide +kernel
theorem d_W_compose_9 : decode b_W_compose 9 = .ok (.iload_n 1, 1) := by decide +kernel
theorem d_W_compose_10 : decode b_W_compose 10 = .ok (.invokestatic 13, 3) := by decide +kernel
theorem d_W_compose_13 : decode b_W_compose 13 = .ok (.invokestatic 19, 3) := by decide +kernel
theorem d_W_compose_16 : decode b_W_compose 16 = .ok (.invokestatic 23, 3) := by decide +kernel
theorem d_W_compose_19 : decode b_W_compose 19 = .ok (.ireturn, 1) := by decide +kernel
theorem d_W_orderOf_0 : decode b_W_orderOf 0 = .ok (.iload_n 0, 1) := by decide +kernel
theorem d_W_orderOf_1 : decode b_W_orderOf 1 = .ok (.istore_n 1, 1) := by decide +kernel
theorem d_W_orderOf_2 : decode b_W_orderOf 2 = .ok (.iconst 1, 1) := by decide +kernel
theorem d_W_orderOf_3 : decode b_W_orderOf 3 = .ok (.istore_n 2, 1) := by decide +kernel
theorem d_W_orderOf_4 : decode b_W_orderOf 4 = .ok (.iload_n 1, 1) := by decide +kernel
theorem d_W_orderOf_5 : decode b_W_orderOf 5 = .ok (.ifCond .eq 20, 3) := by decide +kernel
theorem d_W_orderOf_8 : decode b_W_orderOf 8 = .ok (.iload_n 2, 1) := by decide +kernel
theorem d_W_orderOf_9 : decode b_W_orderOf 9 = .ok (.iconst 4, 1) := by decide +kernel
theorem d_W_orderOf_10 : decode b_W_orderOf 10 = .ok (.if_icmp .ge 15, 3) := by decide +kernel
theorem d_W_orderOf_13 : decode b_W_orderOf 13 = .ok (.iload_n 0, 1) := by decide +kernel
theorem d_W_orderOf_14 : decode b_W_orderOf 14 = .ok (.iload_n 1, 1) := by decide +kernel
theorem d_W_orderOf_15 : decode b_W_orderOf 15 = .ok (.invokestatic 26, 3) := by decide +kernel
theorem d_W_orderOf_18 : decode b_W_orderOf 18 = .ok (.istore_n 1, 1) := by decide +kernel
theorem d_W_orderOf_19 : decode b_W_orderOf 19 = .ok (.iinc 2 1, 3) := by decide +kernel
theorem d_W_orderOf_22 : decode b_W_orderOf 22 = .ok (.goto (-18), 3) := by decide +kernel
theorem d_W_orderOf_25 : decode b_W_orderOf 25 = .ok (.iload_n 2, 1) := by decide +kernel
theorem d_W_orderOf_26 : decode b_W_orderOf 26 = .ok (.ireturn, 1) := by decide +kernel
theorem d_W_part_0 : decode b_W_part 0 = .ok (.iload_n 0, 1) := by decide +kernel
theorem d_W_part_1 : decode b_W_part 1 = .ok (.iconst 2, 1) := by decide +kernel
theorem d_W_part_2 : decode b_W_part 2 = .ok (.idiv, 1) := by decide +kernel
theorem d_W_part_3 : decode b_W_part 3 = .ok (.iload_n 1, 1) := by decide +kernel
theorem d_W_part_4 : decode b_W_part 4 = .ok (.if_icmp .eq 5, 3) := by decide +kernel
theorem d_W_part_7 : decode b_W_part 7 = .ok (.iconst 0, 1) := by decide +kernel
theorem d_W_part_8 : decode b_W_part 8 = .ok (.ireturn, 1) := by decide +kernel
theorem d_W_part_9 : decode b_W_part 9 = .ok (.iload_n 0, 1) := by decide +kernel
theorem d_W_part_10 : decode b_W_part 10 = .ok (.iconst 2, 1) := by decide +kernel
theorem d_W_part_11 : decode b_W_part 11 = .ok (.irem, 1) := by decide +kernel
theorem d_W_part_12 : decode b_W_part 12 = .ok (.ifCond .ne 7, 3) := by decide +kernel
theorem d_W_part_15 : decode b_W_part 15 = .ok (.iload_n 2, 1) := by decide +kernel
theorem d_W_part_16 : decode b_W_part 16 = .ok (.goto 5, 3) := by decide +kernel
theorem d_W_part_19 : decode b_W_part 19 = .ok (.iload_n 2, 1) := by decide +kernel
theorem d_W_part_20 : decode b_W_part 20 = .ok (.ineg, 1) := by decide +kernel
theorem d_W_part_21 : decode b_W_part 21 = .ok (.ireturn, 1) := by decide +kernel
theorem d_W_coordinate_0 : decode b_W_coordinate 0 = .ok (.iload_n 0, 1) := by decide +kernel
theorem d_W_coordinate_1 : decode b_W_coordinate 1 = .ok (.invokestatic 7, 3) := by decide +kernel
theorem d_W_coordinate_4 : decode b_W_coordinate 4 = .ok (.iload_n 1, 1) := by decide +kernel
theorem d_W_coordinate_5 : decode b_W_coordinate 5 = .ok (.iload_n 2, 1) := by decide +kernel
theorem d_W_coordinate_6 : decode b_W_coordinate 6 = .ok (.invokestatic 29, 3) := by decide +kernel
theorem d_W_coordinate_9 : decode b_W_coordinate 9 = .ok (.iload_n 0, 1) := by decide +kernel
theorem d_W_coordinate_10 : decode b_W_coordinate 10 = .ok (.invokestatic 13, 3) := by decide +kernel
theorem d_W_coordinate_13 : decode b_W_coordinate 13 = .ok (.iload_n 1, 1) := by decide +kernel
theorem d_W_coordinate_14 : decode b_W_coordinate 14 = .ok (.iload_n 3, 1) := by decide +kernel
theorem d_W_coordinate_15 : decode b_W_coordinate 15 = .ok (.invokestatic 29, 3) := by decide +kernel
theorem d_W_coordinate_18 : decode b_W_coordinate 18 = .ok (.iadd, 1) := by decide +kernel
theorem d_W_coordinate_19 : decode b_W_coordinate 19 = .ok (.iload_n 0, 1) := by decide +kernel
theorem d_W_coordinate_20 : decode b_W_coordinate 20 = .ok (.invokestatic 16, 3) := by decide +kernel
theorem d_W_coordinate_23 : decode b_W_coordinate 23 = .ok (.iload_n 1, 1) := by decide +kernel
theorem d_W_coordinate_24 : decode b_W_coordinate 24 = .ok (.iload 4, 2) := by decide +kernel
theorem d_W_coordinate_26 : decode b_W_coordinate 26 = .ok (.invokestatic 29, 3) := by decide +kernel
theorem d_W_coordinate_29 : decode b_W_coordinate 29 = .ok (.iadd, 1) := by decide +kernel
theorem d_W_coordinate_30 : decode b_W_coordinate 30 = .ok (.ireturn, 1) := by decide +kernel
theorem d_W_directionOf_0 : decode b_W_directionOf 0 = .ok (.iload_n 0, 1) := by decide +kernel
theorem d_W_directionOf_1 : decode b_W_directionOf 1 = .ok (.ifCond .eq 13, 3) := by decide +kernel
theorem d_W_directionOf_4 : decode b_W_directionOf 4 = .ok (.iload_n 0, 1) := by decide +kernel
theorem d_W_directionOf_5 : decode b_W_directionOf 5 = .ok (.ifCond .le 7, 3) := by decide +kernel
theorem d_W_directionOf_8 : decode b_W_directionOf 8 = .ok (.iconst 0, 1) := by decide +kernel
theorem d_W_directionOf_9 : decode b_W_directionOf 9 = .ok (.goto 4, 3) := by decide +kernel
theorem d_W_directionOf_12 : decode b_W_directionOf 12 = .ok (.iconst 1, 1) := by decide +kernel
theorem d_W_directionOf_13 : decode b_W_directionOf 13 = .ok (.ireturn, 1) := by decide +kernel
theorem d_W_directionOf_14 : decode b_W_directionOf 14 = .ok (.iload_n 1, 1) := by decide +kernel
theorem d_W_directionOf_15 : decode b_W_directionOf 15 = .ok (.ifCond .eq 13, 3) := by decide +kernel
theorem d_W_directionOf_18 : decode b_W_directionOf 18 = .ok (.iload_n 1, 1) := by decide +kernel
theorem d_W_directionOf_19 : decode b_W_directionOf 19 = .ok (.ifCond .le 7, 3) := by decide +kernel
theorem d_W_directionOf_22 : decode b_W_directionOf 22 = .ok (.iconst 2, 1) := by decide +kernel
theorem d_W_directionOf_23 : decode b_W_directionOf 23 = .ok (.goto 4, 3) := by decide +kernel
theorem d_W_directionOf_26 : decode b_W_directionOf 26 = .ok (.iconst 3, 1) := by decide +kernel
theorem d_W_directionOf_27 : decode b_W_directionOf 27 = .ok (.ireturn, 1) := by decide +kernel
theorem d_W_directionOf_28 : decode b_W_directionOf 28 = .ok (.iload_n 2, 1) := by decide +kernel
theorem d_W_directionOf_29 : decode b_W_directionOf 29 = .ok (.ifCond .le 7, 3) := by decide +kernel
theorem d_W_directionOf_32 : decode b_W_directionOf 32 = .ok (.iconst 4, 1) := by decide +kernel
theorem d_W_directionOf_33 : decode b_W_directionOf 33 = .ok (.goto 4, 3) := by decide +kernel
theorem d_W_directionOf_36 : decode b_W_directionOf 36 = .ok (.iconst 5, 1) := by decide +kernel
theorem d_W_directionOf_37 : decode b_W_directionOf 37 = .ok (.ireturn, 1) := by decide +kernel
theorem d_W_stepAbout_0 : decode b_W_stepAbout 0 = .ok (.iload_n 0, 1) := by decide +kernel
theorem d_W_stepAbout_1 : decode b_W_stepAbout 1 = .ok (.iload_n 0, 1) := by decide +kernel
theorem d_W_stepAbout_2 : decode b_W_stepAbout 2 = .ok (.imul, 1) := by decide +kernel
theorem d_W_stepAbout_3 : decode b_W_stepAbout 3 = .ok (.iload_n 1, 1) := by decide +kernel
theorem d_W_stepAbout_4 : decode b_W_stepAbout 4 = .ok (.iload_n 1, 1) := by decide +kernel
theorem d_W_stepAbout_5 : decode b_W_stepAbout 5 = .ok (.imul, 1) := by decide +kernel
theorem d_W_stepAbout_6 : decode b_W_stepAbout 6 = .ok (.iadd, 1) := by decide +kernel
theorem d_W_stepAbout_7 : decode b_W_stepAbout 7 = .ok (.iload_n 2, 1) := by decide +kernel
theorem d_W_stepAbout_8 : decode b_W_stepAbout 8 = .ok (.iload_n 2, 1) := by decide +kernel
theorem d_W_stepAbout_9 : decode b_W_stepAbout 9 = .ok (.imul, 1) := by decide +kernel
theorem d_W_stepAbout_10 : decode b_W_stepAbout 10 = .ok (.iadd, 1) := by decide +kernel
theorem d_W_stepAbout_11 : decode b_W_stepAbout 11 = .ok (.istore_n 3, 1) := by decide +kernel
theorem d_W_stepAbout_12 : decode b_W_stepAbout 12 = .ok (.iload_n 3, 1) := by decide +kernel
theorem d_W_stepAbout_13 : decode b_W_stepAbout 13 = .ok (.iconst 2, 1) := by decide +kernel
theorem d_W_stepAbout_14 : decode b_W_stepAbout 14 = .ok (.if_icmp .ne 7, 3) := by decide +kernel
theorem d_W_stepAbout_17 : decode b_W_stepAbout 17 = .ok (.iconst 0, 1) := by decide +kernel
theorem d_W_stepAbout_18 : decode b_W_stepAbout 18 = .ok (.goto 4, 3) := by decide +kernel
theorem d_W_stepAbout_21 : decode b_W_stepAbout 21 = .ok (.iconst 1, 1) := by decide +kernel
theorem d_W_stepAbout_22 : decode b_W_stepAbout 22 = .ok (.istore 4, 2) := by decide +kernel
theorem d_W_stepAbout_24 : decode b_W_stepAbout 24 = .ok (.iload_n 3, 1) := by decide +kernel
theorem d_W_stepAbout_25 : decode b_W_stepAbout 25 = .ok (.iconst 1, 1) := by decide +kernel
theorem d_W_stepAbout_26 : decode b_W_stepAbout 26 = .ok (.if_icmp .ne 7, 3) := by decide +kernel
theorem d_W_stepAbout_29 : decode b_W_stepAbout 29 = .ok (.iconst 0, 1) := by decide +kernel
theorem d_W_stepAbout_30 : decode b_W_stepAbout 30 = .ok (.goto 4, 3) := by decide +kernel
theorem d_W_stepAbout_33 : decode b_W_stepAbout 33 = .ok (.iconst 1, 1) := by decide +kernel
theorem d_W_stepAbout_34 : decode b_W_stepAbout 34 = .ok (.istore 5, 2) := by decide +kernel
theorem d_W_stepAbout_36 : decode b_W_stepAbout 36 = .ok (.iload_n 3, 1) := by decide +kernel
theorem d_W_stepAbout_37 : decode b_W_stepAbout 37 = .ok (.iconst 3, 1) := by decide +kernel
theorem d_W_stepAbout_38 : decode b_W_stepAbout 38 = .ok (.if_icmp .ne 7, 3) := by decide +kernel
theorem d_W_stepAbout_41 : decode b_W_stepAbout 41 = .ok (.iconst 2, 1) := by decide +kernel
theorem d_W_stepAbout_42 : decode b_W_stepAbout 42 = .ok (.goto 4, 3) := by decide +kernel
theorem d_W_stepAbout_45 : decode b_W_stepAbout 45 = .ok (.iconst 1, 1) := by decide +kernel
theorem d_W_stepAbout_46 : decode b_W_stepAbout 46 = .ok (.istore 6, 2) := by decide +kernel
theorem d_W_stepAbout_48 : decode b_W_stepAbout 48 = .ok (.iload_n 0, 1) := by decide +kernel
theorem d_W_stepAbout_49 : decode b_W_stepAbout 49 = .ok (.iload_n 0, 1) := by decide +kernel
theorem d_W_stepAbout_50 : decode b_W_stepAbout 50 = .ok (.imul, 1) := by decide +kernel
theorem d_W_stepAbout_51 : decode b_W_stepAbout 51 = .ok (.iload 5, 2) := by decide +kernel
theorem d_W_stepAbout_53 : decode b_W_stepAbout 53 = .ok (.isub, 1) := by decide +kernel
theorem d_W_stepAbout_54 : decode b_W_stepAbout 54 = .ok (.iload 6, 2) := by decide +kernel
theorem d_W_stepAbout_56 : decode b_W_stepAbout 56 = .ok (.idiv, 1) := by decide +kernel
theorem d_W_stepAbout_57 : decode b_W_stepAbout 57 = .ok (.iload_n 0, 1) := by decide +kernel
theorem d_W_stepAbout_58 : decode b_W_stepAbout 58 = .ok (.iload_n 1, 1) := by decide +kernel
theorem d_W_stepAbout_59 : decode b_W_stepAbout 59 = .ok (.imul, 1) := by decide +kernel
theorem d_W_stepAbout_60 : decode b_W_stepAbout 60 = .ok (.iload 4, 2) := by decide +kernel
theorem d_W_stepAbout_62 : decode b_W_stepAbout 62 = .ok (.iload_n 2, 1) := by decide +kernel
theorem d_W_stepAbout_63 : decode b_W_stepAbout 63 = .ok (.imul, 1) := by decide +kernel
theorem d_W_stepAbout_64 : decode b_W_stepAbout 64 = .ok (.iadd, 1) := by decide +kernel
theorem d_W_stepAbout_65 : decode b_W_stepAbout 65 = .ok (.iload 6, 2) := by decide +kernel
theorem d_W_stepAbout_67 : decode b_W_stepAbout 67 = .ok (.idiv, 1) := by decide +kernel
theorem d_W_stepAbout_68 : decode b_W_stepAbout 68 = .ok (.iload_n 0, 1) := by decide +kernel
theorem d_W_stepAbout_69 : decode b_W_stepAbout 69 = .ok (.iload_n 2, 1) := by decide +kernel
theorem d_W_stepAbout_70 : decode b_W_stepAbout 70 = .ok (.imul, 1) := by decide +kernel
theorem d_W_stepAbout_71 : decode b_W_stepAbout 71 = .ok (.iload 4, 2) := by decide +kernel
theorem d_W_stepAbout_73 : decode b_W_stepAbout 73 = .ok (.iload_n 1, 1) := by decide +kernel
theorem d_W_stepAbout_74 : decode b_W_stepAbout 74 = .ok (.imul, 1) := by decide +kernel
theorem d_W_stepAbout_75 : decode b_W_stepAbout 75 = .ok (.isub, 1) := by decide +kernel
theorem d_W_stepAbout_76 : decode b_W_stepAbout 76 = .ok (.iload 6, 2) := by decide +kernel
theorem d_W_stepAbout_78 : decode b_W_stepAbout 78 = .ok (.idiv, 1) := by decide +kernel
theorem d_W_stepAbout_79 : decode b_W_stepAbout 79 = .ok (.invokestatic 33, 3) := by decide +kernel
theorem d_W_stepAbout_82 : decode b_W_stepAbout 82 = .ok (.istore 7, 2) := by decide +kernel
theorem d_W_stepAbout_84 : decode b_W_stepAbout 84 = .ok (.iload_n 0, 1) := by decide +kernel
theorem d_W_stepAbout_85 : decode b_W_stepAbout 85 = .ok (.iload_n 1, 1) := by decide +kernel
theorem d_W_stepAbout_86 : decode b_W_stepAbout 86 = .ok (.imul, 1) := by decide +kernel
theorem d_W_stepAbout_87 : decode b_W_stepAbout 87 = .ok (.iload 4, 2) := by decide +kernel
theorem d_W_stepAbout_89 : decode b_W_stepAbout 89 = .ok (.iload_n 2, 1) := by decide +kernel
theorem d_W_stepAbout_90 : decode b_W_stepAbout 90 = .ok (.imul, 1) := by decide +kernel
theorem d_W_stepAbout_91 : decode b_W_stepAbout 91 = .ok (.isub, 1) := by decide +kernel
theorem d_W_stepAbout_92 : decode b_W_stepAbout 92 = .ok (.iload 6, 2) := by decide +kernel
theorem d_W_stepAbout_94 : decode b_W_stepAbout 94 = .ok (.idiv, 1) := by decide +kernel
theorem d_W_stepAbout_95 : decode b_W_stepAbout 95 = .ok (.iload_n 1, 1) := by decide +kernel
theorem d_W_stepAbout_96 : decode b_W_stepAbout 96 = .ok (.iload_n 1, 1) := by decide +kernel
theorem d_W_stepAbout_97 : decode b_W_stepAbout 97 = .ok (.imul, 1) := by decide +kernel
theorem d_W_stepAbout_98 : decode b_W_stepAbout 98 = .ok (.iload 5, 2) := by decide +kernel
theorem d_W_stepAbout_100 : decode b_W_stepAbout 100 = .ok (.isub, 1) := by decide +kernel
theorem d_W_stepAbout_101 : decode b_W_stepAbout 101 = .ok (.iload 6, 2) := by decide +kernel
theorem d_W_stepAbout_103 : decode b_W_stepAbout 103 = .ok (.idiv, 1) := by decide +kernel
theorem d_W_stepAbout_104 : decode b_W_stepAbout 104 = .ok (.iload_n 1, 1) := by decide +kernel
theorem d_W_stepAbout_105 : decode b_W_stepAbout 105 = .ok (.iload_n 2, 1) := by decide +kernel
theorem d_W_stepAbout_106 : decode b_W_stepAbout 106 = .ok (.imul, 1) := by decide +kernel
theorem d_W_stepAbout_107 : decode b_W_stepAbout 107 = .ok (.iload 4, 2) := by decide +kernel
theorem d_W_stepAbout_109 : decode b_W_stepAbout 109 = .ok (.iload_n 0, 1) := by decide +kernel
theorem d_W_stepAbout_110 : decode b_W_stepAbout 110 = .ok (.imul, 1) := by decide +kernel
theorem d_W_stepAbout_111 : decode b_W_stepAbout 111 = .ok (.iadd, 1) := by decide +kernel
theorem d_W_stepAbout_112 : decode b_W_stepAbout 112 = .ok (.iload 6, 2) := by decide +kernel
theorem d_W_stepAbout_114 : decode b_W_stepAbout 114 = .ok (.idiv, 1) := by decide +kernel
theorem d_W_stepAbout_115 : decode b_W_stepAbout 115 = .ok (.invokestatic 33, 3) := by decide +kernel
theorem d_W_stepAbout_118 : decode b_W_stepAbout 118 = .ok (.istore 8, 2) := by decide +kernel
theorem d_W_stepAbout_120 : decode b_W_stepAbout 120 = .ok (.iload 7, 2) := by decide +kernel
theorem d_W_stepAbout_122 : decode b_W_stepAbout 122 = .ok (.iload 8, 2) := by decide +kernel
theorem d_W_stepAbout_124 : decode b_W_stepAbout 124 = .ok (.invokestatic 23, 3) := by decide +kernel
theorem d_W_stepAbout_127 : decode b_W_stepAbout 127 = .ok (.ireturn, 1) := by decide +kernel
