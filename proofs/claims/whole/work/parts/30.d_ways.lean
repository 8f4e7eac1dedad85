theorem d_W_xGoesTo_0 : decode b_W_xGoesTo 0 = .ok (.iload_n 0, 1) := by decide +kernel
theorem d_W_xGoesTo_1 : decode b_W_xGoesTo 1 = .ok (.iconst 4, 1) := by decide +kernel
theorem d_W_xGoesTo_2 : decode b_W_xGoesTo 2 = .ok (.idiv, 1) := by decide +kernel
theorem d_W_xGoesTo_3 : decode b_W_xGoesTo 3 = .ok (.ireturn, 1) := by decide +kernel
theorem d_W_yGoesTo_0 : decode b_W_yGoesTo 0 = .ok (.iload_n 0, 1) := by decide +kernel
theorem d_W_yGoesTo_1 : decode b_W_yGoesTo 1 = .ok (.iconst 4, 1) := by decide +kernel
theorem d_W_yGoesTo_2 : decode b_W_yGoesTo 2 = .ok (.irem, 1) := by decide +kernel
theorem d_W_yGoesTo_3 : decode b_W_yGoesTo 3 = .ok (.istore_n 1, 1) := by decide +kernel
theorem d_W_yGoesTo_4 : decode b_W_yGoesTo 4 = .ok (.iload_n 0, 1) := by decide +kernel
theorem d_W_yGoesTo_5 : decode b_W_yGoesTo 5 = .ok (.bipush 8, 2) := by decide +kernel
theorem d_W_yGoesTo_7 : decode b_W_yGoesTo 7 = .ok (.idiv, 1) := by decide +kernel
theorem d_W_yGoesTo_8 : decode b_W_yGoesTo 8 = .ok (.iconst 2, 1) := by decide +kernel
theorem d_W_yGoesTo_9 : decode b_W_yGoesTo 9 = .ok (.imul, 1) := by decide +kernel
theorem d_W_yGoesTo_10 : decode b_W_yGoesTo 10 = .ok (.istore_n 2, 1) := by decide +kernel
theorem d_W_yGoesTo_11 : decode b_W_yGoesTo 11 = .ok (.iload_n 1, 1) := by decide +kernel
theorem d_W_yGoesTo_12 : decode b_W_yGoesTo 12 = .ok (.iload_n 2, 1) := by decide +kernel
theorem d_W_yGoesTo_13 : decode b_W_yGoesTo 13 = .ok (.if_icmp .ge 7, 3) := by decide +kernel
theorem d_W_yGoesTo_16 : decode b_W_yGoesTo 16 = .ok (.iload_n 1, 1) := by decide +kernel
theorem d_W_yGoesTo_17 : decode b_W_yGoesTo 17 = .ok (.goto 6, 3) := by decide +kernel
theorem d_W_yGoesTo_20 : decode b_W_yGoesTo 20 = .ok (.iload_n 1, 1) := by decide +kernel
theorem d_W_yGoesTo_21 : decode b_W_yGoesTo 21 = .ok (.iconst 2, 1) := by decide +kernel
theorem d_W_yGoesTo_22 : decode b_W_yGoesTo 22 = .ok (.iadd, 1) := by decide +kernel
theorem d_W_yGoesTo_23 : decode b_W_yGoesTo 23 = .ok (.ireturn, 1) := by decide +kernel
theorem d_W_across_0 : decode b_W_across 0 = .ok (.iconst 3, 1) := by decide +kernel
theorem d_W_across_1 : decode b_W_across 1 = .ok (.iload_n 0, 1) := by decide +kernel
theorem d_W_across_2 : decode b_W_across 2 = .ok (.iconst 2, 1) := by decide +kernel
theorem d_W_across_3 : decode b_W_across 3 = .ok (.idiv, 1) := by decide +kernel
theorem d_W_across_4 : decode b_W_across 4 = .ok (.isub, 1) := by decide +kernel
theorem d_W_across_5 : decode b_W_across 5 = .ok (.iload_n 1, 1) := by decide +kernel
theorem d_W_across_6 : decode b_W_across 6 = .ok (.iconst 2, 1) := by decide +kernel
theorem d_W_across_7 : decode b_W_across 7 = .ok (.idiv, 1) := by decide +kernel
theorem d_W_across_8 : decode b_W_across 8 = .ok (.isub, 1) := by decide +kernel
theorem d_W_across_9 : decode b_W_across 9 = .ok (.istore_n 2, 1) := by decide +kernel
theorem d_W_across_10 : decode b_W_across 10 = .ok (.iload_n 0, 1) := by decide +kernel
theorem d_W_across_11 : decode b_W_across 11 = .ok (.iconst 2, 1) := by decide +kernel
theorem d_W_across_12 : decode b_W_across 12 = .ok (.idiv, 1) := by decide +kernel
theorem d_W_across_13 : decode b_W_across 13 = .ok (.iconst 1, 1) := by decide +kernel
theorem d_W_across_14 : decode b_W_across 14 = .ok (.iadd, 1) := by decide +kernel
theorem d_W_across_15 : decode b_W_across 15 = .ok (.iconst 3, 1) := by decide +kernel
theorem d_W_across_16 : decode b_W_across 16 = .ok (.irem, 1) := by decide +kernel
theorem d_W_across_17 : decode b_W_across 17 = .ok (.iload_n 1, 1) := by decide +kernel
theorem d_W_across_18 : decode b_W_across 18 = .ok (.iconst 2, 1) := by decide +kernel
theorem d_W_across_19 : decode b_W_across 19 = .ok (.idiv, 1) := by decide +kernel
theorem d_W_across_20 : decode b_W_across 20 = .ok (.if_icmp .ne 7, 3) := by decide +kernel
theorem d_W_across_23 : decode b_W_across 23 = .ok (.iconst 0, 1) := by decide +kernel
theorem d_W_across_24 : decode b_W_across 24 = .ok (.goto 4, 3) := by decide +kernel
theorem d_W_across_27 : decode b_W_across 27 = .ok (.iconst 1, 1) := by decide +kernel
theorem d_W_across_28 : decode b_W_across 28 = .ok (.istore_n 3, 1) := by decide +kernel
theorem d_W_across_29 : decode b_W_across 29 = .ok (.iconst 2, 1) := by decide +kernel
theorem d_W_across_30 : decode b_W_across 30 = .ok (.iload_n 2, 1) := by decide +kernel
theorem d_W_across_31 : decode b_W_across 31 = .ok (.imul, 1) := by decide +kernel
theorem d_W_across_32 : decode b_W_across 32 = .ok (.iload_n 0, 1) := by decide +kernel
theorem d_W_across_33 : decode b_W_across 33 = .ok (.iload_n 1, 1) := by decide +kernel
theorem d_W_across_34 : decode b_W_across 34 = .ok (.iadd, 1) := by decide +kernel
theorem d_W_across_35 : decode b_W_across 35 = .ok (.iload_n 3, 1) := by decide +kernel
theorem d_W_across_36 : decode b_W_across 36 = .ok (.iadd, 1) := by decide +kernel
theorem d_W_across_37 : decode b_W_across 37 = .ok (.iconst 2, 1) := by decide +kernel
theorem d_W_across_38 : decode b_W_across 38 = .ok (.irem, 1) := by decide +kernel
theorem d_W_across_39 : decode b_W_across 39 = .ok (.iadd, 1) := by decide +kernel
theorem d_W_across_40 : decode b_W_across 40 = .ok (.ireturn, 1) := by decide +kernel
theorem d_W_numberOf_0 : decode b_W_numberOf 0 = .ok (.iconst 4, 1) := by decide +kernel
theorem d_W_numberOf_1 : decode b_W_numberOf 1 = .ok (.iload_n 0, 1) := by decide +kernel
theorem d_W_numberOf_2 : decode b_W_numberOf 2 = .ok (.imul, 1) := by decide +kernel
theorem d_W_numberOf_3 : decode b_W_numberOf 3 = .ok (.iload_n 1, 1) := by decide +kernel
theorem d_W_numberOf_4 : decode b_W_numberOf 4 = .ok (.iload_n 0, 1) := by decide +kernel
theorem d_W_numberOf_5 : decode b_W_numberOf 5 = .ok (.if_icmp .ge 7, 3) := by decide +kernel
theorem d_W_numberOf_8 : decode b_W_numberOf 8 = .ok (.iload_n 1, 1) := by decide +kernel
theorem d_W_numberOf_9 : decode b_W_numberOf 9 = .ok (.goto 6, 3) := by decide +kernel
theorem d_W_numberOf_12 : decode b_W_numberOf 12 = .ok (.iload_n 1, 1) := by decide +kernel
theorem d_W_numberOf_13 : decode b_W_numberOf 13 = .ok (.iconst 2, 1) := by decide +kernel
theorem d_W_numberOf_14 : decode b_W_numberOf 14 = .ok (.isub, 1) := by decide +kernel
theorem d_W_numberOf_15 : decode b_W_numberOf 15 = .ok (.iadd, 1) := by decide +kernel
theorem d_W_numberOf_16 : decode b_W_numberOf 16 = .ok (.ireturn, 1) := by decide +kernel
theorem d_W_directionTo_0 : decode b_W_directionTo 0 = .ok (.iload_n 1, 1) := by decide +kernel
theorem d_W_directionTo_1 : decode b_W_directionTo 1 = .ok (.iconst 2, 1) := by decide +kernel
theorem d_W_directionTo_2 : decode b_W_directionTo 2 = .ok (.idiv, 1) := by decide +kernel
theorem d_W_directionTo_3 : decode b_W_directionTo 3 = .ok (.istore_n 2, 1) := by decide +kernel
theorem d_W_directionTo_4 : decode b_W_directionTo 4 = .ok (.iload_n 0, 1) := by decide +kernel
theorem d_W_directionTo_5 : decode b_W_directionTo 5 = .ok (.invokestatic 7, 3) := by decide +kernel
theorem d_W_directionTo_8 : decode b_W_directionTo 8 = .ok (.istore_n 3, 1) := by decide +kernel
theorem d_W_directionTo_9 : decode b_W_directionTo 9 = .ok (.iload_n 0, 1) := by decide +kernel
theorem d_W_directionTo_10 : decode b_W_directionTo 10 = .ok (.invokestatic 13, 3) := by decide +kernel
theorem d_W_directionTo_13 : decode b_W_directionTo 13 = .ok (.istore 4, 2) := by decide +kernel
theorem d_W_directionTo_15 : decode b_W_directionTo 15 = .ok (.iload_n 2, 1) := by decide +kernel
theorem d_W_directionTo_16 : decode b_W_directionTo 16 = .ok (.ifCond .ne 7, 3) := by decide +kernel
theorem d_W_directionTo_19 : decode b_W_directionTo 19 = .ok (.iload_n 3, 1) := by decide +kernel
theorem d_W_directionTo_20 : decode b_W_directionTo 20 = .ok (.goto 19, 3) := by decide +kernel
theorem d_W_directionTo_23 : decode b_W_directionTo 23 = .ok (.iload_n 2, 1) := by decide +kernel
theorem d_W_directionTo_24 : decode b_W_directionTo 24 = .ok (.iconst 1, 1) := by decide +kernel
theorem d_W_directionTo_25 : decode b_W_directionTo 25 = .ok (.if_icmp .ne 8, 3) := by decide +kernel
theorem d_W_directionTo_28 : decode b_W_directionTo 28 = .ok (.iload 4, 2) := by decide +kernel
theorem d_W_directionTo_30 : decode b_W_directionTo 30 = .ok (.goto 9, 3) := by decide +kernel
theorem d_W_directionTo_33 : decode b_W_directionTo 33 = .ok (.iload_n 3, 1) := by decide +kernel
theorem d_W_directionTo_34 : decode b_W_directionTo 34 = .ok (.iload 4, 2) := by decide +kernel
theorem d_W_directionTo_36 : decode b_W_directionTo 36 = .ok (.invokestatic 16, 3) := by decide +kernel
theorem d_W_directionTo_39 : decode b_W_directionTo 39 = .ok (.istore 5, 2) := by decide +kernel
theorem d_W_directionTo_41 : decode b_W_directionTo 41 = .ok (.iload 5, 2) := by decide +kernel
theorem d_W_directionTo_43 : decode b_W_directionTo 43 = .ok (.iload_n 1, 1) := by decide +kernel
theorem d_W_directionTo_44 : decode b_W_directionTo 44 = .ok (.iconst 1, 1) := by decide +kernel
theorem d_W_directionTo_45 : decode b_W_directionTo 45 = .ok (.iand, 1) := by decide +kernel
theorem d_W_directionTo_46 : decode b_W_directionTo 46 = .ok (.ixor, 1) := by decide +kernel
theorem d_W_directionTo_47 : decode b_W_directionTo 47 = .ok (.ireturn, 1) := by decide +kernel
theorem d_W_compose_0 : decode b_W_compose 0 = .ok (.iload_n 0, 1) := by decide +kernel
theorem d_W_compose_1 : decode b_W_compose 1 = .ok (.iload_n 1, 1) := by decide +kernel
theorem d_W_compose_2 : decode b_W_compose 2 = .ok (.invokestatic 7, 3) := by decide +kernel
theorem d_W_compose_5 : decode b_W_compose 5 = .ok (.invokestatic 20, 3) := by decide +kernel
theorem d_W_compose_8 : decode b_W_compose 8 = .ok (.iload_n 0, 1) := by decide +kernel
theorem d_W_compose_9 : decode b_W_compose 9 = .ok (.iload_n 1, 1) := by decide +kernel
theorem d_W_compose_10 : decode b_W_compose 10 = .ok (.invokestatic 13, 3) := by decide +kernel
theorem d_W_compose_13 : decode b_W_compose 13 = .ok (.invokestatic 20, 3) := by decide +kernel
theorem d_W_compose_16 : decode b_W_compose 16 = .ok (.invokestatic 23, 3) := by decide +kernel
theorem d_W_compose_19 : decode b_W_compose 19 = .ok (.ireturn, 1) := by decide +kernel
theorem d_W_orderOf_0 : decode b_W_orderOf 0 = .ok (.iload_n 0, 1) := by decide +kernel
theorem d_W_orderOf_1 : decode b_W_orderOf 1 = .ok (.istore_n 1, 1) := by decide +kernel
theorem d_W_orderOf_2 : decode b_W_orderOf 2 = .ok (.iconst 1, 1) := by decide +kernel
theorem d_W_orderOf_3 : decode b_W_orderOf 3 = .ok (.istore_n 2, 1) := by decide +kernel
theorem d_W_orderOf_4 : decode b_W_orderOf 4 = .ok (.iload_n 1, 1) := by decide +kernel
theorem d_W_orderOf_5 : decode b_W_orderOf 5 = .ok (.ifCond .eq 20, 3) := by decide +kernel
theorem d_W_orderOf_8 : decode b_W_orderOf 8 = .ok (.iload_n 2, 1) := by decide +kernel
theorem d_W_orderOf_9 : decode b_W_orderOf 9 = .ok (.iconst 4, 1) := by decide +kernel
theorem d_W_orderOf_10 : decode b_W_orderOf 10 = .ok (.if_icmp .ge 15, 3) := by decide +kernel
theorem d_W_orderOf_13 : decode b_W_orderOf 13 = .ok (.iload_n 0, 1) := by decide +kernel
theorem d_W_orderOf_14 : decode b_W_orderOf 14 = .ok (.iload_n 1, 1) := by decide +kernel
theorem d_W_orderOf_15 : decode b_W_orderOf 15 = .ok (.invokestatic 26, 3) := by decide +kernel
theorem d_W_orderOf_18 : decode b_W_orderOf 18 = .ok (.istore_n 1, 1) := by decide +kernel
theorem d_W_orderOf_19 : decode b_W_orderOf 19 = .ok (.iinc 2 1, 3) := by decide +kernel
theorem d_W_orderOf_22 : decode b_W_orderOf 22 = .ok (.goto (-18), 3) := by decide +kernel
theorem d_W_orderOf_25 : decode b_W_orderOf 25 = .ok (.iload_n 2, 1) := by decide +kernel
theorem d_W_orderOf_26 : decode b_W_orderOf 26 = .ok (.ireturn, 1) := by decide +kernel
theorem d_W_part_0 : decode b_W_part 0 = .ok (.iload_n 0, 1) := by decide +kernel
theorem d_W_part_1 : decode b_W_part 1 = .ok (.iconst 2, 1) := by decide +kernel
theorem d_W_part_2 : decode b_W_part 2 = .ok (.idiv, 1) := by decide +kernel
theorem d_W_part_3 : decode b_W_part 3 = .ok (.iload_n 1, 1) := by decide +kernel
theorem d_W_part_4 : decode b_W_part 4 = .ok (.if_icmp .eq 5, 3) := by decide +kernel
theorem d_W_part_7 : decode b_W_part 7 = .ok (.iconst 0, 1) := by decide +kernel
theorem d_W_part_8 : decode b_W_part 8 = .ok (.ireturn, 1) := by decide +kernel
theorem d_W_part_9 : decode b_W_part 9 = .ok (.iload_n 0, 1) := by decide +kernel
theorem d_W_part_10 : decode b_W_part 10 = .ok (.iconst 2, 1) := by decide +kernel
theorem d_W_part_11 : decode b_W_part 11 = .ok (.irem, 1) := by decide +kernel
theorem d_W_part_12 : decode b_W_part 12 = .ok (.ifCond .ne 7, 3) := by decide +kernel
theorem d_W_part_15 : decode b_W_part 15 = .ok (.iload_n 2, 1) := by decide +kernel
theorem d_W_part_16 : decode b_W_part 16 = .ok (.goto 5, 3) := by decide +kernel
theorem d_W_part_19 : decode b_W_part 19 = .ok (.iload_n 2, 1) := by decide +kernel
theorem d_W_part_20 : decode b_W_part 20 = .ok (.ineg, 1) := by decide +kernel
theorem d_W_part_21 : decode b_W_part 21 = .ok (.ireturn, 1) := by decide +kernel
theorem d_W_coordinate_0 : decode b_W_coordinate 0 = .ok (.iload_n 0, 1) := by decide +kernel
theorem d_W_coordinate_1 : decode b_W_coordinate 1 = .ok (.invokestatic 7, 3) := by decide +kernel
theorem d_W_coordinate_4 : decode b_W_coordinate 4 = .ok (.istore 5, 2) := by decide +kernel
theorem d_W_coordinate_6 : decode b_W_coordinate 6 = .ok (.iload_n 0, 1) := by decide +kernel
theorem d_W_coordinate_7 : decode b_W_coordinate 7 = .ok (.invokestatic 13, 3) := by decide +kernel
theorem d_W_coordinate_10 : decode b_W_coordinate 10 = .ok (.istore 6, 2) := by decide +kernel
theorem d_W_coordinate_12 : decode b_W_coordinate 12 = .ok (.iload 5, 2) := by decide +kernel
theorem d_W_coordinate_14 : decode b_W_coordinate 14 = .ok (.iload_n 1, 1) := by decide +kernel
theorem d_W_coordinate_15 : decode b_W_coordinate 15 = .ok (.iload_n 2, 1) := by decide +kernel
theorem d_W_coordinate_16 : decode b_W_coordinate 16 = .ok (.invokestatic 29, 3) := by decide +kernel
theorem d_W_coordinate_19 : decode b_W_coordinate 19 = .ok (.iload 6, 2) := by decide +kernel
theorem d_W_coordinate_21 : decode b_W_coordinate 21 = .ok (.iload_n 1, 1) := by decide +kernel
theorem d_W_coordinate_22 : decode b_W_coordinate 22 = .ok (.iload_n 3, 1) := by decide +kernel
theorem d_W_coordinate_23 : decode b_W_coordinate 23 = .ok (.invokestatic 29, 3) := by decide +kernel
theorem d_W_coordinate_26 : decode b_W_coordinate 26 = .ok (.iadd, 1) := by decide +kernel
theorem d_W_coordinate_27 : decode b_W_coordinate 27 = .ok (.iload 5, 2) := by decide +kernel
theorem d_W_coordinate_29 : decode b_W_coordinate 29 = .ok (.iload 6, 2) := by decide +kernel
theorem d_W_coordinate_31 : decode b_W_coordinate 31 = .ok (.invokestatic 16, 3) := by decide +kernel
theorem d_W_coordinate_34 : decode b_W_coordinate 34 = .ok (.iload_n 1, 1) := by decide +kernel
theorem d_W_coordinate_35 : decode b_W_coordinate 35 = .ok (.iload 4, 2) := by decide +kernel
theorem d_W_coordinate_37 : decode b_W_coordinate 37 = .ok (.invokestatic 29, 3) := by decide +kernel
theorem d_W_coordinate_40 : decode b_W_coordinate 40 = .ok (.iadd, 1) := by decide +kernel
theorem d_W_coordinate_41 : decode b_W_coordinate 41 = .ok (.ireturn, 1) := by decide +kernel
theorem d_W_directionOf_0 : decode b_W_directionOf 0 = .ok (.iload_n 0, 1) := by decide +kernel
theorem d_W_directionOf_1 : decode b_W_directionOf 1 = .ok (.ifCond .eq 13, 3) := by decide +kernel
theorem d_W_directionOf_4 : decode b_W_directionOf 4 = .ok (.iload_n 0, 1) := by decide +kernel
theorem d_W_directionOf_5 : decode b_W_directionOf 5 = .ok (.ifCond .le 7, 3) := by decide +kernel
theorem d_W_directionOf_8 : decode b_W_directionOf 8 = .ok (.iconst 0, 1) := by decide +kernel
theorem d_W_directionOf_9 : decode b_W_directionOf 9 = .ok (.goto 4, 3) := by decide +kernel
theorem d_W_directionOf_12 : decode b_W_directionOf 12 = .ok (.iconst 1, 1) := by decide +kernel
theorem d_W_directionOf_13 : decode b_W_directionOf 13 = .ok (.ireturn, 1) := by decide +kernel
theorem d_W_directionOf_14 : decode b_W_directionOf 14 = .ok (.iload_n 1, 1) := by decide +kernel
theorem d_W_directionOf_15 : decode b_W_directionOf 15 = .ok (.ifCond .eq 13, 3) := by decide +kernel
theorem d_W_directionOf_18 : decode b_W_directionOf 18 = .ok (.iload_n 1, 1) := by decide +kernel
theorem d_W_directionOf_19 : decode b_W_directionOf 19 = .ok (.ifCond .le 7, 3) := by decide +kernel
theorem d_W_directionOf_22 : decode b_W_directionOf 22 = .ok (.iconst 2, 1) := by decide +kernel
theorem d_W_directionOf_23 : decode b_W_directionOf 23 = .ok (.goto 4, 3) := by decide +kernel
theorem d_W_directionOf_26 : decode b_W_directionOf 26 = .ok (.iconst 3, 1) := by decide +kernel
theorem d_W_directionOf_27 : decode b_W_directionOf 27 = .ok (.ireturn, 1) := by decide +kernel
theorem d_W_directionOf_28 : decode b_W_directionOf 28 = .ok (.iload_n 2, 1) := by decide +kernel
theorem d_W_directionOf_29 : decode b_W_directionOf 29 = .ok (.ifCond .le 7, 3) := by decide +kernel
theorem d_W_directionOf_32 : decode b_W_directionOf 32 = .ok (.iconst 4, 1) := by decide +kernel
theorem d_W_directionOf_33 : decode b_W_directionOf 33 = .ok (.goto 4, 3) := by decide +kernel
theorem d_W_directionOf_36 : decode b_W_directionOf 36 = .ok (.iconst 5, 1) := by decide +kernel
theorem d_W_directionOf_37 : decode b_W_directionOf 37 = .ok (.ireturn, 1) := by decide +kernel
theorem d_W_stepAbout_0 : decode b_W_stepAbout 0 = .ok (.iload_n 0, 1) := by decide +kernel
theorem d_W_stepAbout_1 : decode b_W_stepAbout 1 = .ok (.iload_n 0, 1) := by decide +kernel
theorem d_W_stepAbout_2 : decode b_W_stepAbout 2 = .ok (.imul, 1) := by decide +kernel
theorem d_W_stepAbout_3 : decode b_W_stepAbout 3 = .ok (.iload_n 1, 1) := by decide +kernel
theorem d_W_stepAbout_4 : decode b_W_stepAbout 4 = .ok (.iload_n 1, 1) := by decide +kernel
theorem d_W_stepAbout_5 : decode b_W_stepAbout 5 = .ok (.imul, 1) := by decide +kernel
theorem d_W_stepAbout_6 : decode b_W_stepAbout 6 = .ok (.iadd, 1) := by decide +kernel
theorem d_W_stepAbout_7 : decode b_W_stepAbout 7 = .ok (.iload_n 2, 1) := by decide +kernel
theorem d_W_stepAbout_8 : decode b_W_stepAbout 8 = .ok (.iload_n 2, 1) := by decide +kernel
theorem d_W_stepAbout_9 : decode b_W_stepAbout 9 = .ok (.imul, 1) := by decide +kernel
theorem d_W_stepAbout_10 : decode b_W_stepAbout 10 = .ok (.iadd, 1) := by decide +kernel
theorem d_W_stepAbout_11 : decode b_W_stepAbout 11 = .ok (.istore_n 3, 1) := by decide +kernel
theorem d_W_stepAbout_12 : decode b_W_stepAbout 12 = .ok (.iload_n 3, 1) := by decide +kernel
theorem d_W_stepAbout_13 : decode b_W_stepAbout 13 = .ok (.iconst 2, 1) := by decide +kernel
theorem d_W_stepAbout_14 : decode b_W_stepAbout 14 = .ok (.if_icmp .ne 7, 3) := by decide +kernel
theorem d_W_stepAbout_17 : decode b_W_stepAbout 17 = .ok (.iconst 0, 1) := by decide +kernel
theorem d_W_stepAbout_18 : decode b_W_stepAbout 18 = .ok (.goto 4, 3) := by decide +kernel
theorem d_W_stepAbout_21 : decode b_W_stepAbout 21 = .ok (.iconst 1, 1) := by decide +kernel
theorem d_W_stepAbout_22 : decode b_W_stepAbout 22 = .ok (.istore 4, 2) := by decide +kernel
theorem d_W_stepAbout_24 : decode b_W_stepAbout 24 = .ok (.iload_n 3, 1) := by decide +kernel
theorem d_W_stepAbout_25 : decode b_W_stepAbout 25 = .ok (.iconst 1, 1) := by decide +kernel
theorem d_W_stepAbout_26 : decode b_W_stepAbout 26 = .ok (.if_icmp .ne 7, 3) := by decide +kernel
theorem d_W_stepAbout_29 : decode b_W_stepAbout 29 = .ok (.iconst 0, 1) := by decide +kernel
theorem d_W_stepAbout_30 : decode b_W_stepAbout 30 = .ok (.goto 4, 3) := by decide +kernel
theorem d_W_stepAbout_33 : decode b_W_stepAbout 33 = .ok (.iconst 1, 1) := by decide +kernel
theorem d_W_stepAbout_34 : decode b_W_stepAbout 34 = .ok (.istore 5, 2) := by decide +kernel
theorem d_W_stepAbout_36 : decode b_W_stepAbout 36 = .ok (.iload_n 0, 1) := by decide +kernel
theorem d_W_stepAbout_37 : decode b_W_stepAbout 37 = .ok (.iload_n 0, 1) := by decide +kernel
theorem d_W_stepAbout_38 : decode b_W_stepAbout 38 = .ok (.imul, 1) := by decide +kernel
theorem d_W_stepAbout_39 : decode b_W_stepAbout 39 = .ok (.iload 5, 2) := by decide +kernel
theorem d_W_stepAbout_41 : decode b_W_stepAbout 41 = .ok (.isub, 1) := by decide +kernel
theorem d_W_stepAbout_42 : decode b_W_stepAbout 42 = .ok (.iload_n 0, 1) := by decide +kernel
theorem d_W_stepAbout_43 : decode b_W_stepAbout 43 = .ok (.iload_n 1, 1) := by decide +kernel
theorem d_W_stepAbout_44 : decode b_W_stepAbout 44 = .ok (.imul, 1) := by decide +kernel
theorem d_W_stepAbout_45 : decode b_W_stepAbout 45 = .ok (.iload 4, 2) := by decide +kernel
theorem d_W_stepAbout_47 : decode b_W_stepAbout 47 = .ok (.iload_n 2, 1) := by decide +kernel
theorem d_W_stepAbout_48 : decode b_W_stepAbout 48 = .ok (.imul, 1) := by decide +kernel
theorem d_W_stepAbout_49 : decode b_W_stepAbout 49 = .ok (.iadd, 1) := by decide +kernel
theorem d_W_stepAbout_50 : decode b_W_stepAbout 50 = .ok (.iload_n 0, 1) := by decide +kernel
theorem d_W_stepAbout_51 : decode b_W_stepAbout 51 = .ok (.iload_n 2, 1) := by decide +kernel
theorem d_W_stepAbout_52 : decode b_W_stepAbout 52 = .ok (.imul, 1) := by decide +kernel
theorem d_W_stepAbout_53 : decode b_W_stepAbout 53 = .ok (.iload 4, 2) := by decide +kernel
theorem d_W_stepAbout_55 : decode b_W_stepAbout 55 = .ok (.iload_n 1, 1) := by decide +kernel
theorem d_W_stepAbout_56 : decode b_W_stepAbout 56 = .ok (.imul, 1) := by decide +kernel
theorem d_W_stepAbout_57 : decode b_W_stepAbout 57 = .ok (.isub, 1) := by decide +kernel
theorem d_W_stepAbout_58 : decode b_W_stepAbout 58 = .ok (.invokestatic 33, 3) := by decide +kernel
theorem d_W_stepAbout_61 : decode b_W_stepAbout 61 = .ok (.istore 6, 2) := by decide +kernel
theorem d_W_stepAbout_63 : decode b_W_stepAbout 63 = .ok (.iload_n 0, 1) := by decide +kernel
theorem d_W_stepAbout_64 : decode b_W_stepAbout 64 = .ok (.iload_n 1, 1) := by decide +kernel
theorem d_W_stepAbout_65 : decode b_W_stepAbout 65 = .ok (.imul, 1) := by decide +kernel
theorem d_W_stepAbout_66 : decode b_W_stepAbout 66 = .ok (.iload 4, 2) := by decide +kernel
theorem d_W_stepAbout_68 : decode b_W_stepAbout 68 = .ok (.iload_n 2, 1) := by decide +kernel
theorem d_W_stepAbout_69 : decode b_W_stepAbout 69 = .ok (.imul, 1) := by decide +kernel
theorem d_W_stepAbout_70 : decode b_W_stepAbout 70 = .ok (.isub, 1) := by decide +kernel
theorem d_W_stepAbout_71 : decode b_W_stepAbout 71 = .ok (.iload_n 1, 1) := by decide +kernel
theorem d_W_stepAbout_72 : decode b_W_stepAbout 72 = .ok (.iload_n 1, 1) := by decide +kernel
theorem d_W_stepAbout_73 : decode b_W_stepAbout 73 = .ok (.imul, 1) := by decide +kernel
theorem d_W_stepAbout_74 : decode b_W_stepAbout 74 = .ok (.iload 5, 2) := by decide +kernel
theorem d_W_stepAbout_76 : decode b_W_stepAbout 76 = .ok (.isub, 1) := by decide +kernel
theorem d_W_stepAbout_77 : decode b_W_stepAbout 77 = .ok (.iload_n 1, 1) := by decide +kernel
theorem d_W_stepAbout_78 : decode b_W_stepAbout 78 = .ok (.iload_n 2, 1) := by decide +kernel
theorem d_W_stepAbout_79 : decode b_W_stepAbout 79 = .ok (.imul, 1) := by decide +kernel
theorem d_W_stepAbout_80 : decode b_W_stepAbout 80 = .ok (.iload 4, 2) := by decide +kernel
theorem d_W_stepAbout_82 : decode b_W_stepAbout 82 = .ok (.iload_n 0, 1) := by decide +kernel
theorem d_W_stepAbout_83 : decode b_W_stepAbout 83 = .ok (.imul, 1) := by decide +kernel
theorem d_W_stepAbout_84 : decode b_W_stepAbout 84 = .ok (.iadd, 1) := by decide +kernel
theorem d_W_stepAbout_85 : decode b_W_stepAbout 85 = .ok (.invokestatic 33, 3) := by decide +kernel
theorem d_W_stepAbout_88 : decode b_W_stepAbout 88 = .ok (.istore 7, 2) := by decide +kernel
theorem d_W_stepAbout_90 : decode b_W_stepAbout 90 = .ok (.iload 6, 2) := by decide +kernel
theorem d_W_stepAbout_92 : decode b_W_stepAbout 92 = .ok (.iload 7, 2) := by decide +kernel
theorem d_W_stepAbout_94 : decode b_W_stepAbout 94 = .ok (.invokestatic 23, 3) := by decide +kernel
theorem d_W_stepAbout_97 : decode b_W_stepAbout 97 = .ok (.ireturn, 1) := by decide +kernel
