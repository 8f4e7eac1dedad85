theorem d_M_isSmall_0 : decode b_M_isSmall 0 = .ok (.iload_n 0, 1) := by decide +kernel
theorem d_M_isSmall_1 : decode b_M_isSmall 1 = .ok (.bipush (-9), 2) := by decide +kernel
theorem d_M_isSmall_3 : decode b_M_isSmall 3 = .ok (.if_icmp .lt 13, 3) := by decide +kernel
theorem d_M_isSmall_6 : decode b_M_isSmall 6 = .ok (.iload_n 0, 1) := by decide +kernel
theorem d_M_isSmall_7 : decode b_M_isSmall 7 = .ok (.bipush 9, 2) := by decide +kernel
theorem d_M_isSmall_9 : decode b_M_isSmall 9 = .ok (.if_icmp .gt 7, 3) := by decide +kernel
theorem d_M_isSmall_12 : decode b_M_isSmall 12 = .ok (.iconst 1, 1) := by decide +kernel
theorem d_M_isSmall_13 : decode b_M_isSmall 13 = .ok (.goto 4, 3) := by decide +kernel
theorem d_M_isSmall_16 : decode b_M_isSmall 16 = .ok (.iconst 0, 1) := by decide +kernel
theorem d_M_isSmall_17 : decode b_M_isSmall 17 = .ok (.ireturn, 1) := by decide +kernel
theorem d_M_isArrow_0 : decode b_M_isArrow 0 = .ok (.iload_n 0, 1) := by decide +kernel
theorem d_M_isArrow_1 : decode b_M_isArrow 1 = .ok (.iconst (-1), 1) := by decide +kernel
theorem d_M_isArrow_2 : decode b_M_isArrow 2 = .ok (.if_icmp .lt 12, 3) := by decide +kernel
theorem d_M_isArrow_5 : decode b_M_isArrow 5 = .ok (.iload_n 0, 1) := by decide +kernel
theorem d_M_isArrow_6 : decode b_M_isArrow 6 = .ok (.iconst 1, 1) := by decide +kernel
theorem d_M_isArrow_7 : decode b_M_isArrow 7 = .ok (.if_icmp .gt 7, 3) := by decide +kernel
theorem d_M_isArrow_10 : decode b_M_isArrow 10 = .ok (.iconst 1, 1) := by decide +kernel
theorem d_M_isArrow_11 : decode b_M_isArrow 11 = .ok (.goto 4, 3) := by decide +kernel
theorem d_M_isArrow_14 : decode b_M_isArrow 14 = .ok (.iconst 0, 1) := by decide +kernel
theorem d_M_isArrow_15 : decode b_M_isArrow 15 = .ok (.ireturn, 1) := by decide +kernel
theorem d_M_arrow_0 : decode b_M_arrow 0 = .ok (.iload_n 0, 1) := by decide +kernel
theorem d_M_arrow_1 : decode b_M_arrow 1 = .ok (.iconst 2, 1) := by decide +kernel
theorem d_M_arrow_2 : decode b_M_arrow 2 = .ok (.idiv, 1) := by decide +kernel
theorem d_M_arrow_3 : decode b_M_arrow 3 = .ok (.iload_n 1, 1) := by decide +kernel
theorem d_M_arrow_4 : decode b_M_arrow 4 = .ok (.if_icmp .ne 17, 3) := by decide +kernel
theorem d_M_arrow_7 : decode b_M_arrow 7 = .ok (.iload_n 0, 1) := by decide +kernel
theorem d_M_arrow_8 : decode b_M_arrow 8 = .ok (.iconst 2, 1) := by decide +kernel
theorem d_M_arrow_9 : decode b_M_arrow 9 = .ok (.irem, 1) := by decide +kernel
theorem d_M_arrow_10 : decode b_M_arrow 10 = .ok (.ifCond .ne 7, 3) := by decide +kernel
theorem d_M_arrow_13 : decode b_M_arrow 13 = .ok (.iconst 1, 1) := by decide +kernel
theorem d_M_arrow_14 : decode b_M_arrow 14 = .ok (.goto 8, 3) := by decide +kernel
theorem d_M_arrow_17 : decode b_M_arrow 17 = .ok (.iconst (-1), 1) := by decide +kernel
theorem d_M_arrow_18 : decode b_M_arrow 18 = .ok (.goto 4, 3) := by decide +kernel
theorem d_M_arrow_21 : decode b_M_arrow 21 = .ok (.iconst 0, 1) := by decide +kernel
theorem d_M_arrow_22 : decode b_M_arrow 22 = .ok (.ireturn, 1) := by decide +kernel
theorem d_M_arrowOf_0 : decode b_M_arrowOf 0 = .ok (.iload_n 0, 1) := by decide +kernel
theorem d_M_arrowOf_1 : decode b_M_arrowOf 1 = .ok (.ifCond .eq 15, 3) := by decide +kernel
theorem d_M_arrowOf_4 : decode b_M_arrowOf 4 = .ok (.iload_n 0, 1) := by decide +kernel
theorem d_M_arrowOf_5 : decode b_M_arrowOf 5 = .ok (.ifCond .le 7, 3) := by decide +kernel
theorem d_M_arrowOf_8 : decode b_M_arrowOf 8 = .ok (.iconst 0, 1) := by decide +kernel
theorem d_M_arrowOf_9 : decode b_M_arrowOf 9 = .ok (.goto 32, 3) := by decide +kernel
theorem d_M_arrowOf_12 : decode b_M_arrowOf 12 = .ok (.iconst 1, 1) := by decide +kernel
theorem d_M_arrowOf_13 : decode b_M_arrowOf 13 = .ok (.goto 28, 3) := by decide +kernel
theorem d_M_arrowOf_16 : decode b_M_arrowOf 16 = .ok (.iload_n 1, 1) := by decide +kernel
theorem d_M_arrowOf_17 : decode b_M_arrowOf 17 = .ok (.ifCond .eq 15, 3) := by decide +kernel
theorem d_M_arrowOf_20 : decode b_M_arrowOf 20 = .ok (.iload_n 1, 1) := by decide +kernel
theorem d_M_arrowOf_21 : decode b_M_arrowOf 21 = .ok (.ifCond .le 7, 3) := by decide +kernel
theorem d_M_arrowOf_24 : decode b_M_arrowOf 24 = .ok (.iconst 2, 1) := by decide +kernel
theorem d_M_arrowOf_25 : decode b_M_arrowOf 25 = .ok (.goto 16, 3) := by decide +kernel
theorem d_M_arrowOf_28 : decode b_M_arrowOf 28 = .ok (.iconst 3, 1) := by decide +kernel
theorem d_M_arrowOf_29 : decode b_M_arrowOf 29 = .ok (.goto 12, 3) := by decide +kernel
theorem d_M_arrowOf_32 : decode b_M_arrowOf 32 = .ok (.iload_n 2, 1) := by decide +kernel
theorem d_M_arrowOf_33 : decode b_M_arrowOf 33 = .ok (.ifCond .le 7, 3) := by decide +kernel
theorem d_M_arrowOf_36 : decode b_M_arrowOf 36 = .ok (.iconst 4, 1) := by decide +kernel
theorem d_M_arrowOf_37 : decode b_M_arrowOf 37 = .ok (.goto 4, 3) := by decide +kernel
theorem d_M_arrowOf_40 : decode b_M_arrowOf 40 = .ok (.iconst 5, 1) := by decide +kernel
theorem d_M_arrowOf_41 : decode b_M_arrowOf 41 = .ok (.ireturn, 1) := by decide +kernel
theorem d_M_wayOf_0 : decode b_M_wayOf 0 = .ok (.iconst 0, 1) := by decide +kernel
theorem d_M_wayOf_1 : decode b_M_wayOf 1 = .ok (.istore_n 2, 1) := by decide +kernel
theorem d_M_wayOf_2 : decode b_M_wayOf 2 = .ok (.iconst 0, 1) := by decide +kernel
theorem d_M_wayOf_3 : decode b_M_wayOf 3 = .ok (.istore_n 3, 1) := by decide +kernel
theorem d_M_wayOf_4 : decode b_M_wayOf 4 = .ok (.iload_n 3, 1) := by decide +kernel
theorem d_M_wayOf_5 : decode b_M_wayOf 5 = .ok (.iload_n 1, 1) := by decide +kernel
theorem d_M_wayOf_6 : decode b_M_wayOf 6 = .ok (.if_icmp .ge 26, 3) := by decide +kernel
theorem d_M_wayOf_9 : decode b_M_wayOf 9 = .ok (.iload_n 2, 1) := by decide +kernel
theorem d_M_wayOf_10 : decode b_M_wayOf 10 = .ok (.iload_n 3, 1) := by decide +kernel
theorem d_M_wayOf_11 : decode b_M_wayOf 11 = .ok (.iconst 2, 1) := by decide +kernel
theorem d_M_wayOf_12 : decode b_M_wayOf 12 = .ok (.idiv, 1) := by decide +kernel
theorem d_M_wayOf_13 : decode b_M_wayOf 13 = .ok (.iload_n 0, 1) := by decide +kernel
theorem d_M_wayOf_14 : decode b_M_wayOf 14 = .ok (.iconst 2, 1) := by decide +kernel
theorem d_M_wayOf_15 : decode b_M_wayOf 15 = .ok (.idiv, 1) := by decide +kernel
theorem d_M_wayOf_16 : decode b_M_wayOf 16 = .ok (.if_icmp .ne 7, 3) := by decide +kernel
theorem d_M_wayOf_19 : decode b_M_wayOf 19 = .ok (.iconst 0, 1) := by decide +kernel
theorem d_M_wayOf_20 : decode b_M_wayOf 20 = .ok (.goto 4, 3) := by decide +kernel
theorem d_M_wayOf_23 : decode b_M_wayOf 23 = .ok (.iconst 1, 1) := by decide +kernel
theorem d_M_wayOf_24 : decode b_M_wayOf 24 = .ok (.iadd, 1) := by decide +kernel
theorem d_M_wayOf_25 : decode b_M_wayOf 25 = .ok (.istore_n 2, 1) := by decide +kernel
theorem d_M_wayOf_26 : decode b_M_wayOf 26 = .ok (.iinc 3 1, 3) := by decide +kernel
theorem d_M_wayOf_29 : decode b_M_wayOf 29 = .ok (.goto (-25), 3) := by decide +kernel
theorem d_M_wayOf_32 : decode b_M_wayOf 32 = .ok (.iconst 4, 1) := by decide +kernel
theorem d_M_wayOf_33 : decode b_M_wayOf 33 = .ok (.iload_n 0, 1) := by decide +kernel
theorem d_M_wayOf_34 : decode b_M_wayOf 34 = .ok (.imul, 1) := by decide +kernel
theorem d_M_wayOf_35 : decode b_M_wayOf 35 = .ok (.iload_n 2, 1) := by decide +kernel
theorem d_M_wayOf_36 : decode b_M_wayOf 36 = .ok (.iadd, 1) := by decide +kernel
theorem d_M_wayOf_37 : decode b_M_wayOf 37 = .ok (.ireturn, 1) := by decide +kernel
theorem d_M_secondOf_0 : decode b_M_secondOf 0 = .ok (.iload_n 0, 1) := by decide +kernel
theorem d_M_secondOf_1 : decode b_M_secondOf 1 = .ok (.iconst 4, 1) := by decide +kernel
theorem d_M_secondOf_2 : decode b_M_secondOf 2 = .ok (.idiv, 1) := by decide +kernel
theorem d_M_secondOf_3 : decode b_M_secondOf 3 = .ok (.istore_n 1, 1) := by decide +kernel
theorem d_M_secondOf_4 : decode b_M_secondOf 4 = .ok (.iload_n 0, 1) := by decide +kernel
theorem d_M_secondOf_5 : decode b_M_secondOf 5 = .ok (.iconst 4, 1) := by decide +kernel
theorem d_M_secondOf_6 : decode b_M_secondOf 6 = .ok (.irem, 1) := by decide +kernel
theorem d_M_secondOf_7 : decode b_M_secondOf 7 = .ok (.istore_n 2, 1) := by decide +kernel
theorem d_M_secondOf_8 : decode b_M_secondOf 8 = .ok (.iconst 0, 1) := by decide +kernel
theorem d_M_secondOf_9 : decode b_M_secondOf 9 = .ok (.istore_n 3, 1) := by decide +kernel
theorem d_M_secondOf_10 : decode b_M_secondOf 10 = .ok (.iload_n 3, 1) := by decide +kernel
theorem d_M_secondOf_11 : decode b_M_secondOf 11 = .ok (.iconst 2, 1) := by decide +kernel
theorem d_M_secondOf_12 : decode b_M_secondOf 12 = .ok (.idiv, 1) := by decide +kernel
theorem d_M_secondOf_13 : decode b_M_secondOf 13 = .ok (.iload_n 1, 1) := by decide +kernel
theorem d_M_secondOf_14 : decode b_M_secondOf 14 = .ok (.iconst 2, 1) := by decide +kernel
theorem d_M_secondOf_15 : decode b_M_secondOf 15 = .ok (.idiv, 1) := by decide +kernel
theorem d_M_secondOf_16 : decode b_M_secondOf 16 = .ok (.if_icmp .eq 7, 3) := by decide +kernel
theorem d_M_secondOf_19 : decode b_M_secondOf 19 = .ok (.iload_n 2, 1) := by decide +kernel
theorem d_M_secondOf_20 : decode b_M_secondOf 20 = .ok (.ifCond .le 26, 3) := by decide +kernel
theorem d_M_secondOf_23 : decode b_M_secondOf 23 = .ok (.iload_n 2, 1) := by decide +kernel
theorem d_M_secondOf_24 : decode b_M_secondOf 24 = .ok (.iload_n 3, 1) := by decide +kernel
theorem d_M_secondOf_25 : decode b_M_secondOf 25 = .ok (.iconst 2, 1) := by decide +kernel
theorem d_M_secondOf_26 : decode b_M_secondOf 26 = .ok (.idiv, 1) := by decide +kernel
theorem d_M_secondOf_27 : decode b_M_secondOf 27 = .ok (.iload_n 1, 1) := by decide +kernel
theorem d_M_secondOf_28 : decode b_M_secondOf 28 = .ok (.iconst 2, 1) := by decide +kernel
theorem d_M_secondOf_29 : decode b_M_secondOf 29 = .ok (.idiv, 1) := by decide +kernel
theorem d_M_secondOf_30 : decode b_M_secondOf 30 = .ok (.if_icmp .ne 7, 3) := by decide +kernel
theorem d_M_secondOf_33 : decode b_M_secondOf 33 = .ok (.iconst 0, 1) := by decide +kernel
theorem d_M_secondOf_34 : decode b_M_secondOf 34 = .ok (.goto 4, 3) := by decide +kernel
theorem d_M_secondOf_37 : decode b_M_secondOf 37 = .ok (.iconst 1, 1) := by decide +kernel
theorem d_M_secondOf_38 : decode b_M_secondOf 38 = .ok (.isub, 1) := by decide +kernel
theorem d_M_secondOf_39 : decode b_M_secondOf 39 = .ok (.istore_n 2, 1) := by decide +kernel
theorem d_M_secondOf_40 : decode b_M_secondOf 40 = .ok (.iinc 3 1, 3) := by decide +kernel
theorem d_M_secondOf_43 : decode b_M_secondOf 43 = .ok (.goto (-33), 3) := by decide +kernel
theorem d_M_secondOf_46 : decode b_M_secondOf 46 = .ok (.iload_n 3, 1) := by decide +kernel
theorem d_M_secondOf_47 : decode b_M_secondOf 47 = .ok (.ireturn, 1) := by decide +kernel
theorem d_M_isCross_0 : decode b_M_isCross 0 = .ok (.iload_n 0, 1) := by decide +kernel
theorem d_M_isCross_1 : decode b_M_isCross 1 = .ok (.iload_n 3, 1) := by decide +kernel
theorem d_M_isCross_2 : decode b_M_isCross 2 = .ok (.imul, 1) := by decide +kernel
theorem d_M_isCross_3 : decode b_M_isCross 3 = .ok (.iload_n 1, 1) := by decide +kernel
theorem d_M_isCross_4 : decode b_M_isCross 4 = .ok (.iload_n 2, 1) := by decide +kernel
theorem d_M_isCross_5 : decode b_M_isCross 5 = .ok (.imul, 1) := by decide +kernel
theorem d_M_isCross_6 : decode b_M_isCross 6 = .ok (.if_icmp .ne 7, 3) := by decide +kernel
theorem d_M_isCross_9 : decode b_M_isCross 9 = .ok (.iconst 1, 1) := by decide +kernel
theorem d_M_isCross_10 : decode b_M_isCross 10 = .ok (.goto 4, 3) := by decide +kernel
theorem d_M_isCross_13 : decode b_M_isCross 13 = .ok (.iconst 0, 1) := by decide +kernel
theorem d_M_isCross_14 : decode b_M_isCross 14 = .ok (.ireturn, 1) := by decide +kernel
