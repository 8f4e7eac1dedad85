theorem d_X_isWithin_0 : decode b_X_isWithin 0 = .ok (.iload_n 0, 1) := by decide +kernel
theorem d_X_isWithin_1 : decode b_X_isWithin 1 = .ok (.iload_n 1, 1) := by decide +kernel
theorem d_X_isWithin_2 : decode b_X_isWithin 2 = .ok (.ineg, 1) := by decide +kernel
theorem d_X_isWithin_3 : decode b_X_isWithin 3 = .ok (.if_icmp .lt 12, 3) := by decide +kernel
theorem d_X_isWithin_6 : decode b_X_isWithin 6 = .ok (.iload_n 0, 1) := by decide +kernel
theorem d_X_isWithin_7 : decode b_X_isWithin 7 = .ok (.iload_n 1, 1) := by decide +kernel
theorem d_X_isWithin_8 : decode b_X_isWithin 8 = .ok (.if_icmp .gt 7, 3) := by decide +kernel
theorem d_X_isWithin_11 : decode b_X_isWithin 11 = .ok (.iconst 1, 1) := by decide +kernel
theorem d_X_isWithin_12 : decode b_X_isWithin 12 = .ok (.goto 4, 3) := by decide +kernel
theorem d_X_isWithin_15 : decode b_X_isWithin 15 = .ok (.iconst 0, 1) := by decide +kernel
theorem d_X_isWithin_16 : decode b_X_isWithin 16 = .ok (.ireturn, 1) := by decide +kernel
theorem d_B_hasPoint_0 : decode b_B_hasPoint 0 = .ok (.iload_n 1, 1) := by decide +kernel
theorem d_B_hasPoint_1 : decode b_B_hasPoint 1 = .ok (.ifCond .lt 15, 3) := by decide +kernel
theorem d_B_hasPoint_4 : decode b_B_hasPoint 4 = .ok (.iload_n 1, 1) := by decide +kernel
theorem d_B_hasPoint_5 : decode b_B_hasPoint 5 = .ok (.aload_n 0, 1) := by decide +kernel
theorem d_B_hasPoint_6 : decode b_B_hasPoint 6 = .ok (.getfield 21, 3) := by decide +kernel
theorem d_B_hasPoint_9 : decode b_B_hasPoint 9 = .ok (.if_icmp .ge 7, 3) := by decide +kernel
theorem d_B_hasPoint_12 : decode b_B_hasPoint 12 = .ok (.iconst 1, 1) := by decide +kernel
theorem d_B_hasPoint_13 : decode b_B_hasPoint 13 = .ok (.goto 4, 3) := by decide +kernel
theorem d_B_hasPoint_16 : decode b_B_hasPoint 16 = .ok (.iconst 0, 1) := by decide +kernel
theorem d_B_hasPoint_17 : decode b_B_hasPoint 17 = .ok (.ireturn, 1) := by decide +kernel
theorem d_B_hasPlane_0 : decode b_B_hasPlane 0 = .ok (.iload_n 1, 1) := by decide +kernel
theorem d_B_hasPlane_1 : decode b_B_hasPlane 1 = .ok (.ifCond .lt 15, 3) := by decide +kernel
theorem d_B_hasPlane_4 : decode b_B_hasPlane 4 = .ok (.iload_n 1, 1) := by decide +kernel
theorem d_B_hasPlane_5 : decode b_B_hasPlane 5 = .ok (.aload_n 0, 1) := by decide +kernel
theorem d_B_hasPlane_6 : decode b_B_hasPlane 6 = .ok (.getfield 37, 3) := by decide +kernel
theorem d_B_hasPlane_9 : decode b_B_hasPlane 9 = .ok (.if_icmp .ge 7, 3) := by decide +kernel
theorem d_B_hasPlane_12 : decode b_B_hasPlane 12 = .ok (.iconst 1, 1) := by decide +kernel
theorem d_B_hasPlane_13 : decode b_B_hasPlane 13 = .ok (.goto 4, 3) := by decide +kernel
theorem d_B_hasPlane_16 : decode b_B_hasPlane 16 = .ok (.iconst 0, 1) := by decide +kernel
theorem d_B_hasPlane_17 : decode b_B_hasPlane 17 = .ok (.ireturn, 1) := by decide +kernel
theorem d_B_pointAt_0 : decode b_B_pointAt 0 = .ok (.iconst 0, 1) := by decide +kernel
theorem d_B_pointAt_1 : decode b_B_pointAt 1 = .ok (.istore 4, 2) := by decide +kernel
theorem d_B_pointAt_3 : decode b_B_pointAt 3 = .ok (.iload 4, 2) := by decide +kernel
theorem d_B_pointAt_5 : decode b_B_pointAt 5 = .ok (.aload_n 0, 1) := by decide +kernel
theorem d_B_pointAt_6 : decode b_B_pointAt 6 = .ok (.getfield 21, 3) := by decide +kernel
theorem d_B_pointAt_9 : decode b_B_pointAt 9 = .ok (.if_icmp .ge 45, 3) := by decide +kernel
theorem d_B_pointAt_12 : decode b_B_pointAt 12 = .ok (.aload_n 0, 1) := by decide +kernel
theorem d_B_pointAt_13 : decode b_B_pointAt 13 = .ok (.getfield 9, 3) := by decide +kernel
theorem d_B_pointAt_16 : decode b_B_pointAt 16 = .ok (.iload 4, 2) := by decide +kernel
theorem d_B_pointAt_18 : decode b_B_pointAt 18 = .ok (.iaload, 1) := by decide +kernel
theorem d_B_pointAt_19 : decode b_B_pointAt 19 = .ok (.iload_n 1, 1) := by decide +kernel
theorem d_B_pointAt_20 : decode b_B_pointAt 20 = .ok (.if_icmp .ne 28, 3) := by decide +kernel
theorem d_B_pointAt_23 : decode b_B_pointAt 23 = .ok (.aload_n 0, 1) := by decide +kernel
theorem d_B_pointAt_24 : decode b_B_pointAt 24 = .ok (.getfield 15, 3) := by decide +kernel
theorem d_B_pointAt_27 : decode b_B_pointAt 27 = .ok (.iload 4, 2) := by decide +kernel
theorem d_B_pointAt_29 : decode b_B_pointAt 29 = .ok (.iaload, 1) := by decide +kernel
theorem d_B_pointAt_30 : decode b_B_pointAt 30 = .ok (.iload_n 2, 1) := by decide +kernel
theorem d_B_pointAt_31 : decode b_B_pointAt 31 = .ok (.if_icmp .ne 17, 3) := by decide +kernel
theorem d_B_pointAt_34 : decode b_B_pointAt 34 = .ok (.aload_n 0, 1) := by decide +kernel
theorem d_B_pointAt_35 : decode b_B_pointAt 35 = .ok (.getfield 18, 3) := by decide +kernel
theorem d_B_pointAt_38 : decode b_B_pointAt 38 = .ok (.iload 4, 2) := by decide +kernel
theorem d_B_pointAt_40 : decode b_B_pointAt 40 = .ok (.iaload, 1) := by decide +kernel
theorem d_B_pointAt_41 : decode b_B_pointAt 41 = .ok (.iload_n 3, 1) := by decide +kernel
theorem d_B_pointAt_42 : decode b_B_pointAt 42 = .ok (.if_icmp .ne 6, 3) := by decide +kernel
theorem d_B_pointAt_45 : decode b_B_pointAt 45 = .ok (.iload 4, 2) := by decide +kernel
theorem d_B_pointAt_47 : decode b_B_pointAt 47 = .ok (.ireturn, 1) := by decide +kernel
theorem d_B_pointAt_48 : decode b_B_pointAt 48 = .ok (.iinc 4 1, 3) := by decide +kernel
theorem d_B_pointAt_51 : decode b_B_pointAt 51 = .ok (.goto (-48), 3) := by decide +kernel
theorem d_B_pointAt_54 : decode b_B_pointAt 54 = .ok (.iconst (-1), 1) := by decide +kernel
theorem d_B_pointAt_55 : decode b_B_pointAt 55 = .ok (.ireturn, 1) := by decide +kernel
theorem d_B_sideOf_0 : decode b_B_sideOf 0 = .ok (.aload_n 0, 1) := by decide +kernel
theorem d_B_sideOf_1 : decode b_B_sideOf 1 = .ok (.getfield 40, 3) := by decide +kernel
theorem d_B_sideOf_4 : decode b_B_sideOf 4 = .ok (.iload_n 1, 1) := by decide +kernel
theorem d_B_sideOf_5 : decode b_B_sideOf 5 = .ok (.laload, 1) := by decide +kernel
theorem d_B_sideOf_6 : decode b_B_sideOf 6 = .ok (.iconst 2, 1) := by decide +kernel
theorem d_B_sideOf_7 : decode b_B_sideOf 7 = .ok (.iload_n 2, 1) := by decide +kernel
theorem d_B_sideOf_8 : decode b_B_sideOf 8 = .ok (.imul, 1) := by decide +kernel
theorem d_B_sideOf_9 : decode b_B_sideOf 9 = .ok (.lshr, 1) := by decide +kernel
theorem d_B_sideOf_10 : decode b_B_sideOf 10 = .ok (.ldc2_w 58, 3) := by decide +kernel
theorem d_B_sideOf_13 : decode b_B_sideOf 13 = .ok (.land, 1) := by decide +kernel
theorem d_B_sideOf_14 : decode b_B_sideOf 14 = .ok (.l2i, 1) := by decide +kernel
theorem d_B_sideOf_15 : decode b_B_sideOf 15 = .ok (.ireturn, 1) := by decide +kernel
theorem d_B_imageOf_0 : decode b_B_imageOf 0 = .ok (.aload_n 0, 1) := by decide +kernel
theorem d_B_imageOf_1 : decode b_B_imageOf 1 = .ok (.getfield 9, 3) := by decide +kernel
theorem d_B_imageOf_4 : decode b_B_imageOf 4 = .ok (.iload_n 1, 1) := by decide +kernel
theorem d_B_imageOf_5 : decode b_B_imageOf 5 = .ok (.iaload, 1) := by decide +kernel
theorem d_B_imageOf_6 : decode b_B_imageOf 6 = .ok (.istore_n 3, 1) := by decide +kernel
theorem d_B_imageOf_7 : decode b_B_imageOf 7 = .ok (.aload_n 0, 1) := by decide +kernel
theorem d_B_imageOf_8 : decode b_B_imageOf 8 = .ok (.getfield 15, 3) := by decide +kernel
theorem d_B_imageOf_11 : decode b_B_imageOf 11 = .ok (.iload_n 1, 1) := by decide +kernel
theorem d_B_imageOf_12 : decode b_B_imageOf 12 = .ok (.iaload, 1) := by decide +kernel
theorem d_B_imageOf_13 : decode b_B_imageOf 13 = .ok (.istore 4, 2) := by decide +kernel
theorem d_B_imageOf_15 : decode b_B_imageOf 15 = .ok (.aload_n 0, 1) := by decide +kernel
theorem d_B_imageOf_16 : decode b_B_imageOf 16 = .ok (.getfield 18, 3) := by decide +kernel
theorem d_B_imageOf_19 : decode b_B_imageOf 19 = .ok (.iload_n 1, 1) := by decide +kernel
theorem d_B_imageOf_20 : decode b_B_imageOf 20 = .ok (.iaload, 1) := by decide +kernel
theorem d_B_imageOf_21 : decode b_B_imageOf 21 = .ok (.istore 5, 2) := by decide +kernel
theorem d_B_imageOf_23 : decode b_B_imageOf 23 = .ok (.aload_n 0, 1) := by decide +kernel
theorem d_B_imageOf_24 : decode b_B_imageOf 24 = .ok (.iload_n 2, 1) := by decide +kernel
theorem d_B_imageOf_25 : decode b_B_imageOf 25 = .ok (.iconst 0, 1) := by decide +kernel
theorem d_B_imageOf_26 : decode b_B_imageOf 26 = .ok (.iload_n 3, 1) := by decide +kernel
theorem d_B_imageOf_27 : decode b_B_imageOf 27 = .ok (.iload 4, 2) := by decide +kernel
theorem d_B_imageOf_29 : decode b_B_imageOf 29 = .ok (.iload 5, 2) := by decide +kernel
theorem d_B_imageOf_31 : decode b_B_imageOf 31 = .ok (.invokestatic 60, 3) := by decide +kernel
theorem d_B_imageOf_34 : decode b_B_imageOf 34 = .ok (.iload_n 2, 1) := by decide +kernel
theorem d_B_imageOf_35 : decode b_B_imageOf 35 = .ok (.iconst 1, 1) := by decide +kernel
theorem d_B_imageOf_36 : decode b_B_imageOf 36 = .ok (.iload_n 3, 1) := by decide +kernel
theorem d_B_imageOf_37 : decode b_B_imageOf 37 = .ok (.iload 4, 2) := by decide +kernel
theorem d_B_imageOf_39 : decode b_B_imageOf 39 = .ok (.iload 5, 2) := by decide +kernel
theorem d_B_imageOf_41 : decode b_B_imageOf 41 = .ok (.invokestatic 60, 3) := by decide +kernel
theorem d_B_imageOf_44 : decode b_B_imageOf 44 = .ok (.iload_n 2, 1) := by decide +kernel
theorem d_B_imageOf_45 : decode b_B_imageOf 45 = .ok (.iconst 2, 1) := by decide +kernel
theorem d_B_imageOf_46 : decode b_B_imageOf 46 = .ok (.iload_n 3, 1) := by decide +kernel
theorem d_B_imageOf_47 : decode b_B_imageOf 47 = .ok (.iload 4, 2) := by decide +kernel
theorem d_B_imageOf_49 : decode b_B_imageOf 49 = .ok (.iload 5, 2) := by decide +kernel
theorem d_B_imageOf_51 : decode b_B_imageOf 51 = .ok (.invokestatic 60, 3) := by decide +kernel
theorem d_B_imageOf_54 : decode b_B_imageOf 54 = .ok (.invokevirtual 48, 3) := by decide +kernel
theorem d_B_imageOf_57 : decode b_B_imageOf 57 = .ok (.ireturn, 1) := by decide +kernel
theorem d_B_leastAlike_0 : decode b_B_leastAlike 0 = .ok (.iconst 0, 1) := by decide +kernel
theorem d_B_leastAlike_1 : decode b_B_leastAlike 1 = .ok (.istore_n 2, 1) := by decide +kernel
theorem d_B_leastAlike_2 : decode b_B_leastAlike 2 = .ok (.iload_n 2, 1) := by decide +kernel
theorem d_B_leastAlike_3 : decode b_B_leastAlike 3 = .ok (.iload_n 1, 1) := by decide +kernel
theorem d_B_leastAlike_4 : decode b_B_leastAlike 4 = .ok (.if_icmp .ge 27, 3) := by decide +kernel
theorem d_B_leastAlike_7 : decode b_B_leastAlike 7 = .ok (.aload_n 0, 1) := by decide +kernel
theorem d_B_leastAlike_8 : decode b_B_leastAlike 8 = .ok (.getfield 40, 3) := by decide +kernel
theorem d_B_leastAlike_11 : decode b_B_leastAlike 11 = .ok (.iload_n 2, 1) := by decide +kernel
theorem d_B_leastAlike_12 : decode b_B_leastAlike 12 = .ok (.laload, 1) := by decide +kernel
theorem d_B_leastAlike_13 : decode b_B_leastAlike 13 = .ok (.aload_n 0, 1) := by decide +kernel
theorem d_B_leastAlike_14 : decode b_B_leastAlike 14 = .ok (.getfield 40, 3) := by decide +kernel
theorem d_B_leastAlike_17 : decode b_B_leastAlike 17 = .ok (.iload_n 1, 1) := by decide +kernel
theorem d_B_leastAlike_18 : decode b_B_leastAlike 18 = .ok (.laload, 1) := by decide +kernel
theorem d_B_leastAlike_19 : decode b_B_leastAlike 19 = .ok (.lcmp, 1) := by decide +kernel
theorem d_B_leastAlike_20 : decode b_B_leastAlike 20 = .ok (.ifCond .ne 5, 3) := by decide +kernel
theorem d_B_leastAlike_23 : decode b_B_leastAlike 23 = .ok (.iload_n 2, 1) := by decide +kernel
theorem d_B_leastAlike_24 : decode b_B_leastAlike 24 = .ok (.ireturn, 1) := by decide +kernel
theorem d_B_leastAlike_25 : decode b_B_leastAlike 25 = .ok (.iinc 2 1, 3) := by decide +kernel
theorem d_B_leastAlike_28 : decode b_B_leastAlike 28 = .ok (.goto (-26), 3) := by decide +kernel
theorem d_B_leastAlike_31 : decode b_B_leastAlike 31 = .ok (.iload_n 1, 1) := by decide +kernel
theorem d_B_leastAlike_32 : decode b_B_leastAlike 32 = .ok (.ireturn, 1) := by decide +kernel
theorem d_B_piecesBefore_0 : decode b_B_piecesBefore 0 = .ok (.iconst 0, 1) := by decide +kernel
theorem d_B_piecesBefore_1 : decode b_B_piecesBefore 1 = .ok (.istore_n 2, 1) := by decide +kernel
theorem d_B_piecesBefore_2 : decode b_B_piecesBefore 2 = .ok (.iconst 0, 1) := by decide +kernel
theorem d_B_piecesBefore_3 : decode b_B_piecesBefore 3 = .ok (.istore_n 3, 1) := by decide +kernel
theorem d_B_piecesBefore_4 : decode b_B_piecesBefore 4 = .ok (.iload_n 3, 1) := by decide +kernel
theorem d_B_piecesBefore_5 : decode b_B_piecesBefore 5 = .ok (.iload_n 1, 1) := by decide +kernel
theorem d_B_piecesBefore_6 : decode b_B_piecesBefore 6 = .ok (.if_icmp .ge 21, 3) := by decide +kernel
theorem d_B_piecesBefore_9 : decode b_B_piecesBefore 9 = .ok (.aload_n 0, 1) := by decide +kernel
theorem d_B_piecesBefore_10 : decode b_B_piecesBefore 10 = .ok (.iload_n 3, 1) := by decide +kernel
theorem d_B_piecesBefore_11 : decode b_B_piecesBefore 11 = .ok (.invokevirtual 66, 3) := by decide +kernel
theorem d_B_piecesBefore_14 : decode b_B_piecesBefore 14 = .ok (.iload_n 3, 1) := by decide +kernel
theorem d_B_piecesBefore_15 : decode b_B_piecesBefore 15 = .ok (.if_icmp .ne 6, 3) := by decide +kernel
theorem d_B_piecesBefore_18 : decode b_B_piecesBefore 18 = .ok (.iinc 2 1, 3) := by decide +kernel
theorem d_B_piecesBefore_21 : decode b_B_piecesBefore 21 = .ok (.iinc 3 1, 3) := by decide +kernel
theorem d_B_piecesBefore_24 : decode b_B_piecesBefore 24 = .ok (.goto (-20), 3) := by decide +kernel
theorem d_B_piecesBefore_27 : decode b_B_piecesBefore 27 = .ok (.iload_n 2, 1) := by decide +kernel
theorem d_B_piecesBefore_28 : decode b_B_piecesBefore 28 = .ok (.ireturn, 1) := by decide +kernel
theorem d_B_takesPointsToPoints_0 : decode b_B_takesPointsToPoints 0 = .ok (.iconst 0, 1) := by decide +kernel
theorem d_B_takesPointsToPoints_1 : decode b_B_takesPointsToPoints 1 = .ok (.istore_n 2, 1) := by decide +kernel
theorem d_B_takesPointsToPoints_2 : decode b_B_takesPointsToPoints 2 = .ok (.iload_n 2, 1) := by decide +kernel
theorem d_B_takesPointsToPoints_3 : decode b_B_takesPointsToPoints 3 = .ok (.aload_n 0, 1) := by decide +kernel
theorem d_B_takesPointsToPoints_4 : decode b_B_takesPointsToPoints 4 = .ok (.getfield 21, 3) := by decide +kernel
theorem d_B_takesPointsToPoints_7 : decode b_B_takesPointsToPoints 7 = .ok (.if_icmp .ge 21, 3) := by decide +kernel
theorem d_B_takesPointsToPoints_10 : decode b_B_takesPointsToPoints 10 = .ok (.aload_n 0, 1) := by decide +kernel
theorem d_B_takesPointsToPoints_11 : decode b_B_takesPointsToPoints 11 = .ok (.iload_n 2, 1) := by decide +kernel
theorem d_B_takesPointsToPoints_12 : decode b_B_takesPointsToPoints 12 = .ok (.iload_n 1, 1) := by decide +kernel
theorem d_B_takesPointsToPoints_13 : decode b_B_takesPointsToPoints 13 = .ok (.invokevirtual 70, 3) := by decide +kernel
theorem d_B_takesPointsToPoints_16 : decode b_B_takesPointsToPoints 16 = .ok (.iconst (-1), 1) := by decide +kernel
theorem d_B_takesPointsToPoints_17 : decode b_B_takesPointsToPoints 17 = .ok (.if_icmp .ne 5, 3) := by decide +kernel
theorem d_B_takesPointsToPoints_20 : decode b_B_takesPointsToPoints 20 = .ok (.iconst 0, 1) := by decide +kernel
theorem d_B_takesPointsToPoints_21 : decode b_B_takesPointsToPoints 21 = .ok (.ireturn, 1) := by decide +kernel
theorem d_B_takesPointsToPoints_22 : decode b_B_takesPointsToPoints 22 = .ok (.iinc 2 1, 3) := by decide +kernel
theorem d_B_takesPointsToPoints_25 : decode b_B_takesPointsToPoints 25 = .ok (.goto (-23), 3) := by decide +kernel
theorem d_B_takesPointsToPoints_28 : decode b_B_takesPointsToPoints 28 = .ok (.iconst 1, 1) := by decide +kernel
theorem d_B_takesPointsToPoints_29 : decode b_B_takesPointsToPoints 29 = .ok (.ireturn, 1) := by decide +kernel
theorem d_B_isSamePlane_0 : decode b_B_isSamePlane 0 = .ok (.aload_n 0, 1) := by decide +kernel
theorem d_B_isSamePlane_1 : decode b_B_isSamePlane 1 = .ok (.getfield 25, 3) := by decide +kernel
theorem d_B_isSamePlane_4 : decode b_B_isSamePlane 4 = .ok (.iload_n 1, 1) := by decide +kernel
theorem d_B_isSamePlane_5 : decode b_B_isSamePlane 5 = .ok (.iaload, 1) := by decide +kernel
theorem d_B_isSamePlane_6 : decode b_B_isSamePlane 6 = .ok (.iload_n 3, 1) := by decide +kernel
theorem d_B_isSamePlane_7 : decode b_B_isSamePlane 7 = .ok (.imul, 1) := by decide +kernel
theorem d_B_isSamePlane_8 : decode b_B_isSamePlane 8 = .ok (.aload_n 0, 1) := by decide +kernel
theorem d_B_isSamePlane_9 : decode b_B_isSamePlane 9 = .ok (.getfield 28, 3) := by decide +kernel
theorem d_B_isSamePlane_12 : decode b_B_isSamePlane 12 = .ok (.iload_n 1, 1) := by decide +kernel
theorem d_B_isSamePlane_13 : decode b_B_isSamePlane 13 = .ok (.iaload, 1) := by decide +kernel
theorem d_B_isSamePlane_14 : decode b_B_isSamePlane 14 = .ok (.iload_n 2, 1) := by decide +kernel
theorem d_B_isSamePlane_15 : decode b_B_isSamePlane 15 = .ok (.imul, 1) := by decide +kernel
theorem d_B_isSamePlane_16 : decode b_B_isSamePlane 16 = .ok (.if_icmp .ne 108, 3) := by decide +kernel
theorem d_B_isSamePlane_19 : decode b_B_isSamePlane 19 = .ok (.aload_n 0, 1) := by decide +kernel
theorem d_B_isSamePlane_20 : decode b_B_isSamePlane 20 = .ok (.getfield 25, 3) := by decide +kernel
theorem d_B_isSamePlane_23 : decode b_B_isSamePlane 23 = .ok (.iload_n 1, 1) := by decide +kernel
theorem d_B_isSamePlane_24 : decode b_B_isSamePlane 24 = .ok (.iaload, 1) := by decide +kernel
theorem d_B_isSamePlane_25 : decode b_B_isSamePlane 25 = .ok (.iload 4, 2) := by decide +kernel
theorem d_B_isSamePlane_27 : decode b_B_isSamePlane 27 = .ok (.imul, 1) := by decide +kernel
theorem d_B_isSamePlane_28 : decode b_B_isSamePlane 28 = .ok (.aload_n 0, 1) := by decide +kernel
theorem d_B_isSamePlane_29 : decode b_B_isSamePlane 29 = .ok (.getfield 31, 3) := by decide +kernel
theorem d_B_isSamePlane_32 : decode b_B_isSamePlane 32 = .ok (.iload_n 1, 1) := by decide +kernel
theorem d_B_isSamePlane_33 : decode b_B_isSamePlane 33 = .ok (.iaload, 1) := by decide +kernel
theorem d_B_isSamePlane_34 : decode b_B_isSamePlane 34 = .ok (.iload_n 2, 1) := by decide +kernel
theorem d_B_isSamePlane_35 : decode b_B_isSamePlane 35 = .ok (.imul, 1) := by decide +kernel
theorem d_B_isSamePlane_36 : decode b_B_isSamePlane 36 = .ok (.if_icmp .ne 88, 3) := by decide +kernel
theorem d_B_isSamePlane_39 : decode b_B_isSamePlane 39 = .ok (.aload_n 0, 1) := by decide +kernel
theorem d_B_isSamePlane_40 : decode b_B_isSamePlane 40 = .ok (.getfield 28, 3) := by decide +kernel
theorem d_B_isSamePlane_43 : decode b_B_isSamePlane 43 = .ok (.iload_n 1, 1) := by decide +kernel
theorem d_B_isSamePlane_44 : decode b_B_isSamePlane 44 = .ok (.iaload, 1) := by decide +kernel
theorem d_B_isSamePlane_45 : decode b_B_isSamePlane 45 = .ok (.iload 4, 2) := by decide +kernel
theorem d_B_isSamePlane_47 : decode b_B_isSamePlane 47 = .ok (.imul, 1) := by decide +kernel
theorem d_B_isSamePlane_48 : decode b_B_isSamePlane 48 = .ok (.aload_n 0, 1) := by decide +kernel
theorem d_B_isSamePlane_49 : decode b_B_isSamePlane 49 = .ok (.getfield 31, 3) := by decide +kernel
theorem d_B_isSamePlane_52 : decode b_B_isSamePlane 52 = .ok (.iload_n 1, 1) := by decide +kernel
theorem d_B_isSamePlane_53 : decode b_B_isSamePlane 53 = .ok (.iaload, 1) := by decide +kernel
theorem d_B_isSamePlane_54 : decode b_B_isSamePlane 54 = .ok (.iload_n 3, 1) := by decide +kernel
theorem d_B_isSamePlane_55 : decode b_B_isSamePlane 55 = .ok (.imul, 1) := by decide +kernel
theorem d_B_isSamePlane_56 : decode b_B_isSamePlane 56 = .ok (.if_icmp .ne 68, 3) := by decide +kernel
theorem d_B_isSamePlane_59 : decode b_B_isSamePlane 59 = .ok (.aload_n 0, 1) := by decide +kernel
theorem d_B_isSamePlane_60 : decode b_B_isSamePlane 60 = .ok (.getfield 25, 3) := by decide +kernel
theorem d_B_isSamePlane_63 : decode b_B_isSamePlane 63 = .ok (.iload_n 1, 1) := by decide +kernel
theorem d_B_isSamePlane_64 : decode b_B_isSamePlane 64 = .ok (.iaload, 1) := by decide +kernel
theorem d_B_isSamePlane_65 : decode b_B_isSamePlane 65 = .ok (.iload 5, 2) := by decide +kernel
theorem d_B_isSamePlane_67 : decode b_B_isSamePlane 67 = .ok (.imul, 1) := by decide +kernel
theorem d_B_isSamePlane_68 : decode b_B_isSamePlane 68 = .ok (.aload_n 0, 1) := by decide +kernel
theorem d_B_isSamePlane_69 : decode b_B_isSamePlane 69 = .ok (.getfield 34, 3) := by decide +kernel
theorem d_B_isSamePlane_72 : decode b_B_isSamePlane 72 = .ok (.iload_n 1, 1) := by decide +kernel
theorem d_B_isSamePlane_73 : decode b_B_isSamePlane 73 = .ok (.iaload, 1) := by decide +kernel
theorem d_B_isSamePlane_74 : decode b_B_isSamePlane 74 = .ok (.iload_n 2, 1) := by decide +kernel
theorem d_B_isSamePlane_75 : decode b_B_isSamePlane 75 = .ok (.imul, 1) := by decide +kernel
theorem d_B_isSamePlane_76 : decode b_B_isSamePlane 76 = .ok (.if_icmp .ne 48, 3) := by decide +kernel
theorem d_B_isSamePlane_79 : decode b_B_isSamePlane 79 = .ok (.aload_n 0, 1) := by decide +kernel
theorem d_B_isSamePlane_80 : decode b_B_isSamePlane 80 = .ok (.getfield 28, 3) := by decide +kernel
theorem d_B_isSamePlane_83 : decode b_B_isSamePlane 83 = .ok (.iload_n 1, 1) := by decide +kernel
theorem d_B_isSamePlane_84 : decode b_B_isSamePlane 84 = .ok (.iaload, 1) := by decide +kernel
theorem d_B_isSamePlane_85 : decode b_B_isSamePlane 85 = .ok (.iload 5, 2) := by decide +kernel
theorem d_B_isSamePlane_87 : decode b_B_isSamePlane 87 = .ok (.imul, 1) := by decide +kernel
theorem d_B_isSamePlane_88 : decode b_B_isSamePlane 88 = .ok (.aload_n 0, 1) := by decide +kernel
theorem d_B_isSamePlane_89 : decode b_B_isSamePlane 89 = .ok (.getfield 34, 3) := by decide +kernel
theorem d_B_isSamePlane_92 : decode b_B_isSamePlane 92 = .ok (.iload_n 1, 1) := by decide +kernel
theorem d_B_isSamePlane_93 : decode b_B_isSamePlane 93 = .ok (.iaload, 1) := by decide +kernel
theorem d_B_isSamePlane_94 : decode b_B_isSamePlane 94 = .ok (.iload_n 3, 1) := by decide +kernel
theorem d_B_isSamePlane_95 : decode b_B_isSamePlane 95 = .ok (.imul, 1) := by decide +kernel
theorem d_B_isSamePlane_96 : decode b_B_isSamePlane 96 = .ok (.if_icmp .ne 28, 3) := by decide +kernel
theorem d_B_isSamePlane_99 : decode b_B_isSamePlane 99 = .ok (.aload_n 0, 1) := by decide +kernel
theorem d_B_isSamePlane_100 : decode b_B_isSamePlane 100 = .ok (.getfield 31, 3) := by decide +kernel
theorem d_B_isSamePlane_103 : decode b_B_isSamePlane 103 = .ok (.iload_n 1, 1) := by decide +kernel
theorem d_B_isSamePlane_104 : decode b_B_isSamePlane 104 = .ok (.iaload, 1) := by decide +kernel
theorem d_B_isSamePlane_105 : decode b_B_isSamePlane 105 = .ok (.iload 5, 2) := by decide +kernel
theorem d_B_isSamePlane_107 : decode b_B_isSamePlane 107 = .ok (.imul, 1) := by decide +kernel
theorem d_B_isSamePlane_108 : decode b_B_isSamePlane 108 = .ok (.aload_n 0, 1) := by decide +kernel
theorem d_B_isSamePlane_109 : decode b_B_isSamePlane 109 = .ok (.getfield 34, 3) := by decide +kernel
theorem d_B_isSamePlane_112 : decode b_B_isSamePlane 112 = .ok (.iload_n 1, 1) := by decide +kernel
theorem d_B_isSamePlane_113 : decode b_B_isSamePlane 113 = .ok (.iaload, 1) := by decide +kernel
theorem d_B_isSamePlane_114 : decode b_B_isSamePlane 114 = .ok (.iload 4, 2) := by decide +kernel
theorem d_B_isSamePlane_116 : decode b_B_isSamePlane 116 = .ok (.imul, 1) := by decide +kernel
theorem d_B_isSamePlane_117 : decode b_B_isSamePlane 117 = .ok (.if_icmp .ne 7, 3) := by decide +kernel
theorem d_B_isSamePlane_120 : decode b_B_isSamePlane 120 = .ok (.iconst 1, 1) := by decide +kernel
theorem d_B_isSamePlane_121 : decode b_B_isSamePlane 121 = .ok (.goto 4, 3) := by decide +kernel
theorem d_B_isSamePlane_124 : decode b_B_isSamePlane 124 = .ok (.iconst 0, 1) := by decide +kernel
theorem d_B_isSamePlane_125 : decode b_B_isSamePlane 125 = .ok (.ireturn, 1) := by decide +kernel
theorem d_B_hasPlaneWhere_0 : decode b_B_hasPlaneWhere 0 = .ok (.iconst 0, 1) := by decide +kernel
theorem d_B_hasPlaneWhere_1 : decode b_B_hasPlaneWhere 1 = .ok (.istore 5, 2) := by decide +kernel
theorem d_B_hasPlaneWhere_3 : decode b_B_hasPlaneWhere 3 = .ok (.iload 5, 2) := by decide +kernel
theorem d_B_hasPlaneWhere_5 : decode b_B_hasPlaneWhere 5 = .ok (.aload_n 0, 1) := by decide +kernel
theorem d_B_hasPlaneWhere_6 : decode b_B_hasPlaneWhere 6 = .ok (.getfield 37, 3) := by decide +kernel
theorem d_B_hasPlaneWhere_9 : decode b_B_hasPlaneWhere 9 = .ok (.if_icmp .ge 25, 3) := by decide +kernel
theorem d_B_hasPlaneWhere_12 : decode b_B_hasPlaneWhere 12 = .ok (.aload_n 0, 1) := by decide +kernel
theorem d_B_hasPlaneWhere_13 : decode b_B_hasPlaneWhere 13 = .ok (.iload 5, 2) := by decide +kernel
theorem d_B_hasPlaneWhere_15 : decode b_B_hasPlaneWhere 15 = .ok (.iload_n 1, 1) := by decide +kernel
theorem d_B_hasPlaneWhere_16 : decode b_B_hasPlaneWhere 16 = .ok (.iload_n 2, 1) := by decide +kernel
theorem d_B_hasPlaneWhere_17 : decode b_B_hasPlaneWhere 17 = .ok (.iload_n 3, 1) := by decide +kernel
theorem d_B_hasPlaneWhere_18 : decode b_B_hasPlaneWhere 18 = .ok (.iload 4, 2) := by decide +kernel
theorem d_B_hasPlaneWhere_20 : decode b_B_hasPlaneWhere 20 = .ok (.invokevirtual 78, 3) := by decide +kernel
theorem d_B_hasPlaneWhere_23 : decode b_B_hasPlaneWhere 23 = .ok (.ifCond .eq 5, 3) := by decide +kernel
theorem d_B_hasPlaneWhere_26 : decode b_B_hasPlaneWhere 26 = .ok (.iconst 1, 1) := by decide +kernel
theorem d_B_hasPlaneWhere_27 : decode b_B_hasPlaneWhere 27 = .ok (.ireturn, 1) := by decide +kernel
theorem d_B_hasPlaneWhere_28 : decode b_B_hasPlaneWhere 28 = .ok (.iinc 5 1, 3) := by decide +kernel
theorem d_B_hasPlaneWhere_31 : decode b_B_hasPlaneWhere 31 = .ok (.goto (-28), 3) := by decide +kernel
theorem d_B_hasPlaneWhere_34 : decode b_B_hasPlaneWhere 34 = .ok (.iconst 0, 1) := by decide +kernel
theorem d_B_hasPlaneWhere_35 : decode b_B_hasPlaneWhere 35 = .ok (.ireturn, 1) := by decide +kernel
theorem d_B_takesPlanesToPlanes_0 : decode b_B_takesPlanesToPlanes 0 = .ok (.iconst 0, 1) := by decide +kernel
theorem d_B_takesPlanesToPlanes_1 : decode b_B_takesPlanesToPlanes 1 = .ok (.istore_n 2, 1) := by decide +kernel
theorem d_B_takesPlanesToPlanes_2 : decode b_B_takesPlanesToPlanes 2 = .ok (.iload_n 2, 1) := by decide +kernel
theorem d_B_takesPlanesToPlanes_3 : decode b_B_takesPlanesToPlanes 3 = .ok (.aload_n 0, 1) := by decide +kernel
theorem d_B_takesPlanesToPlanes_4 : decode b_B_takesPlanesToPlanes 4 = .ok (.getfield 37, 3) := by decide +kernel
theorem d_B_takesPlanesToPlanes_7 : decode b_B_takesPlanesToPlanes 7 = .ok (.if_icmp .ge 103, 3) := by decide +kernel
theorem d_B_takesPlanesToPlanes_10 : decode b_B_takesPlanesToPlanes 10 = .ok (.iload_n 1, 1) := by decide +kernel
theorem d_B_takesPlanesToPlanes_11 : decode b_B_takesPlanesToPlanes 11 = .ok (.iconst 0, 1) := by decide +kernel
theorem d_B_takesPlanesToPlanes_12 : decode b_B_takesPlanesToPlanes 12 = .ok (.aload_n 0, 1) := by decide +kernel
theorem d_B_takesPlanesToPlanes_13 : decode b_B_takesPlanesToPlanes 13 = .ok (.getfield 25, 3) := by decide +kernel
theorem d_B_takesPlanesToPlanes_16 : decode b_B_takesPlanesToPlanes 16 = .ok (.iload_n 2, 1) := by decide +kernel
theorem d_B_takesPlanesToPlanes_17 : decode b_B_takesPlanesToPlanes 17 = .ok (.iaload, 1) := by decide +kernel
theorem d_B_takesPlanesToPlanes_18 : decode b_B_takesPlanesToPlanes 18 = .ok (.aload_n 0, 1) := by decide +kernel
theorem d_B_takesPlanesToPlanes_19 : decode b_B_takesPlanesToPlanes 19 = .ok (.getfield 28, 3) := by decide +kernel
theorem d_B_takesPlanesToPlanes_22 : decode b_B_takesPlanesToPlanes 22 = .ok (.iload_n 2, 1) := by decide +kernel
theorem d_B_takesPlanesToPlanes_23 : decode b_B_takesPlanesToPlanes 23 = .ok (.iaload, 1) := by decide +kernel
theorem d_B_takesPlanesToPlanes_24 : decode b_B_takesPlanesToPlanes 24 = .ok (.aload_n 0, 1) := by decide +kernel
theorem d_B_takesPlanesToPlanes_25 : decode b_B_takesPlanesToPlanes 25 = .ok (.getfield 31, 3) := by decide +kernel
theorem d_B_takesPlanesToPlanes_28 : decode b_B_takesPlanesToPlanes 28 = .ok (.iload_n 2, 1) := by decide +kernel
theorem d_B_takesPlanesToPlanes_29 : decode b_B_takesPlanesToPlanes 29 = .ok (.iaload, 1) := by decide +kernel
theorem d_B_takesPlanesToPlanes_30 : decode b_B_takesPlanesToPlanes 30 = .ok (.invokestatic 60, 3) := by decide +kernel
theorem d_B_takesPlanesToPlanes_33 : decode b_B_takesPlanesToPlanes 33 = .ok (.istore_n 3, 1) := by decide +kernel
theorem d_B_takesPlanesToPlanes_34 : decode b_B_takesPlanesToPlanes 34 = .ok (.iload_n 1, 1) := by decide +kernel
theorem d_B_takesPlanesToPlanes_35 : decode b_B_takesPlanesToPlanes 35 = .ok (.iconst 1, 1) := by decide +kernel
theorem d_B_takesPlanesToPlanes_36 : decode b_B_takesPlanesToPlanes 36 = .ok (.aload_n 0, 1) := by decide +kernel
theorem d_B_takesPlanesToPlanes_37 : decode b_B_takesPlanesToPlanes 37 = .ok (.getfield 25, 3) := by decide +kernel
theorem d_B_takesPlanesToPlanes_40 : decode b_B_takesPlanesToPlanes 40 = .ok (.iload_n 2, 1) := by decide +kernel
theorem d_B_takesPlanesToPlanes_41 : decode b_B_takesPlanesToPlanes 41 = .ok (.iaload, 1) := by decide +kernel
theorem d_B_takesPlanesToPlanes_42 : decode b_B_takesPlanesToPlanes 42 = .ok (.aload_n 0, 1) := by decide +kernel
theorem d_B_takesPlanesToPlanes_43 : decode b_B_takesPlanesToPlanes 43 = .ok (.getfield 28, 3) := by decide +kernel
theorem d_B_takesPlanesToPlanes_46 : decode b_B_takesPlanesToPlanes 46 = .ok (.iload_n 2, 1) := by decide +kernel
theorem d_B_takesPlanesToPlanes_47 : decode b_B_takesPlanesToPlanes 47 = .ok (.iaload, 1) := by decide +kernel
theorem d_B_takesPlanesToPlanes_48 : decode b_B_takesPlanesToPlanes 48 = .ok (.aload_n 0, 1) := by decide +kernel
theorem d_B_takesPlanesToPlanes_49 : decode b_B_takesPlanesToPlanes 49 = .ok (.getfield 31, 3) := by decide +kernel
theorem d_B_takesPlanesToPlanes_52 : decode b_B_takesPlanesToPlanes 52 = .ok (.iload_n 2, 1) := by decide +kernel
theorem d_B_takesPlanesToPlanes_53 : decode b_B_takesPlanesToPlanes 53 = .ok (.iaload, 1) := by decide +kernel
theorem d_B_takesPlanesToPlanes_54 : decode b_B_takesPlanesToPlanes 54 = .ok (.invokestatic 60, 3) := by decide +kernel
theorem d_B_takesPlanesToPlanes_57 : decode b_B_takesPlanesToPlanes 57 = .ok (.istore 4, 2) := by decide +kernel
theorem d_B_takesPlanesToPlanes_59 : decode b_B_takesPlanesToPlanes 59 = .ok (.iload_n 1, 1) := by decide +kernel
theorem d_B_takesPlanesToPlanes_60 : decode b_B_takesPlanesToPlanes 60 = .ok (.iconst 2, 1) := by decide +kernel
theorem d_B_takesPlanesToPlanes_61 : decode b_B_takesPlanesToPlanes 61 = .ok (.aload_n 0, 1) := by decide +kernel
theorem d_B_takesPlanesToPlanes_62 : decode b_B_takesPlanesToPlanes 62 = .ok (.getfield 25, 3) := by decide +kernel
theorem d_B_takesPlanesToPlanes_65 : decode b_B_takesPlanesToPlanes 65 = .ok (.iload_n 2, 1) := by decide +kernel
theorem d_B_takesPlanesToPlanes_66 : decode b_B_takesPlanesToPlanes 66 = .ok (.iaload, 1) := by decide +kernel
theorem d_B_takesPlanesToPlanes_67 : decode b_B_takesPlanesToPlanes 67 = .ok (.aload_n 0, 1) := by decide +kernel
theorem d_B_takesPlanesToPlanes_68 : decode b_B_takesPlanesToPlanes 68 = .ok (.getfield 28, 3) := by decide +kernel
theorem d_B_takesPlanesToPlanes_71 : decode b_B_takesPlanesToPlanes 71 = .ok (.iload_n 2, 1) := by decide +kernel
theorem d_B_takesPlanesToPlanes_72 : decode b_B_takesPlanesToPlanes 72 = .ok (.iaload, 1) := by decide +kernel
theorem d_B_takesPlanesToPlanes_73 : decode b_B_takesPlanesToPlanes 73 = .ok (.aload_n 0, 1) := by decide +kernel
theorem d_B_takesPlanesToPlanes_74 : decode b_B_takesPlanesToPlanes 74 = .ok (.getfield 31, 3) := by decide +kernel
theorem d_B_takesPlanesToPlanes_77 : decode b_B_takesPlanesToPlanes 77 = .ok (.iload_n 2, 1) := by decide +kernel
theorem d_B_takesPlanesToPlanes_78 : decode b_B_takesPlanesToPlanes 78 = .ok (.iaload, 1) := by decide +kernel
theorem d_B_takesPlanesToPlanes_79 : decode b_B_takesPlanesToPlanes 79 = .ok (.invokestatic 60, 3) := by decide +kernel
theorem d_B_takesPlanesToPlanes_82 : decode b_B_takesPlanesToPlanes 82 = .ok (.istore 5, 2) := by decide +kernel
theorem d_B_takesPlanesToPlanes_84 : decode b_B_takesPlanesToPlanes 84 = .ok (.aload_n 0, 1) := by decide +kernel
theorem d_B_takesPlanesToPlanes_85 : decode b_B_takesPlanesToPlanes 85 = .ok (.iload_n 3, 1) := by decide +kernel
theorem d_B_takesPlanesToPlanes_86 : decode b_B_takesPlanesToPlanes 86 = .ok (.iload 4, 2) := by decide +kernel
theorem d_B_takesPlanesToPlanes_88 : decode b_B_takesPlanesToPlanes 88 = .ok (.iload 5, 2) := by decide +kernel
theorem d_B_takesPlanesToPlanes_90 : decode b_B_takesPlanesToPlanes 90 = .ok (.aload_n 0, 1) := by decide +kernel
theorem d_B_takesPlanesToPlanes_91 : decode b_B_takesPlanesToPlanes 91 = .ok (.getfield 34, 3) := by decide +kernel
theorem d_B_takesPlanesToPlanes_94 : decode b_B_takesPlanesToPlanes 94 = .ok (.iload_n 2, 1) := by decide +kernel
theorem d_B_takesPlanesToPlanes_95 : decode b_B_takesPlanesToPlanes 95 = .ok (.iaload, 1) := by decide +kernel
theorem d_B_takesPlanesToPlanes_96 : decode b_B_takesPlanesToPlanes 96 = .ok (.invokevirtual 74, 3) := by decide +kernel
theorem d_B_takesPlanesToPlanes_99 : decode b_B_takesPlanesToPlanes 99 = .ok (.ifCond .ne 5, 3) := by decide +kernel
theorem d_B_takesPlanesToPlanes_102 : decode b_B_takesPlanesToPlanes 102 = .ok (.iconst 0, 1) := by decide +kernel
theorem d_B_takesPlanesToPlanes_103 : decode b_B_takesPlanesToPlanes 103 = .ok (.ireturn, 1) := by decide +kernel
theorem d_B_takesPlanesToPlanes_104 : decode b_B_takesPlanesToPlanes 104 = .ok (.iinc 2 1, 3) := by decide +kernel
theorem d_B_takesPlanesToPlanes_107 : decode b_B_takesPlanesToPlanes 107 = .ok (.goto (-105), 3) := by decide +kernel
theorem d_B_takesPlanesToPlanes_110 : decode b_B_takesPlanesToPlanes 110 = .ok (.iconst 1, 1) := by decide +kernel
theorem d_B_takesPlanesToPlanes_111 : decode b_B_takesPlanesToPlanes 111 = .ok (.ireturn, 1) := by decide +kernel
