theorem d_M_isPoint_0 : decode b_M_isPoint 0 = .ok (.iload_n 1, 1) := by decide +kernel
theorem d_M_isPoint_1 : decode b_M_isPoint 1 = .ok (.ifCond .lt 15, 3) := by decide +kernel
theorem d_M_isPoint_4 : decode b_M_isPoint 4 = .ok (.iload_n 1, 1) := by decide +kernel
theorem d_M_isPoint_5 : decode b_M_isPoint 5 = .ok (.aload_n 0, 1) := by decide +kernel
theorem d_M_isPoint_6 : decode b_M_isPoint 6 = .ok (.getfield 59, 3) := by decide +kernel
theorem d_M_isPoint_9 : decode b_M_isPoint 9 = .ok (.if_icmp .ge 7, 3) := by decide +kernel
theorem d_M_isPoint_12 : decode b_M_isPoint 12 = .ok (.iconst 1, 1) := by decide +kernel
theorem d_M_isPoint_13 : decode b_M_isPoint 13 = .ok (.goto 4, 3) := by decide +kernel
theorem d_M_isPoint_16 : decode b_M_isPoint 16 = .ok (.iconst 0, 1) := by decide +kernel
theorem d_M_isPoint_17 : decode b_M_isPoint 17 = .ok (.ireturn, 1) := by decide +kernel
theorem d_M_isPlane_0 : decode b_M_isPlane 0 = .ok (.iload_n 1, 1) := by decide +kernel
theorem d_M_isPlane_1 : decode b_M_isPlane 1 = .ok (.ifCond .lt 15, 3) := by decide +kernel
theorem d_M_isPlane_4 : decode b_M_isPlane 4 = .ok (.iload_n 1, 1) := by decide +kernel
theorem d_M_isPlane_5 : decode b_M_isPlane 5 = .ok (.aload_n 0, 1) := by decide +kernel
theorem d_M_isPlane_6 : decode b_M_isPlane 6 = .ok (.getfield 62, 3) := by decide +kernel
theorem d_M_isPlane_9 : decode b_M_isPlane 9 = .ok (.if_icmp .ge 7, 3) := by decide +kernel
theorem d_M_isPlane_12 : decode b_M_isPlane 12 = .ok (.iconst 1, 1) := by decide +kernel
theorem d_M_isPlane_13 : decode b_M_isPlane 13 = .ok (.goto 4, 3) := by decide +kernel
theorem d_M_isPlane_16 : decode b_M_isPlane 16 = .ok (.iconst 0, 1) := by decide +kernel
theorem d_M_isPlane_17 : decode b_M_isPlane 17 = .ok (.ireturn, 1) := by decide +kernel
theorem d_M_isAxis_0 : decode b_M_isAxis 0 = .ok (.iload_n 1, 1) := by decide +kernel
theorem d_M_isAxis_1 : decode b_M_isAxis 1 = .ok (.ifCond .lt 15, 3) := by decide +kernel
theorem d_M_isAxis_4 : decode b_M_isAxis 4 = .ok (.iload_n 1, 1) := by decide +kernel
theorem d_M_isAxis_5 : decode b_M_isAxis 5 = .ok (.aload_n 0, 1) := by decide +kernel
theorem d_M_isAxis_6 : decode b_M_isAxis 6 = .ok (.getfield 65, 3) := by decide +kernel
theorem d_M_isAxis_9 : decode b_M_isAxis 9 = .ok (.if_icmp .ge 7, 3) := by decide +kernel
theorem d_M_isAxis_12 : decode b_M_isAxis 12 = .ok (.iconst 1, 1) := by decide +kernel
theorem d_M_isAxis_13 : decode b_M_isAxis 13 = .ok (.goto 4, 3) := by decide +kernel
theorem d_M_isAxis_16 : decode b_M_isAxis 16 = .ok (.iconst 0, 1) := by decide +kernel
theorem d_M_isAxis_17 : decode b_M_isAxis 17 = .ok (.ireturn, 1) := by decide +kernel
theorem d_M_pointAt_0 : decode b_M_pointAt 0 = .ok (.iconst 0, 1) := by decide +kernel
theorem d_M_pointAt_1 : decode b_M_pointAt 1 = .ok (.istore 4, 2) := by decide +kernel
theorem d_M_pointAt_3 : decode b_M_pointAt 3 = .ok (.iload 4, 2) := by decide +kernel
theorem d_M_pointAt_5 : decode b_M_pointAt 5 = .ok (.aload_n 0, 1) := by decide +kernel
theorem d_M_pointAt_6 : decode b_M_pointAt 6 = .ok (.getfield 59, 3) := by decide +kernel
theorem d_M_pointAt_9 : decode b_M_pointAt 9 = .ok (.if_icmp .ge 45, 3) := by decide +kernel
theorem d_M_pointAt_12 : decode b_M_pointAt 12 = .ok (.aload_n 0, 1) := by decide +kernel
theorem d_M_pointAt_13 : decode b_M_pointAt 13 = .ok (.getfield 7, 3) := by decide +kernel
theorem d_M_pointAt_16 : decode b_M_pointAt 16 = .ok (.iload 4, 2) := by decide +kernel
theorem d_M_pointAt_18 : decode b_M_pointAt 18 = .ok (.iaload, 1) := by decide +kernel
theorem d_M_pointAt_19 : decode b_M_pointAt 19 = .ok (.iload_n 1, 1) := by decide +kernel
theorem d_M_pointAt_20 : decode b_M_pointAt 20 = .ok (.if_icmp .ne 28, 3) := by decide +kernel
theorem d_M_pointAt_23 : decode b_M_pointAt 23 = .ok (.aload_n 0, 1) := by decide +kernel
theorem d_M_pointAt_24 : decode b_M_pointAt 24 = .ok (.getfield 13, 3) := by decide +kernel
theorem d_M_pointAt_27 : decode b_M_pointAt 27 = .ok (.iload 4, 2) := by decide +kernel
theorem d_M_pointAt_29 : decode b_M_pointAt 29 = .ok (.iaload, 1) := by decide +kernel
theorem d_M_pointAt_30 : decode b_M_pointAt 30 = .ok (.iload_n 2, 1) := by decide +kernel
theorem d_M_pointAt_31 : decode b_M_pointAt 31 = .ok (.if_icmp .ne 17, 3) := by decide +kernel
theorem d_M_pointAt_34 : decode b_M_pointAt 34 = .ok (.aload_n 0, 1) := by decide +kernel
theorem d_M_pointAt_35 : decode b_M_pointAt 35 = .ok (.getfield 16, 3) := by decide +kernel
theorem d_M_pointAt_38 : decode b_M_pointAt 38 = .ok (.iload 4, 2) := by decide +kernel
theorem d_M_pointAt_40 : decode b_M_pointAt 40 = .ok (.iaload, 1) := by decide +kernel
theorem d_M_pointAt_41 : decode b_M_pointAt 41 = .ok (.iload_n 3, 1) := by decide +kernel
theorem d_M_pointAt_42 : decode b_M_pointAt 42 = .ok (.if_icmp .ne 6, 3) := by decide +kernel
theorem d_M_pointAt_45 : decode b_M_pointAt 45 = .ok (.iload 4, 2) := by decide +kernel
theorem d_M_pointAt_47 : decode b_M_pointAt 47 = .ok (.ireturn, 1) := by decide +kernel
theorem d_M_pointAt_48 : decode b_M_pointAt 48 = .ok (.iinc 4 1, 3) := by decide +kernel
theorem d_M_pointAt_51 : decode b_M_pointAt 51 = .ok (.goto (-48), 3) := by decide +kernel
theorem d_M_pointAt_54 : decode b_M_pointAt 54 = .ok (.iconst (-1), 1) := by decide +kernel
theorem d_M_pointAt_55 : decode b_M_pointAt 55 = .ok (.ireturn, 1) := by decide +kernel
theorem d_M_kind_0 : decode b_M_kind 0 = .ok (.iconst 0, 1) := by decide +kernel
theorem d_M_kind_1 : decode b_M_kind 1 = .ok (.istore_n 2, 1) := by decide +kernel
theorem d_M_kind_2 : decode b_M_kind 2 = .ok (.iconst 0, 1) := by decide +kernel
theorem d_M_kind_3 : decode b_M_kind 3 = .ok (.istore_n 3, 1) := by decide +kernel
theorem d_M_kind_4 : decode b_M_kind 4 = .ok (.iload_n 3, 1) := by decide +kernel
theorem d_M_kind_5 : decode b_M_kind 5 = .ok (.iconst 3, 1) := by decide +kernel
theorem d_M_kind_6 : decode b_M_kind 6 = .ok (.if_icmp .ge 30, 3) := by decide +kernel
theorem d_M_kind_9 : decode b_M_kind 9 = .ok (.iload_n 2, 1) := by decide +kernel
theorem d_M_kind_10 : decode b_M_kind 10 = .ok (.aload_n 0, 1) := by decide +kernel
theorem d_M_kind_11 : decode b_M_kind 11 = .ok (.getfield 22, 3) := by decide +kernel
theorem d_M_kind_14 : decode b_M_kind 14 = .ok (.iconst 3, 1) := by decide +kernel
theorem d_M_kind_15 : decode b_M_kind 15 = .ok (.iload_n 1, 1) := by decide +kernel
theorem d_M_kind_16 : decode b_M_kind 16 = .ok (.imul, 1) := by decide +kernel
theorem d_M_kind_17 : decode b_M_kind 17 = .ok (.iload_n 3, 1) := by decide +kernel
theorem d_M_kind_18 : decode b_M_kind 18 = .ok (.iadd, 1) := by decide +kernel
theorem d_M_kind_19 : decode b_M_kind 19 = .ok (.iaload, 1) := by decide +kernel
theorem d_M_kind_20 : decode b_M_kind 20 = .ok (.ifCond .ne 7, 3) := by decide +kernel
theorem d_M_kind_23 : decode b_M_kind 23 = .ok (.iconst 0, 1) := by decide +kernel
theorem d_M_kind_24 : decode b_M_kind 24 = .ok (.goto 4, 3) := by decide +kernel
theorem d_M_kind_27 : decode b_M_kind 27 = .ok (.iconst 1, 1) := by decide +kernel
theorem d_M_kind_28 : decode b_M_kind 28 = .ok (.iadd, 1) := by decide +kernel
theorem d_M_kind_29 : decode b_M_kind 29 = .ok (.istore_n 2, 1) := by decide +kernel
theorem d_M_kind_30 : decode b_M_kind 30 = .ok (.iinc 3 1, 3) := by decide +kernel
theorem d_M_kind_33 : decode b_M_kind 33 = .ok (.goto (-29), 3) := by decide +kernel
theorem d_M_kind_36 : decode b_M_kind 36 = .ok (.iload_n 2, 1) := by decide +kernel
theorem d_M_kind_37 : decode b_M_kind 37 = .ok (.ireturn, 1) := by decide +kernel
theorem d_M_sideOf_0 : decode b_M_sideOf 0 = .ok (.aload_n 0, 1) := by decide +kernel
theorem d_M_sideOf_1 : decode b_M_sideOf 1 = .ok (.getfield 19, 3) := by decide +kernel
theorem d_M_sideOf_4 : decode b_M_sideOf 4 = .ok (.iconst 4, 1) := by decide +kernel
theorem d_M_sideOf_5 : decode b_M_sideOf 5 = .ok (.iload_n 2, 1) := by decide +kernel
theorem d_M_sideOf_6 : decode b_M_sideOf 6 = .ok (.imul, 1) := by decide +kernel
theorem d_M_sideOf_7 : decode b_M_sideOf 7 = .ok (.iaload, 1) := by decide +kernel
theorem d_M_sideOf_8 : decode b_M_sideOf 8 = .ok (.aload_n 0, 1) := by decide +kernel
theorem d_M_sideOf_9 : decode b_M_sideOf 9 = .ok (.getfield 7, 3) := by decide +kernel
theorem d_M_sideOf_12 : decode b_M_sideOf 12 = .ok (.iload_n 1, 1) := by decide +kernel
theorem d_M_sideOf_13 : decode b_M_sideOf 13 = .ok (.iaload, 1) := by decide +kernel
theorem d_M_sideOf_14 : decode b_M_sideOf 14 = .ok (.imul, 1) := by decide +kernel
theorem d_M_sideOf_15 : decode b_M_sideOf 15 = .ok (.aload_n 0, 1) := by decide +kernel
theorem d_M_sideOf_16 : decode b_M_sideOf 16 = .ok (.getfield 19, 3) := by decide +kernel
theorem d_M_sideOf_19 : decode b_M_sideOf 19 = .ok (.iconst 4, 1) := by decide +kernel
theorem d_M_sideOf_20 : decode b_M_sideOf 20 = .ok (.iload_n 2, 1) := by decide +kernel
theorem d_M_sideOf_21 : decode b_M_sideOf 21 = .ok (.imul, 1) := by decide +kernel
theorem d_M_sideOf_22 : decode b_M_sideOf 22 = .ok (.iconst 1, 1) := by decide +kernel
theorem d_M_sideOf_23 : decode b_M_sideOf 23 = .ok (.iadd, 1) := by decide +kernel
theorem d_M_sideOf_24 : decode b_M_sideOf 24 = .ok (.iaload, 1) := by decide +kernel
theorem d_M_sideOf_25 : decode b_M_sideOf 25 = .ok (.aload_n 0, 1) := by decide +kernel
theorem d_M_sideOf_26 : decode b_M_sideOf 26 = .ok (.getfield 13, 3) := by decide +kernel
theorem d_M_sideOf_29 : decode b_M_sideOf 29 = .ok (.iload_n 1, 1) := by decide +kernel
theorem d_M_sideOf_30 : decode b_M_sideOf 30 = .ok (.iaload, 1) := by decide +kernel
theorem d_M_sideOf_31 : decode b_M_sideOf 31 = .ok (.imul, 1) := by decide +kernel
theorem d_M_sideOf_32 : decode b_M_sideOf 32 = .ok (.iadd, 1) := by decide +kernel
theorem d_M_sideOf_33 : decode b_M_sideOf 33 = .ok (.aload_n 0, 1) := by decide +kernel
theorem d_M_sideOf_34 : decode b_M_sideOf 34 = .ok (.getfield 19, 3) := by decide +kernel
theorem d_M_sideOf_37 : decode b_M_sideOf 37 = .ok (.iconst 4, 1) := by decide +kernel
theorem d_M_sideOf_38 : decode b_M_sideOf 38 = .ok (.iload_n 2, 1) := by decide +kernel
theorem d_M_sideOf_39 : decode b_M_sideOf 39 = .ok (.imul, 1) := by decide +kernel
theorem d_M_sideOf_40 : decode b_M_sideOf 40 = .ok (.iconst 2, 1) := by decide +kernel
theorem d_M_sideOf_41 : decode b_M_sideOf 41 = .ok (.iadd, 1) := by decide +kernel
theorem d_M_sideOf_42 : decode b_M_sideOf 42 = .ok (.iaload, 1) := by decide +kernel
theorem d_M_sideOf_43 : decode b_M_sideOf 43 = .ok (.aload_n 0, 1) := by decide +kernel
theorem d_M_sideOf_44 : decode b_M_sideOf 44 = .ok (.getfield 16, 3) := by decide +kernel
theorem d_M_sideOf_47 : decode b_M_sideOf 47 = .ok (.iload_n 1, 1) := by decide +kernel
theorem d_M_sideOf_48 : decode b_M_sideOf 48 = .ok (.iaload, 1) := by decide +kernel
theorem d_M_sideOf_49 : decode b_M_sideOf 49 = .ok (.imul, 1) := by decide +kernel
theorem d_M_sideOf_50 : decode b_M_sideOf 50 = .ok (.iadd, 1) := by decide +kernel
theorem d_M_sideOf_51 : decode b_M_sideOf 51 = .ok (.aload_n 0, 1) := by decide +kernel
theorem d_M_sideOf_52 : decode b_M_sideOf 52 = .ok (.getfield 19, 3) := by decide +kernel
theorem d_M_sideOf_55 : decode b_M_sideOf 55 = .ok (.iconst 4, 1) := by decide +kernel
theorem d_M_sideOf_56 : decode b_M_sideOf 56 = .ok (.iload_n 2, 1) := by decide +kernel
theorem d_M_sideOf_57 : decode b_M_sideOf 57 = .ok (.imul, 1) := by decide +kernel
theorem d_M_sideOf_58 : decode b_M_sideOf 58 = .ok (.iconst 3, 1) := by decide +kernel
theorem d_M_sideOf_59 : decode b_M_sideOf 59 = .ok (.iadd, 1) := by decide +kernel
theorem d_M_sideOf_60 : decode b_M_sideOf 60 = .ok (.iaload, 1) := by decide +kernel
theorem d_M_sideOf_61 : decode b_M_sideOf 61 = .ok (.isub, 1) := by decide +kernel
theorem d_M_sideOf_62 : decode b_M_sideOf 62 = .ok (.istore_n 3, 1) := by decide +kernel
theorem d_M_sideOf_63 : decode b_M_sideOf 63 = .ok (.iload_n 3, 1) := by decide +kernel
theorem d_M_sideOf_64 : decode b_M_sideOf 64 = .ok (.ifCond .ge 7, 3) := by decide +kernel
theorem d_M_sideOf_67 : decode b_M_sideOf 67 = .ok (.iconst 0, 1) := by decide +kernel
theorem d_M_sideOf_68 : decode b_M_sideOf 68 = .ok (.goto 12, 3) := by decide +kernel
theorem d_M_sideOf_71 : decode b_M_sideOf 71 = .ok (.iload_n 3, 1) := by decide +kernel
theorem d_M_sideOf_72 : decode b_M_sideOf 72 = .ok (.ifCond .ne 7, 3) := by decide +kernel
theorem d_M_sideOf_75 : decode b_M_sideOf 75 = .ok (.iconst 1, 1) := by decide +kernel
theorem d_M_sideOf_76 : decode b_M_sideOf 76 = .ok (.goto 4, 3) := by decide +kernel
theorem d_M_sideOf_79 : decode b_M_sideOf 79 = .ok (.iconst 2, 1) := by decide +kernel
theorem d_M_sideOf_80 : decode b_M_sideOf 80 = .ok (.ireturn, 1) := by decide +kernel
theorem d_M_isAlike_0 : decode b_M_isAlike 0 = .ok (.iconst 0, 1) := by decide +kernel
theorem d_M_isAlike_1 : decode b_M_isAlike 1 = .ok (.istore_n 3, 1) := by decide +kernel
theorem d_M_isAlike_2 : decode b_M_isAlike 2 = .ok (.iload_n 3, 1) := by decide +kernel
theorem d_M_isAlike_3 : decode b_M_isAlike 3 = .ok (.aload_n 0, 1) := by decide +kernel
theorem d_M_isAlike_4 : decode b_M_isAlike 4 = .ok (.getfield 62, 3) := by decide +kernel
theorem d_M_isAlike_7 : decode b_M_isAlike 7 = .ok (.if_icmp .ge 26, 3) := by decide +kernel
theorem d_M_isAlike_10 : decode b_M_isAlike 10 = .ok (.aload_n 0, 1) := by decide +kernel
theorem d_M_isAlike_11 : decode b_M_isAlike 11 = .ok (.iload_n 1, 1) := by decide +kernel
theorem d_M_isAlike_12 : decode b_M_isAlike 12 = .ok (.iload_n 3, 1) := by decide +kernel
theorem d_M_isAlike_13 : decode b_M_isAlike 13 = .ok (.invokevirtual 116, 3) := by decide +kernel
theorem d_M_isAlike_16 : decode b_M_isAlike 16 = .ok (.aload_n 0, 1) := by decide +kernel
theorem d_M_isAlike_17 : decode b_M_isAlike 17 = .ok (.iload_n 2, 1) := by decide +kernel
theorem d_M_isAlike_18 : decode b_M_isAlike 18 = .ok (.iload_n 3, 1) := by decide +kernel
theorem d_M_isAlike_19 : decode b_M_isAlike 19 = .ok (.invokevirtual 116, 3) := by decide +kernel
theorem d_M_isAlike_22 : decode b_M_isAlike 22 = .ok (.if_icmp .eq 5, 3) := by decide +kernel
theorem d_M_isAlike_25 : decode b_M_isAlike 25 = .ok (.iconst 0, 1) := by decide +kernel
theorem d_M_isAlike_26 : decode b_M_isAlike 26 = .ok (.ireturn, 1) := by decide +kernel
theorem d_M_isAlike_27 : decode b_M_isAlike 27 = .ok (.iinc 3 1, 3) := by decide +kernel
theorem d_M_isAlike_30 : decode b_M_isAlike 30 = .ok (.goto (-28), 3) := by decide +kernel
theorem d_M_isAlike_33 : decode b_M_isAlike 33 = .ok (.iconst 1, 1) := by decide +kernel
theorem d_M_isAlike_34 : decode b_M_isAlike 34 = .ok (.ireturn, 1) := by decide +kernel
theorem d_M_leastOf_0 : decode b_M_leastOf 0 = .ok (.iconst 0, 1) := by decide +kernel
theorem d_M_leastOf_1 : decode b_M_leastOf 1 = .ok (.istore_n 2, 1) := by decide +kernel
theorem d_M_leastOf_2 : decode b_M_leastOf 2 = .ok (.aload_n 0, 1) := by decide +kernel
theorem d_M_leastOf_3 : decode b_M_leastOf 3 = .ok (.iload_n 1, 1) := by decide +kernel
theorem d_M_leastOf_4 : decode b_M_leastOf 4 = .ok (.iload_n 2, 1) := by decide +kernel
theorem d_M_leastOf_5 : decode b_M_leastOf 5 = .ok (.invokevirtual 119, 3) := by decide +kernel
theorem d_M_leastOf_8 : decode b_M_leastOf 8 = .ok (.ifCond .ne 9, 3) := by decide +kernel
theorem d_M_leastOf_11 : decode b_M_leastOf 11 = .ok (.iinc 2 1, 3) := by decide +kernel
theorem d_M_leastOf_14 : decode b_M_leastOf 14 = .ok (.goto (-12), 3) := by decide +kernel
theorem d_M_leastOf_17 : decode b_M_leastOf 17 = .ok (.iload_n 2, 1) := by decide +kernel
theorem d_M_leastOf_18 : decode b_M_leastOf 18 = .ok (.ireturn, 1) := by decide +kernel
theorem d_M_piecesTo_0 : decode b_M_piecesTo 0 = .ok (.iconst 0, 1) := by decide +kernel
theorem d_M_piecesTo_1 : decode b_M_piecesTo 1 = .ok (.istore_n 2, 1) := by decide +kernel
theorem d_M_piecesTo_2 : decode b_M_piecesTo 2 = .ok (.iconst 0, 1) := by decide +kernel
theorem d_M_piecesTo_3 : decode b_M_piecesTo 3 = .ok (.istore_n 3, 1) := by decide +kernel
theorem d_M_piecesTo_4 : decode b_M_piecesTo 4 = .ok (.iload_n 3, 1) := by decide +kernel
theorem d_M_piecesTo_5 : decode b_M_piecesTo 5 = .ok (.iload_n 1, 1) := by decide +kernel
theorem d_M_piecesTo_6 : decode b_M_piecesTo 6 = .ok (.if_icmp .ge 26, 3) := by decide +kernel
theorem d_M_piecesTo_9 : decode b_M_piecesTo 9 = .ok (.iload_n 2, 1) := by decide +kernel
theorem d_M_piecesTo_10 : decode b_M_piecesTo 10 = .ok (.aload_n 0, 1) := by decide +kernel
theorem d_M_piecesTo_11 : decode b_M_piecesTo 11 = .ok (.iload_n 3, 1) := by decide +kernel
theorem d_M_piecesTo_12 : decode b_M_piecesTo 12 = .ok (.invokevirtual 123, 3) := by decide +kernel
theorem d_M_piecesTo_15 : decode b_M_piecesTo 15 = .ok (.iload_n 3, 1) := by decide +kernel
theorem d_M_piecesTo_16 : decode b_M_piecesTo 16 = .ok (.if_icmp .ne 7, 3) := by decide +kernel
theorem d_M_piecesTo_19 : decode b_M_piecesTo 19 = .ok (.iconst 1, 1) := by decide +kernel
theorem d_M_piecesTo_20 : decode b_M_piecesTo 20 = .ok (.goto 4, 3) := by decide +kernel
theorem d_M_piecesTo_23 : decode b_M_piecesTo 23 = .ok (.iconst 0, 1) := by decide +kernel
theorem d_M_piecesTo_24 : decode b_M_piecesTo 24 = .ok (.iadd, 1) := by decide +kernel
theorem d_M_piecesTo_25 : decode b_M_piecesTo 25 = .ok (.istore_n 2, 1) := by decide +kernel
theorem d_M_piecesTo_26 : decode b_M_piecesTo 26 = .ok (.iinc 3 1, 3) := by decide +kernel
theorem d_M_piecesTo_29 : decode b_M_piecesTo 29 = .ok (.goto (-25), 3) := by decide +kernel
theorem d_M_piecesTo_32 : decode b_M_piecesTo 32 = .ok (.iload_n 2, 1) := by decide +kernel
theorem d_M_piecesTo_33 : decode b_M_piecesTo 33 = .ok (.ireturn, 1) := by decide +kernel
theorem d_M_isNow_0 : decode b_M_isNow 0 = .ok (.iconst 0, 1) := by decide +kernel
theorem d_M_isNow_1 : decode b_M_isNow 1 = .ok (.istore_n 1, 1) := by decide +kernel
theorem d_M_isNow_2 : decode b_M_isNow 2 = .ok (.iload_n 1, 1) := by decide +kernel
theorem d_M_isNow_3 : decode b_M_isNow 3 = .ok (.aload_n 0, 1) := by decide +kernel
theorem d_M_isNow_4 : decode b_M_isNow 4 = .ok (.getfield 59, 3) := by decide +kernel
theorem d_M_isNow_7 : decode b_M_isNow 7 = .ok (.if_icmp .ge 41, 3) := by decide +kernel
theorem d_M_isNow_10 : decode b_M_isNow 10 = .ok (.aload_n 0, 1) := by decide +kernel
theorem d_M_isNow_11 : decode b_M_isNow 11 = .ok (.getfield 25, 3) := by decide +kernel
theorem d_M_isNow_14 : decode b_M_isNow 14 = .ok (.iload_n 1, 1) := by decide +kernel
theorem d_M_isNow_15 : decode b_M_isNow 15 = .ok (.iaload, 1) := by decide +kernel
theorem d_M_isNow_16 : decode b_M_isNow 16 = .ok (.aload_n 0, 1) := by decide +kernel
theorem d_M_isNow_17 : decode b_M_isNow 17 = .ok (.getfield 46, 3) := by decide +kernel
theorem d_M_isNow_20 : decode b_M_isNow 20 = .ok (.iload_n 1, 1) := by decide +kernel
theorem d_M_isNow_21 : decode b_M_isNow 21 = .ok (.iaload, 1) := by decide +kernel
theorem d_M_isNow_22 : decode b_M_isNow 22 = .ok (.if_icmp .ne 18, 3) := by decide +kernel
theorem d_M_isNow_25 : decode b_M_isNow 25 = .ok (.aload_n 0, 1) := by decide +kernel
theorem d_M_isNow_26 : decode b_M_isNow 26 = .ok (.getfield 28, 3) := by decide +kernel
theorem d_M_isNow_29 : decode b_M_isNow 29 = .ok (.iload_n 1, 1) := by decide +kernel
theorem d_M_isNow_30 : decode b_M_isNow 30 = .ok (.iaload, 1) := by decide +kernel
theorem d_M_isNow_31 : decode b_M_isNow 31 = .ok (.aload_n 0, 1) := by decide +kernel
theorem d_M_isNow_32 : decode b_M_isNow 32 = .ok (.getfield 49, 3) := by decide +kernel
theorem d_M_isNow_35 : decode b_M_isNow 35 = .ok (.iload_n 1, 1) := by decide +kernel
theorem d_M_isNow_36 : decode b_M_isNow 36 = .ok (.iaload, 1) := by decide +kernel
theorem d_M_isNow_37 : decode b_M_isNow 37 = .ok (.if_icmp .eq 5, 3) := by decide +kernel
theorem d_M_isNow_40 : decode b_M_isNow 40 = .ok (.iconst 0, 1) := by decide +kernel
theorem d_M_isNow_41 : decode b_M_isNow 41 = .ok (.ireturn, 1) := by decide +kernel
theorem d_M_isNow_42 : decode b_M_isNow 42 = .ok (.iinc 1 1, 3) := by decide +kernel
theorem d_M_isNow_45 : decode b_M_isNow 45 = .ok (.goto (-43), 3) := by decide +kernel
theorem d_M_isNow_48 : decode b_M_isNow 48 = .ok (.iconst 1, 1) := by decide +kernel
theorem d_M_isNow_49 : decode b_M_isNow 49 = .ok (.ireturn, 1) := by decide +kernel
