theorem d_X_findTargets_0 : decode b_X_findTargets 0 = .ok (.iconst 0, 1) := by decide +kernel
theorem d_X_findTargets_1 : decode b_X_findTargets 1 = .ok (.istore_n 3, 1) := by decide +kernel
theorem d_X_findTargets_2 : decode b_X_findTargets 2 = .ok (.iload_n 3, 1) := by decide +kernel
theorem d_X_findTargets_3 : decode b_X_findTargets 3 = .ok (.aload_n 0, 1) := by decide +kernel
theorem d_X_findTargets_4 : decode b_X_findTargets 4 = .ok (.getfield 10, 3) := by decide +kernel
theorem d_X_findTargets_7 : decode b_X_findTargets 7 = .ok (.getfield 88, 3) := by decide +kernel
theorem d_X_findTargets_10 : decode b_X_findTargets 10 = .ok (.if_icmp .ge 75, 3) := by decide +kernel
theorem d_X_findTargets_13 : decode b_X_findTargets 13 = .ok (.aload_n 0, 1) := by decide +kernel
theorem d_X_findTargets_14 : decode b_X_findTargets 14 = .ok (.getfield 37, 3) := by decide +kernel
theorem d_X_findTargets_17 : decode b_X_findTargets 17 = .ok (.iload_n 3, 1) := by decide +kernel
theorem d_X_findTargets_18 : decode b_X_findTargets 18 = .ok (.iconst (-1), 1) := by decide +kernel
theorem d_X_findTargets_19 : decode b_X_findTargets 19 = .ok (.iastore, 1) := by decide +kernel
theorem d_X_findTargets_20 : decode b_X_findTargets 20 = .ok (.aload_n 0, 1) := by decide +kernel
theorem d_X_findTargets_21 : decode b_X_findTargets 21 = .ok (.getfield 10, 3) := by decide +kernel
theorem d_X_findTargets_24 : decode b_X_findTargets 24 = .ok (.iload_n 3, 1) := by decide +kernel
theorem d_X_findTargets_25 : decode b_X_findTargets 25 = .ok (.iload_n 2, 1) := by decide +kernel
theorem d_X_findTargets_26 : decode b_X_findTargets 26 = .ok (.invokevirtual 84, 3) := by decide +kernel
theorem d_X_findTargets_29 : decode b_X_findTargets 29 = .ok (.iconst 2, 1) := by decide +kernel
theorem d_X_findTargets_30 : decode b_X_findTargets 30 = .ok (.if_icmp .ne 49, 3) := by decide +kernel
theorem d_X_findTargets_33 : decode b_X_findTargets 33 = .ok (.aload_n 0, 1) := by decide +kernel
theorem d_X_findTargets_34 : decode b_X_findTargets 34 = .ok (.getfield 10, 3) := by decide +kernel
theorem d_X_findTargets_37 : decode b_X_findTargets 37 = .ok (.iload_n 3, 1) := by decide +kernel
theorem d_X_findTargets_38 : decode b_X_findTargets 38 = .ok (.aload_n 0, 1) := by decide +kernel
theorem d_X_findTargets_39 : decode b_X_findTargets 39 = .ok (.getfield 16, 3) := by decide +kernel
theorem d_X_findTargets_42 : decode b_X_findTargets 42 = .ok (.iload_n 1, 1) := by decide +kernel
theorem d_X_findTargets_43 : decode b_X_findTargets 43 = .ok (.iaload, 1) := by decide +kernel
theorem d_X_findTargets_44 : decode b_X_findTargets 44 = .ok (.invokevirtual 97, 3) := by decide +kernel
theorem d_X_findTargets_47 : decode b_X_findTargets 47 = .ok (.istore 4, 2) := by decide +kernel
theorem d_X_findTargets_49 : decode b_X_findTargets 49 = .ok (.iload 4, 2) := by decide +kernel
theorem d_X_findTargets_51 : decode b_X_findTargets 51 = .ok (.iconst (-1), 1) := by decide +kernel
theorem d_X_findTargets_52 : decode b_X_findTargets 52 = .ok (.if_icmp .eq 17, 3) := by decide +kernel
theorem d_X_findTargets_55 : decode b_X_findTargets 55 = .ok (.aload_n 0, 1) := by decide +kernel
theorem d_X_findTargets_56 : decode b_X_findTargets 56 = .ok (.getfield 10, 3) := by decide +kernel
theorem d_X_findTargets_59 : decode b_X_findTargets 59 = .ok (.iload 4, 2) := by decide +kernel
theorem d_X_findTargets_61 : decode b_X_findTargets 61 = .ok (.iload_n 2, 1) := by decide +kernel
theorem d_X_findTargets_62 : decode b_X_findTargets 62 = .ok (.invokevirtual 84, 3) := by decide +kernel
theorem d_X_findTargets_65 : decode b_X_findTargets 65 = .ok (.iconst 2, 1) := by decide +kernel
theorem d_X_findTargets_66 : decode b_X_findTargets 66 = .ok (.if_icmp .eq 5, 3) := by decide +kernel
theorem d_X_findTargets_69 : decode b_X_findTargets 69 = .ok (.iload_n 3, 1) := by decide +kernel
theorem d_X_findTargets_70 : decode b_X_findTargets 70 = .ok (.ireturn, 1) := by decide +kernel
theorem d_X_findTargets_71 : decode b_X_findTargets 71 = .ok (.aload_n 0, 1) := by decide +kernel
theorem d_X_findTargets_72 : decode b_X_findTargets 72 = .ok (.getfield 37, 3) := by decide +kernel
theorem d_X_findTargets_75 : decode b_X_findTargets 75 = .ok (.iload_n 3, 1) := by decide +kernel
theorem d_X_findTargets_76 : decode b_X_findTargets 76 = .ok (.iload 4, 2) := by decide +kernel
theorem d_X_findTargets_78 : decode b_X_findTargets 78 = .ok (.iastore, 1) := by decide +kernel
theorem d_X_findTargets_79 : decode b_X_findTargets 79 = .ok (.iinc 3 1, 3) := by decide +kernel
theorem d_X_findTargets_82 : decode b_X_findTargets 82 = .ok (.goto (-80), 3) := by decide +kernel
theorem d_X_findTargets_85 : decode b_X_findTargets 85 = .ok (.iconst (-1), 1) := by decide +kernel
theorem d_X_findTargets_86 : decode b_X_findTargets 86 = .ok (.ireturn, 1) := by decide +kernel
theorem d_X_turnByTargets_0 : decode b_X_turnByTargets 0 = .ok (.aload_n 0, 1) := by decide +kernel
theorem d_X_turnByTargets_1 : decode b_X_turnByTargets 1 = .ok (.getfield 34, 3) := by decide +kernel
theorem d_X_turnByTargets_4 : decode b_X_turnByTargets 4 = .ok (.aload_n 1, 1) := by decide +kernel
theorem d_X_turnByTargets_5 : decode b_X_turnByTargets 5 = .ok (.invokevirtual 126, 3) := by decide +kernel
theorem d_X_turnByTargets_8 : decode b_X_turnByTargets 8 = .ok (.iconst 0, 1) := by decide +kernel
theorem d_X_turnByTargets_9 : decode b_X_turnByTargets 9 = .ok (.istore_n 3, 1) := by decide +kernel
theorem d_X_turnByTargets_10 : decode b_X_turnByTargets 10 = .ok (.iload_n 3, 1) := by decide +kernel
theorem d_X_turnByTargets_11 : decode b_X_turnByTargets 11 = .ok (.aload_n 0, 1) := by decide +kernel
theorem d_X_turnByTargets_12 : decode b_X_turnByTargets 12 = .ok (.getfield 10, 3) := by decide +kernel
theorem d_X_turnByTargets_15 : decode b_X_turnByTargets 15 = .ok (.getfield 88, 3) := by decide +kernel
theorem d_X_turnByTargets_18 : decode b_X_turnByTargets 18 = .ok (.if_icmp .ge 59, 3) := by decide +kernel
theorem d_X_turnByTargets_21 : decode b_X_turnByTargets 21 = .ok (.aload_n 0, 1) := by decide +kernel
theorem d_X_turnByTargets_22 : decode b_X_turnByTargets 22 = .ok (.getfield 37, 3) := by decide +kernel
theorem d_X_turnByTargets_25 : decode b_X_turnByTargets 25 = .ok (.iload_n 3, 1) := by decide +kernel
theorem d_X_turnByTargets_26 : decode b_X_turnByTargets 26 = .ok (.iaload, 1) := by decide +kernel
theorem d_X_turnByTargets_27 : decode b_X_turnByTargets 27 = .ok (.istore 4, 2) := by decide +kernel
theorem d_X_turnByTargets_29 : decode b_X_turnByTargets 29 = .ok (.iload 4, 2) := by decide +kernel
theorem d_X_turnByTargets_31 : decode b_X_turnByTargets 31 = .ok (.iconst (-1), 1) := by decide +kernel
theorem d_X_turnByTargets_32 : decode b_X_turnByTargets 32 = .ok (.if_icmp .eq 39, 3) := by decide +kernel
theorem d_X_turnByTargets_35 : decode b_X_turnByTargets 35 = .ok (.aload_n 1, 1) := by decide +kernel
theorem d_X_turnByTargets_36 : decode b_X_turnByTargets 36 = .ok (.getfield 107, 3) := by decide +kernel
theorem d_X_turnByTargets_39 : decode b_X_turnByTargets 39 = .ok (.iload 4, 2) := by decide +kernel
theorem d_X_turnByTargets_41 : decode b_X_turnByTargets 41 = .ok (.aload_n 0, 1) := by decide +kernel
theorem d_X_turnByTargets_42 : decode b_X_turnByTargets 42 = .ok (.getfield 34, 3) := by decide +kernel
theorem d_X_turnByTargets_45 : decode b_X_turnByTargets 45 = .ok (.getfield 107, 3) := by decide +kernel
theorem d_X_turnByTargets_48 : decode b_X_turnByTargets 48 = .ok (.iload_n 3, 1) := by decide +kernel
theorem d_X_turnByTargets_49 : decode b_X_turnByTargets 49 = .ok (.iaload, 1) := by decide +kernel
theorem d_X_turnByTargets_50 : decode b_X_turnByTargets 50 = .ok (.iastore, 1) := by decide +kernel
theorem d_X_turnByTargets_51 : decode b_X_turnByTargets 51 = .ok (.aload_n 1, 1) := by decide +kernel
theorem d_X_turnByTargets_52 : decode b_X_turnByTargets 52 = .ok (.getfield 110, 3) := by decide +kernel
theorem d_X_turnByTargets_55 : decode b_X_turnByTargets 55 = .ok (.iload 4, 2) := by decide +kernel
theorem d_X_turnByTargets_57 : decode b_X_turnByTargets 57 = .ok (.iload_n 2, 1) := by decide +kernel
theorem d_X_turnByTargets_58 : decode b_X_turnByTargets 58 = .ok (.aload_n 0, 1) := by decide +kernel
theorem d_X_turnByTargets_59 : decode b_X_turnByTargets 59 = .ok (.getfield 34, 3) := by decide +kernel
theorem d_X_turnByTargets_62 : decode b_X_turnByTargets 62 = .ok (.getfield 110, 3) := by decide +kernel
theorem d_X_turnByTargets_65 : decode b_X_turnByTargets 65 = .ok (.iload_n 3, 1) := by decide +kernel
theorem d_X_turnByTargets_66 : decode b_X_turnByTargets 66 = .ok (.iaload, 1) := by decide +kernel
theorem d_X_turnByTargets_67 : decode b_X_turnByTargets 67 = .ok (.invokestatic 130, 3) := by decide +kernel
theorem d_X_turnByTargets_70 : decode b_X_turnByTargets 70 = .ok (.iastore, 1) := by decide +kernel
theorem d_X_turnByTargets_71 : decode b_X_turnByTargets 71 = .ok (.iinc 3 1, 3) := by decide +kernel
theorem d_X_turnByTargets_74 : decode b_X_turnByTargets 74 = .ok (.goto (-64), 3) := by decide +kernel
theorem d_X_turnByTargets_77 : decode b_X_turnByTargets 77 = .ok (.return_, 1) := by decide +kernel
theorem d_X_plane_0 : decode b_X_plane 0 = .ok (.aload_n 0, 1) := by decide +kernel
theorem d_X_plane_1 : decode b_X_plane 1 = .ok (.getfield 10, 3) := by decide +kernel
theorem d_X_plane_4 : decode b_X_plane 4 = .ok (.iload_n 1, 1) := by decide +kernel
theorem d_X_plane_5 : decode b_X_plane 5 = .ok (.iload_n 2, 1) := by decide +kernel
theorem d_X_plane_6 : decode b_X_plane 6 = .ok (.iload_n 3, 1) := by decide +kernel
theorem d_X_plane_7 : decode b_X_plane 7 = .ok (.iload 4, 2) := by decide +kernel
theorem d_X_plane_9 : decode b_X_plane 9 = .ok (.invokevirtual 57, 3) := by decide +kernel
theorem d_X_plane_12 : decode b_X_plane 12 = .ok (.ireturn, 1) := by decide +kernel
theorem d_X_axis_0 : decode b_X_axis 0 = .ok (.iload_n 1, 1) := by decide +kernel
theorem d_X_axis_1 : decode b_X_axis 1 = .ok (.iconst 1, 1) := by decide +kernel
theorem d_X_axis_2 : decode b_X_axis 2 = .ok (.invokestatic 61, 3) := by decide +kernel
theorem d_X_axis_5 : decode b_X_axis 5 = .ok (.ifCond .eq 19, 3) := by decide +kernel
theorem d_X_axis_8 : decode b_X_axis 8 = .ok (.iload_n 2, 1) := by decide +kernel
theorem d_X_axis_9 : decode b_X_axis 9 = .ok (.iconst 1, 1) := by decide +kernel
theorem d_X_axis_10 : decode b_X_axis 10 = .ok (.invokestatic 61, 3) := by decide +kernel
theorem d_X_axis_13 : decode b_X_axis 13 = .ok (.ifCond .eq 11, 3) := by decide +kernel
theorem d_X_axis_16 : decode b_X_axis 16 = .ok (.iload_n 3, 1) := by decide +kernel
theorem d_X_axis_17 : decode b_X_axis 17 = .ok (.iconst 1, 1) := by decide +kernel
theorem d_X_axis_18 : decode b_X_axis 18 = .ok (.invokestatic 61, 3) := by decide +kernel
theorem d_X_axis_21 : decode b_X_axis 21 = .ok (.ifCond .ne 5, 3) := by decide +kernel
theorem d_X_axis_24 : decode b_X_axis 24 = .ok (.iconst (-1), 1) := by decide +kernel
theorem d_X_axis_25 : decode b_X_axis 25 = .ok (.ireturn, 1) := by decide +kernel
theorem d_X_axis_26 : decode b_X_axis 26 = .ok (.iload_n 1, 1) := by decide +kernel
theorem d_X_axis_27 : decode b_X_axis 27 = .ok (.ifCond .ne 11, 3) := by decide +kernel
theorem d_X_axis_30 : decode b_X_axis 30 = .ok (.iload_n 2, 1) := by decide +kernel
theorem d_X_axis_31 : decode b_X_axis 31 = .ok (.ifCond .ne 7, 3) := by decide +kernel
theorem d_X_axis_34 : decode b_X_axis 34 = .ok (.iload_n 3, 1) := by decide +kernel
theorem d_X_axis_35 : decode b_X_axis 35 = .ok (.ifCond .eq 12, 3) := by decide +kernel
theorem d_X_axis_38 : decode b_X_axis 38 = .ok (.aload_n 0, 1) := by decide +kernel
theorem d_X_axis_39 : decode b_X_axis 39 = .ok (.getfield 20, 3) := by decide +kernel
theorem d_X_axis_42 : decode b_X_axis 42 = .ok (.bipush 13, 2) := by decide +kernel
theorem d_X_axis_44 : decode b_X_axis 44 = .ok (.if_icmp .lt 5, 3) := by decide +kernel
theorem d_X_axis_47 : decode b_X_axis 47 = .ok (.iconst (-1), 1) := by decide +kernel
theorem d_X_axis_48 : decode b_X_axis 48 = .ok (.ireturn, 1) := by decide +kernel
theorem d_X_axis_49 : decode b_X_axis 49 = .ok (.aload_n 0, 1) := by decide +kernel
theorem d_X_axis_50 : decode b_X_axis 50 = .ok (.getfield 16, 3) := by decide +kernel
theorem d_X_axis_53 : decode b_X_axis 53 = .ok (.aload_n 0, 1) := by decide +kernel
theorem d_X_axis_54 : decode b_X_axis 54 = .ok (.getfield 20, 3) := by decide +kernel
theorem d_X_axis_57 : decode b_X_axis 57 = .ok (.iload_n 1, 1) := by decide +kernel
theorem d_X_axis_58 : decode b_X_axis 58 = .ok (.iload_n 2, 1) := by decide +kernel
theorem d_X_axis_59 : decode b_X_axis 59 = .ok (.iload_n 3, 1) := by decide +kernel
theorem d_X_axis_60 : decode b_X_axis 60 = .ok (.invokestatic 65, 3) := by decide +kernel
theorem d_X_axis_63 : decode b_X_axis 63 = .ok (.iastore, 1) := by decide +kernel
theorem d_X_axis_64 : decode b_X_axis 64 = .ok (.aload_n 0, 1) := by decide +kernel
theorem d_X_axis_65 : decode b_X_axis 65 = .ok (.dup, 1) := by decide +kernel
theorem d_X_axis_66 : decode b_X_axis 66 = .ok (.getfield 20, 3) := by decide +kernel
theorem d_X_axis_69 : decode b_X_axis 69 = .ok (.iconst 1, 1) := by decide +kernel
theorem d_X_axis_70 : decode b_X_axis 70 = .ok (.iadd, 1) := by decide +kernel
theorem d_X_axis_71 : decode b_X_axis 71 = .ok (.putfield 20, 3) := by decide +kernel
theorem d_X_axis_74 : decode b_X_axis 74 = .ok (.aload_n 0, 1) := by decide +kernel
theorem d_X_axis_75 : decode b_X_axis 75 = .ok (.getfield 20, 3) := by decide +kernel
theorem d_X_axis_78 : decode b_X_axis 78 = .ok (.iconst 1, 1) := by decide +kernel
theorem d_X_axis_79 : decode b_X_axis 79 = .ok (.isub, 1) := by decide +kernel
theorem d_X_axis_80 : decode b_X_axis 80 = .ok (.ireturn, 1) := by decide +kernel
theorem d_X_point_0 : decode b_X_point 0 = .ok (.aload_n 0, 1) := by decide +kernel
theorem d_X_point_1 : decode b_X_point 1 = .ok (.getfield 10, 3) := by decide +kernel
theorem d_X_point_4 : decode b_X_point 4 = .ok (.iload_n 1, 1) := by decide +kernel
theorem d_X_point_5 : decode b_X_point 5 = .ok (.iload_n 2, 1) := by decide +kernel
theorem d_X_point_6 : decode b_X_point 6 = .ok (.iload_n 3, 1) := by decide +kernel
theorem d_X_point_7 : decode b_X_point 7 = .ok (.invokevirtual 50, 3) := by decide +kernel
theorem d_X_point_10 : decode b_X_point 10 = .ok (.istore 4, 2) := by decide +kernel
theorem d_X_point_12 : decode b_X_point 12 = .ok (.iload 4, 2) := by decide +kernel
theorem d_X_point_14 : decode b_X_point 14 = .ok (.iconst (-1), 1) := by decide +kernel
theorem d_X_point_15 : decode b_X_point 15 = .ok (.if_icmp .eq 10, 3) := by decide +kernel
theorem d_X_point_18 : decode b_X_point 18 = .ok (.aload_n 0, 1) := by decide +kernel
theorem d_X_point_19 : decode b_X_point 19 = .ok (.getfield 27, 3) := by decide +kernel
theorem d_X_point_22 : decode b_X_point 22 = .ok (.invokevirtual 54, 3) := by decide +kernel
theorem d_X_point_25 : decode b_X_point 25 = .ok (.iload 4, 2) := by decide +kernel
theorem d_X_point_27 : decode b_X_point 27 = .ok (.ireturn, 1) := by decide +kernel
theorem d_X_cycle_0 : decode b_X_cycle 0 = .ok (.aload_n 0, 1) := by decide +kernel
theorem d_X_cycle_1 : decode b_X_cycle 1 = .ok (.iload_n 1, 1) := by decide +kernel
theorem d_X_cycle_2 : decode b_X_cycle 2 = .ok (.invokevirtual 70, 3) := by decide +kernel
theorem d_X_cycle_5 : decode b_X_cycle 5 = .ok (.ifCond .eq 25, 3) := by decide +kernel
theorem d_X_cycle_8 : decode b_X_cycle 8 = .ok (.aload_n 0, 1) := by decide +kernel
theorem d_X_cycle_9 : decode b_X_cycle 9 = .ok (.getfield 10, 3) := by decide +kernel
theorem d_X_cycle_12 : decode b_X_cycle 12 = .ok (.iload_n 2, 1) := by decide +kernel
theorem d_X_cycle_13 : decode b_X_cycle 13 = .ok (.invokevirtual 81, 3) := by decide +kernel
theorem d_X_cycle_16 : decode b_X_cycle 16 = .ok (.ifCond .eq 14, 3) := by decide +kernel
theorem d_X_cycle_19 : decode b_X_cycle 19 = .ok (.aload_n 0, 1) := by decide +kernel
theorem d_X_cycle_20 : decode b_X_cycle 20 = .ok (.getfield 10, 3) := by decide +kernel
theorem d_X_cycle_23 : decode b_X_cycle 23 = .ok (.iload_n 3, 1) := by decide +kernel
theorem d_X_cycle_24 : decode b_X_cycle 24 = .ok (.invokevirtual 78, 3) := by decide +kernel
theorem d_X_cycle_27 : decode b_X_cycle 27 = .ok (.ifCond .ne 5, 3) := by decide +kernel
theorem d_X_cycle_30 : decode b_X_cycle 30 = .ok (.iconst 0, 1) := by decide +kernel
theorem d_X_cycle_31 : decode b_X_cycle 31 = .ok (.ireturn, 1) := by decide +kernel
theorem d_X_cycle_32 : decode b_X_cycle 32 = .ok (.aload_n 0, 1) := by decide +kernel
theorem d_X_cycle_33 : decode b_X_cycle 33 = .ok (.iload_n 1, 1) := by decide +kernel
theorem d_X_cycle_34 : decode b_X_cycle 34 = .ok (.iload_n 2, 1) := by decide +kernel
theorem d_X_cycle_35 : decode b_X_cycle 35 = .ok (.invokevirtual 100, 3) := by decide +kernel
theorem d_X_cycle_38 : decode b_X_cycle 38 = .ok (.iconst (-1), 1) := by decide +kernel
theorem d_X_cycle_39 : decode b_X_cycle 39 = .ok (.if_icmp .eq 5, 3) := by decide +kernel
theorem d_X_cycle_42 : decode b_X_cycle 42 = .ok (.iconst 0, 1) := by decide +kernel
theorem d_X_cycle_43 : decode b_X_cycle 43 = .ok (.ireturn, 1) := by decide +kernel
theorem d_X_cycle_44 : decode b_X_cycle 44 = .ok (.iconst 1, 1) := by decide +kernel
theorem d_X_cycle_45 : decode b_X_cycle 45 = .ok (.istore 4, 2) := by decide +kernel
theorem d_X_cycle_47 : decode b_X_cycle 47 = .ok (.aload_n 0, 1) := by decide +kernel
theorem d_X_cycle_48 : decode b_X_cycle 48 = .ok (.getfield 37, 3) := by decide +kernel
theorem d_X_cycle_51 : decode b_X_cycle 51 = .ok (.iload_n 3, 1) := by decide +kernel
theorem d_X_cycle_52 : decode b_X_cycle 52 = .ok (.iaload, 1) := by decide +kernel
theorem d_X_cycle_53 : decode b_X_cycle 53 = .ok (.istore 5, 2) := by decide +kernel
theorem d_X_cycle_55 : decode b_X_cycle 55 = .ok (.iload 5, 2) := by decide +kernel
theorem d_X_cycle_57 : decode b_X_cycle 57 = .ok (.iconst (-1), 1) := by decide +kernel
theorem d_X_cycle_58 : decode b_X_cycle 58 = .ok (.if_icmp .eq 31, 3) := by decide +kernel
theorem d_X_cycle_61 : decode b_X_cycle 61 = .ok (.iload 5, 2) := by decide +kernel
theorem d_X_cycle_63 : decode b_X_cycle 63 = .ok (.iload_n 3, 1) := by decide +kernel
theorem d_X_cycle_64 : decode b_X_cycle 64 = .ok (.if_icmp .eq 25, 3) := by decide +kernel
theorem d_X_cycle_67 : decode b_X_cycle 67 = .ok (.iload 4, 2) := by decide +kernel
theorem d_X_cycle_69 : decode b_X_cycle 69 = .ok (.bipush 60, 2) := by decide +kernel
theorem d_X_cycle_71 : decode b_X_cycle 71 = .ok (.if_icmp .ge 18, 3) := by decide +kernel
theorem d_X_cycle_74 : decode b_X_cycle 74 = .ok (.aload_n 0, 1) := by decide +kernel
theorem d_X_cycle_75 : decode b_X_cycle 75 = .ok (.getfield 37, 3) := by decide +kernel
theorem d_X_cycle_78 : decode b_X_cycle 78 = .ok (.iload 5, 2) := by decide +kernel
theorem d_X_cycle_80 : decode b_X_cycle 80 = .ok (.iaload, 1) := by decide +kernel
theorem d_X_cycle_81 : decode b_X_cycle 81 = .ok (.istore 5, 2) := by decide +kernel
theorem d_X_cycle_83 : decode b_X_cycle 83 = .ok (.iinc 4 1, 3) := by decide +kernel
theorem d_X_cycle_86 : decode b_X_cycle 86 = .ok (.goto (-31), 3) := by decide +kernel
theorem d_X_cycle_89 : decode b_X_cycle 89 = .ok (.iload 4, 2) := by decide +kernel
theorem d_X_cycle_91 : decode b_X_cycle 91 = .ok (.ireturn, 1) := by decide +kernel
theorem d_X_turn_0 : decode b_X_turn 0 = .ok (.aload_n 0, 1) := by decide +kernel
theorem d_X_turn_1 : decode b_X_turn 1 = .ok (.iload_n 1, 1) := by decide +kernel
theorem d_X_turn_2 : decode b_X_turn 2 = .ok (.invokevirtual 70, 3) := by decide +kernel
theorem d_X_turn_5 : decode b_X_turn 5 = .ok (.ifCond .eq 25, 3) := by decide +kernel
theorem d_X_turn_8 : decode b_X_turn 8 = .ok (.aload_n 0, 1) := by decide +kernel
theorem d_X_turn_9 : decode b_X_turn 9 = .ok (.getfield 10, 3) := by decide +kernel
theorem d_X_turn_12 : decode b_X_turn 12 = .ok (.iload_n 2, 1) := by decide +kernel
theorem d_X_turn_13 : decode b_X_turn 13 = .ok (.invokevirtual 81, 3) := by decide +kernel
theorem d_X_turn_16 : decode b_X_turn 16 = .ok (.ifCond .eq 14, 3) := by decide +kernel
theorem d_X_turn_19 : decode b_X_turn 19 = .ok (.iload_n 3, 1) := by decide +kernel
theorem d_X_turn_20 : decode b_X_turn 20 = .ok (.iconst 1, 1) := by decide +kernel
theorem d_X_turn_21 : decode b_X_turn 21 = .ok (.if_icmp .lt 9, 3) := by decide +kernel
theorem d_X_turn_24 : decode b_X_turn 24 = .ok (.iload_n 3, 1) := by decide +kernel
theorem d_X_turn_25 : decode b_X_turn 25 = .ok (.bipush 12, 2) := by decide +kernel
theorem d_X_turn_27 : decode b_X_turn 27 = .ok (.if_icmp .le 5, 3) := by decide +kernel
theorem d_X_turn_30 : decode b_X_turn 30 = .ok (.iconst (-1), 1) := by decide +kernel
theorem d_X_turn_31 : decode b_X_turn 31 = .ok (.ireturn, 1) := by decide +kernel
theorem d_X_turn_32 : decode b_X_turn 32 = .ok (.aload_n 0, 1) := by decide +kernel
theorem d_X_turn_33 : decode b_X_turn 33 = .ok (.iload_n 1, 1) := by decide +kernel
theorem d_X_turn_34 : decode b_X_turn 34 = .ok (.iload_n 2, 1) := by decide +kernel
theorem d_X_turn_35 : decode b_X_turn 35 = .ok (.invokevirtual 100, 3) := by decide +kernel
theorem d_X_turn_38 : decode b_X_turn 38 = .ok (.istore 4, 2) := by decide +kernel
theorem d_X_turn_40 : decode b_X_turn 40 = .ok (.iload 4, 2) := by decide +kernel
theorem d_X_turn_42 : decode b_X_turn 42 = .ok (.iconst (-1), 1) := by decide +kernel
theorem d_X_turn_43 : decode b_X_turn 43 = .ok (.if_icmp .eq 8, 3) := by decide +kernel
theorem d_X_turn_46 : decode b_X_turn 46 = .ok (.iconst 1, 1) := by decide +kernel
theorem d_X_turn_47 : decode b_X_turn 47 = .ok (.iload 4, 2) := by decide +kernel
theorem d_X_turn_49 : decode b_X_turn 49 = .ok (.iadd, 1) := by decide +kernel
theorem d_X_turn_50 : decode b_X_turn 50 = .ok (.ireturn, 1) := by decide +kernel
theorem d_X_turn_51 : decode b_X_turn 51 = .ok (.iconst 0, 1) := by decide +kernel
theorem d_X_turn_52 : decode b_X_turn 52 = .ok (.istore 5, 2) := by decide +kernel
theorem d_X_turn_54 : decode b_X_turn 54 = .ok (.iload 5, 2) := by decide +kernel
theorem d_X_turn_56 : decode b_X_turn 56 = .ok (.iload_n 3, 1) := by decide +kernel
theorem d_X_turn_57 : decode b_X_turn 57 = .ok (.if_icmp .ge 23, 3) := by decide +kernel
theorem d_X_turn_60 : decode b_X_turn 60 = .ok (.aload_n 0, 1) := by decide +kernel
theorem d_X_turn_61 : decode b_X_turn 61 = .ok (.aload_n 0, 1) := by decide +kernel
theorem d_X_turn_62 : decode b_X_turn 62 = .ok (.getfield 27, 3) := by decide +kernel
theorem d_X_turn_65 : decode b_X_turn 65 = .ok (.aload_n 0, 1) := by decide +kernel
theorem d_X_turn_66 : decode b_X_turn 66 = .ok (.getfield 16, 3) := by decide +kernel
theorem d_X_turn_69 : decode b_X_turn 69 = .ok (.iload_n 1, 1) := by decide +kernel
theorem d_X_turn_70 : decode b_X_turn 70 = .ok (.iaload, 1) := by decide +kernel
theorem d_X_turn_71 : decode b_X_turn 71 = .ok (.invokevirtual 103, 3) := by decide +kernel
theorem d_X_turn_74 : decode b_X_turn 74 = .ok (.iinc 5 1, 3) := by decide +kernel
theorem d_X_turn_77 : decode b_X_turn 77 = .ok (.goto (-23), 3) := by decide +kernel
theorem d_X_turn_80 : decode b_X_turn 80 = .ok (.iconst 0, 1) := by decide +kernel
theorem d_X_turn_81 : decode b_X_turn 81 = .ok (.ireturn, 1) := by decide +kernel
theorem d_X_rounds_0 : decode b_X_rounds 0 = .ok (.iload_n 1, 1) := by decide +kernel
theorem d_X_rounds_1 : decode b_X_rounds 1 = .ok (.iconst 1, 1) := by decide +kernel
theorem d_X_rounds_2 : decode b_X_rounds 2 = .ok (.if_icmp .lt 22, 3) := by decide +kernel
theorem d_X_rounds_5 : decode b_X_rounds 5 = .ok (.iload_n 1, 1) := by decide +kernel
theorem d_X_rounds_6 : decode b_X_rounds 6 = .ok (.aload_n 0, 1) := by decide +kernel
theorem d_X_rounds_7 : decode b_X_rounds 7 = .ok (.getfield 20, 3) := by decide +kernel
theorem d_X_rounds_10 : decode b_X_rounds 10 = .ok (.if_icmp .gt 14, 3) := by decide +kernel
theorem d_X_rounds_13 : decode b_X_rounds 13 = .ok (.iload_n 1, 1) := by decide +kernel
theorem d_X_rounds_14 : decode b_X_rounds 14 = .ok (.aload_n 0, 1) := by decide +kernel
theorem d_X_rounds_15 : decode b_X_rounds 15 = .ok (.getfield 10, 3) := by decide +kernel
theorem d_X_rounds_18 : decode b_X_rounds 18 = .ok (.getfield 119, 3) := by decide +kernel
theorem d_X_rounds_21 : decode b_X_rounds 21 = .ok (.if_icmp .le 5, 3) := by decide +kernel
theorem d_X_rounds_24 : decode b_X_rounds 24 = .ok (.iconst 0, 1) := by decide +kernel
theorem d_X_rounds_25 : decode b_X_rounds 25 = .ok (.ireturn, 1) := by decide +kernel
theorem d_X_rounds_26 : decode b_X_rounds 26 = .ok (.aload_n 0, 1) := by decide +kernel
theorem d_X_rounds_27 : decode b_X_rounds 27 = .ok (.getfield 31, 3) := by decide +kernel
theorem d_X_rounds_30 : decode b_X_rounds 30 = .ok (.invokevirtual 54, 3) := by decide +kernel
theorem d_X_rounds_33 : decode b_X_rounds 33 = .ok (.iconst 0, 1) := by decide +kernel
theorem d_X_rounds_34 : decode b_X_rounds 34 = .ok (.istore_n 2, 1) := by decide +kernel
theorem d_X_rounds_35 : decode b_X_rounds 35 = .ok (.iload_n 2, 1) := by decide +kernel
theorem d_X_rounds_36 : decode b_X_rounds 36 = .ok (.iload_n 1, 1) := by decide +kernel
theorem d_X_rounds_37 : decode b_X_rounds 37 = .ok (.if_icmp .ge 35, 3) := by decide +kernel
theorem d_X_rounds_40 : decode b_X_rounds 40 = .ok (.aload_n 0, 1) := by decide +kernel
theorem d_X_rounds_41 : decode b_X_rounds 41 = .ok (.iload_n 2, 1) := by decide +kernel
theorem d_X_rounds_42 : decode b_X_rounds 42 = .ok (.iload_n 2, 1) := by decide +kernel
theorem d_X_rounds_43 : decode b_X_rounds 43 = .ok (.invokevirtual 100, 3) := by decide +kernel
theorem d_X_rounds_46 : decode b_X_rounds 46 = .ok (.iconst (-1), 1) := by decide +kernel
theorem d_X_rounds_47 : decode b_X_rounds 47 = .ok (.if_icmp .eq 5, 3) := by decide +kernel
theorem d_X_rounds_50 : decode b_X_rounds 50 = .ok (.iconst 0, 1) := by decide +kernel
theorem d_X_rounds_51 : decode b_X_rounds 51 = .ok (.ireturn, 1) := by decide +kernel
theorem d_X_rounds_52 : decode b_X_rounds 52 = .ok (.aload_n 0, 1) := by decide +kernel
theorem d_X_rounds_53 : decode b_X_rounds 53 = .ok (.aload_n 0, 1) := by decide +kernel
theorem d_X_rounds_54 : decode b_X_rounds 54 = .ok (.getfield 31, 3) := by decide +kernel
theorem d_X_rounds_57 : decode b_X_rounds 57 = .ok (.aload_n 0, 1) := by decide +kernel
theorem d_X_rounds_58 : decode b_X_rounds 58 = .ok (.getfield 16, 3) := by decide +kernel
theorem d_X_rounds_61 : decode b_X_rounds 61 = .ok (.iload_n 2, 1) := by decide +kernel
theorem d_X_rounds_62 : decode b_X_rounds 62 = .ok (.iaload, 1) := by decide +kernel
theorem d_X_rounds_63 : decode b_X_rounds 63 = .ok (.invokevirtual 103, 3) := by decide +kernel
theorem d_X_rounds_66 : decode b_X_rounds 66 = .ok (.iinc 2 1, 3) := by decide +kernel
theorem d_X_rounds_69 : decode b_X_rounds 69 = .ok (.goto (-34), 3) := by decide +kernel
theorem d_X_rounds_72 : decode b_X_rounds 72 = .ok (.aload_n 0, 1) := by decide +kernel
theorem d_X_rounds_73 : decode b_X_rounds 73 = .ok (.invokevirtual 122, 3) := by decide +kernel
theorem d_X_rounds_76 : decode b_X_rounds 76 = .ok (.ireturn, 1) := by decide +kernel
theorem d_X_cube_0 : decode b_X_cube 0 = .ok (.iload_n 1, 1) := by decide +kernel
theorem d_X_cube_1 : decode b_X_cube 1 = .ok (.ifCond .lt 8, 3) := by decide +kernel
theorem d_X_cube_4 : decode b_X_cube 4 = .ok (.iload_n 1, 1) := by decide +kernel
theorem d_X_cube_5 : decode b_X_cube 5 = .ok (.iconst 2, 1) := by decide +kernel
theorem d_X_cube_6 : decode b_X_cube 6 = .ok (.if_icmp .le 5, 3) := by decide +kernel
theorem d_X_cube_9 : decode b_X_cube 9 = .ok (.iconst (-1), 1) := by decide +kernel
theorem d_X_cube_10 : decode b_X_cube 10 = .ok (.ireturn, 1) := by decide +kernel
theorem d_X_cube_11 : decode b_X_cube 11 = .ok (.iconst 0, 1) := by decide +kernel
theorem d_X_cube_12 : decode b_X_cube 12 = .ok (.istore_n 2, 1) := by decide +kernel
theorem d_X_cube_13 : decode b_X_cube 13 = .ok (.iload_n 1, 1) := by decide +kernel
theorem d_X_cube_14 : decode b_X_cube 14 = .ok (.ineg, 1) := by decide +kernel
theorem d_X_cube_15 : decode b_X_cube 15 = .ok (.istore_n 3, 1) := by decide +kernel
theorem d_X_cube_16 : decode b_X_cube 16 = .ok (.iload_n 3, 1) := by decide +kernel
theorem d_X_cube_17 : decode b_X_cube 17 = .ok (.iload_n 1, 1) := by decide +kernel
theorem d_X_cube_18 : decode b_X_cube 18 = .ok (.if_icmp .gt 60, 3) := by decide +kernel
theorem d_X_cube_21 : decode b_X_cube 21 = .ok (.iload_n 1, 1) := by decide +kernel
theorem d_X_cube_22 : decode b_X_cube 22 = .ok (.ineg, 1) := by decide +kernel
theorem d_X_cube_23 : decode b_X_cube 23 = .ok (.istore 4, 2) := by decide +kernel
theorem d_X_cube_25 : decode b_X_cube 25 = .ok (.iload 4, 2) := by decide +kernel
theorem d_X_cube_27 : decode b_X_cube 27 = .ok (.iload_n 1, 1) := by decide +kernel
theorem d_X_cube_28 : decode b_X_cube 28 = .ok (.if_icmp .gt 44, 3) := by decide +kernel
theorem d_X_cube_31 : decode b_X_cube 31 = .ok (.iload_n 1, 1) := by decide +kernel
theorem d_X_cube_32 : decode b_X_cube 32 = .ok (.ineg, 1) := by decide +kernel
theorem d_X_cube_33 : decode b_X_cube 33 = .ok (.istore 5, 2) := by decide +kernel
theorem d_X_cube_35 : decode b_X_cube 35 = .ok (.iload 5, 2) := by decide +kernel
theorem d_X_cube_37 : decode b_X_cube 37 = .ok (.iload_n 1, 1) := by decide +kernel
theorem d_X_cube_38 : decode b_X_cube 38 = .ok (.if_icmp .gt 28, 3) := by decide +kernel
theorem d_X_cube_41 : decode b_X_cube 41 = .ok (.aload_n 0, 1) := by decide +kernel
theorem d_X_cube_42 : decode b_X_cube 42 = .ok (.getfield 10, 3) := by decide +kernel
theorem d_X_cube_45 : decode b_X_cube 45 = .ok (.iload_n 3, 1) := by decide +kernel
theorem d_X_cube_46 : decode b_X_cube 46 = .ok (.iload 4, 2) := by decide +kernel
theorem d_X_cube_48 : decode b_X_cube 48 = .ok (.iload 5, 2) := by decide +kernel
theorem d_X_cube_50 : decode b_X_cube 50 = .ok (.invokevirtual 50, 3) := by decide +kernel
theorem d_X_cube_53 : decode b_X_cube 53 = .ok (.iconst (-1), 1) := by decide +kernel
theorem d_X_cube_54 : decode b_X_cube 54 = .ok (.if_icmp .eq 6, 3) := by decide +kernel
theorem d_X_cube_57 : decode b_X_cube 57 = .ok (.iinc 2 1, 3) := by decide +kernel
theorem d_X_cube_60 : decode b_X_cube 60 = .ok (.iinc 5 1, 3) := by decide +kernel
theorem d_X_cube_63 : decode b_X_cube 63 = .ok (.goto (-28), 3) := by decide +kernel
theorem d_X_cube_66 : decode b_X_cube 66 = .ok (.iinc 4 1, 3) := by decide +kernel
theorem d_X_cube_69 : decode b_X_cube 69 = .ok (.goto (-44), 3) := by decide +kernel
theorem d_X_cube_72 : decode b_X_cube 72 = .ok (.iinc 3 1, 3) := by decide +kernel
theorem d_X_cube_75 : decode b_X_cube 75 = .ok (.goto (-59), 3) := by decide +kernel
theorem d_X_cube_78 : decode b_X_cube 78 = .ok (.aload_n 0, 1) := by decide +kernel
theorem d_X_cube_79 : decode b_X_cube 79 = .ok (.getfield 27, 3) := by decide +kernel
theorem d_X_cube_82 : decode b_X_cube 82 = .ok (.invokevirtual 54, 3) := by decide +kernel
theorem d_X_cube_85 : decode b_X_cube 85 = .ok (.iload_n 2, 1) := by decide +kernel
theorem d_X_cube_86 : decode b_X_cube 86 = .ok (.ireturn, 1) := by decide +kernel
