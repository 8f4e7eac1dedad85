theorem d_B_noteSide_0 : decode b_B_noteSide 0 = .ok (.aload_n 0, 1) := by decide +kernel
theorem d_B_noteSide_1 : decode b_B_noteSide 1 = .ok (.getfield 25, 3) := by decide +kernel
theorem d_B_noteSide_4 : decode b_B_noteSide 4 = .ok (.iload_n 2, 1) := by decide +kernel
theorem d_B_noteSide_5 : decode b_B_noteSide 5 = .ok (.iaload, 1) := by decide +kernel
theorem d_B_noteSide_6 : decode b_B_noteSide 6 = .ok (.aload_n 0, 1) := by decide +kernel
theorem d_B_noteSide_7 : decode b_B_noteSide 7 = .ok (.getfield 9, 3) := by decide +kernel
theorem d_B_noteSide_10 : decode b_B_noteSide 10 = .ok (.iload_n 1, 1) := by decide +kernel
theorem d_B_noteSide_11 : decode b_B_noteSide 11 = .ok (.iaload, 1) := by decide +kernel
theorem d_B_noteSide_12 : decode b_B_noteSide 12 = .ok (.imul, 1) := by decide +kernel
theorem d_B_noteSide_13 : decode b_B_noteSide 13 = .ok (.aload_n 0, 1) := by decide +kernel
theorem d_B_noteSide_14 : decode b_B_noteSide 14 = .ok (.getfield 28, 3) := by decide +kernel
theorem d_B_noteSide_17 : decode b_B_noteSide 17 = .ok (.iload_n 2, 1) := by decide +kernel
theorem d_B_noteSide_18 : decode b_B_noteSide 18 = .ok (.iaload, 1) := by decide +kernel
theorem d_B_noteSide_19 : decode b_B_noteSide 19 = .ok (.aload_n 0, 1) := by decide +kernel
theorem d_B_noteSide_20 : decode b_B_noteSide 20 = .ok (.getfield 15, 3) := by decide +kernel
theorem d_B_noteSide_23 : decode b_B_noteSide 23 = .ok (.iload_n 1, 1) := by decide +kernel
theorem d_B_noteSide_24 : decode b_B_noteSide 24 = .ok (.iaload, 1) := by decide +kernel
theorem d_B_noteSide_25 : decode b_B_noteSide 25 = .ok (.imul, 1) := by decide +kernel
theorem d_B_noteSide_26 : decode b_B_noteSide 26 = .ok (.iadd, 1) := by decide +kernel
theorem d_B_noteSide_27 : decode b_B_noteSide 27 = .ok (.aload_n 0, 1) := by decide +kernel
theorem d_B_noteSide_28 : decode b_B_noteSide 28 = .ok (.getfield 31, 3) := by decide +kernel
theorem d_B_noteSide_31 : decode b_B_noteSide 31 = .ok (.iload_n 2, 1) := by decide +kernel
theorem d_B_noteSide_32 : decode b_B_noteSide 32 = .ok (.iaload, 1) := by decide +kernel
theorem d_B_noteSide_33 : decode b_B_noteSide 33 = .ok (.aload_n 0, 1) := by decide +kernel
theorem d_B_noteSide_34 : decode b_B_noteSide 34 = .ok (.getfield 18, 3) := by decide +kernel
theorem d_B_noteSide_37 : decode b_B_noteSide 37 = .ok (.iload_n 1, 1) := by decide +kernel
theorem d_B_noteSide_38 : decode b_B_noteSide 38 = .ok (.iaload, 1) := by decide +kernel
theorem d_B_noteSide_39 : decode b_B_noteSide 39 = .ok (.imul, 1) := by decide +kernel
theorem d_B_noteSide_40 : decode b_B_noteSide 40 = .ok (.iadd, 1) := by decide +kernel
theorem d_B_noteSide_41 : decode b_B_noteSide 41 = .ok (.aload_n 0, 1) := by decide +kernel
theorem d_B_noteSide_42 : decode b_B_noteSide 42 = .ok (.getfield 34, 3) := by decide +kernel
theorem d_B_noteSide_45 : decode b_B_noteSide 45 = .ok (.iload_n 2, 1) := by decide +kernel
theorem d_B_noteSide_46 : decode b_B_noteSide 46 = .ok (.iaload, 1) := by decide +kernel
theorem d_B_noteSide_47 : decode b_B_noteSide 47 = .ok (.isub, 1) := by decide +kernel
theorem d_B_noteSide_48 : decode b_B_noteSide 48 = .ok (.istore_n 3, 1) := by decide +kernel
theorem d_B_noteSide_49 : decode b_B_noteSide 49 = .ok (.iload_n 3, 1) := by decide +kernel
theorem d_B_noteSide_50 : decode b_B_noteSide 50 = .ok (.ifCond .ge 7, 3) := by decide +kernel
theorem d_B_noteSide_53 : decode b_B_noteSide 53 = .ok (.lconst 0, 1) := by decide +kernel
theorem d_B_noteSide_54 : decode b_B_noteSide 54 = .ok (.goto 14, 3) := by decide +kernel
theorem d_B_noteSide_57 : decode b_B_noteSide 57 = .ok (.iload_n 3, 1) := by decide +kernel
theorem d_B_noteSide_58 : decode b_B_noteSide 58 = .ok (.ifCond .ne 7, 3) := by decide +kernel
theorem d_B_noteSide_61 : decode b_B_noteSide 61 = .ok (.lconst 1, 1) := by decide +kernel
theorem d_B_noteSide_62 : decode b_B_noteSide 62 = .ok (.goto 6, 3) := by decide +kernel
theorem d_B_noteSide_65 : decode b_B_noteSide 65 = .ok (.ldc2_w 56, 3) := by decide +kernel
theorem d_B_noteSide_68 : decode b_B_noteSide 68 = .ok (.lstore 4, 2) := by decide +kernel
theorem d_B_noteSide_70 : decode b_B_noteSide 70 = .ok (.aload_n 0, 1) := by decide +kernel
theorem d_B_noteSide_71 : decode b_B_noteSide 71 = .ok (.getfield 40, 3) := by decide +kernel
theorem d_B_noteSide_74 : decode b_B_noteSide 74 = .ok (.iload_n 1, 1) := by decide +kernel
theorem d_B_noteSide_75 : decode b_B_noteSide 75 = .ok (.dup2, 1) := by decide +kernel
theorem d_B_noteSide_76 : decode b_B_noteSide 76 = .ok (.laload, 1) := by decide +kernel
theorem d_B_noteSide_77 : decode b_B_noteSide 77 = .ok (.lload 4, 2) := by decide +kernel
theorem d_B_noteSide_79 : decode b_B_noteSide 79 = .ok (.iconst 2, 1) := by decide +kernel
theorem d_B_noteSide_80 : decode b_B_noteSide 80 = .ok (.iload_n 2, 1) := by decide +kernel
theorem d_B_noteSide_81 : decode b_B_noteSide 81 = .ok (.imul, 1) := by decide +kernel
theorem d_B_noteSide_82 : decode b_B_noteSide 82 = .ok (.lshl, 1) := by decide +kernel
theorem d_B_noteSide_83 : decode b_B_noteSide 83 = .ok (.lor, 1) := by decide +kernel
theorem d_B_noteSide_84 : decode b_B_noteSide 84 = .ok (.lastore, 1) := by decide +kernel
theorem d_B_noteSide_85 : decode b_B_noteSide 85 = .ok (.return_, 1) := by decide +kernel
theorem d_B_addPoint_0 : decode b_B_addPoint 0 = .ok (.iload_n 1, 1) := by decide +kernel
theorem d_B_addPoint_1 : decode b_B_addPoint 1 = .ok (.bipush 9, 2) := by decide +kernel
theorem d_B_addPoint_3 : decode b_B_addPoint 3 = .ok (.invokestatic 44, 3) := by decide +kernel
theorem d_B_addPoint_6 : decode b_B_addPoint 6 = .ok (.ifCond .eq 21, 3) := by decide +kernel
theorem d_B_addPoint_9 : decode b_B_addPoint 9 = .ok (.iload_n 2, 1) := by decide +kernel
theorem d_B_addPoint_10 : decode b_B_addPoint 10 = .ok (.bipush 9, 2) := by decide +kernel
theorem d_B_addPoint_12 : decode b_B_addPoint 12 = .ok (.invokestatic 44, 3) := by decide +kernel
theorem d_B_addPoint_15 : decode b_B_addPoint 15 = .ok (.ifCond .eq 12, 3) := by decide +kernel
theorem d_B_addPoint_18 : decode b_B_addPoint 18 = .ok (.iload_n 3, 1) := by decide +kernel
theorem d_B_addPoint_19 : decode b_B_addPoint 19 = .ok (.bipush 9, 2) := by decide +kernel
theorem d_B_addPoint_21 : decode b_B_addPoint 21 = .ok (.invokestatic 44, 3) := by decide +kernel
theorem d_B_addPoint_24 : decode b_B_addPoint 24 = .ok (.ifCond .ne 5, 3) := by decide +kernel
theorem d_B_addPoint_27 : decode b_B_addPoint 27 = .ok (.iconst (-1), 1) := by decide +kernel
theorem d_B_addPoint_28 : decode b_B_addPoint 28 = .ok (.ireturn, 1) := by decide +kernel
theorem d_B_addPoint_29 : decode b_B_addPoint 29 = .ok (.aload_n 0, 1) := by decide +kernel
theorem d_B_addPoint_30 : decode b_B_addPoint 30 = .ok (.getfield 21, 3) := by decide +kernel
theorem d_B_addPoint_33 : decode b_B_addPoint 33 = .ok (.bipush 60, 2) := by decide +kernel
theorem d_B_addPoint_35 : decode b_B_addPoint 35 = .ok (.if_icmp .ge 14, 3) := by decide +kernel
theorem d_B_addPoint_38 : decode b_B_addPoint 38 = .ok (.aload_n 0, 1) := by decide +kernel
theorem d_B_addPoint_39 : decode b_B_addPoint 39 = .ok (.iload_n 1, 1) := by decide +kernel
theorem d_B_addPoint_40 : decode b_B_addPoint 40 = .ok (.iload_n 2, 1) := by decide +kernel
theorem d_B_addPoint_41 : decode b_B_addPoint 41 = .ok (.iload_n 3, 1) := by decide +kernel
theorem d_B_addPoint_42 : decode b_B_addPoint 42 = .ok (.invokevirtual 48, 3) := by decide +kernel
theorem d_B_addPoint_45 : decode b_B_addPoint 45 = .ok (.iconst (-1), 1) := by decide +kernel
theorem d_B_addPoint_46 : decode b_B_addPoint 46 = .ok (.if_icmp .eq 5, 3) := by decide +kernel
theorem d_B_addPoint_49 : decode b_B_addPoint 49 = .ok (.iconst (-1), 1) := by decide +kernel
theorem d_B_addPoint_50 : decode b_B_addPoint 50 = .ok (.ireturn, 1) := by decide +kernel
theorem d_B_addPoint_51 : decode b_B_addPoint 51 = .ok (.aload_n 0, 1) := by decide +kernel
theorem d_B_addPoint_52 : decode b_B_addPoint 52 = .ok (.getfield 21, 3) := by decide +kernel
theorem d_B_addPoint_55 : decode b_B_addPoint 55 = .ok (.istore 4, 2) := by decide +kernel
theorem d_B_addPoint_57 : decode b_B_addPoint 57 = .ok (.aload_n 0, 1) := by decide +kernel
theorem d_B_addPoint_58 : decode b_B_addPoint 58 = .ok (.getfield 9, 3) := by decide +kernel
theorem d_B_addPoint_61 : decode b_B_addPoint 61 = .ok (.iload 4, 2) := by decide +kernel
theorem d_B_addPoint_63 : decode b_B_addPoint 63 = .ok (.iload_n 1, 1) := by decide +kernel
theorem d_B_addPoint_64 : decode b_B_addPoint 64 = .ok (.iastore, 1) := by decide +kernel
theorem d_B_addPoint_65 : decode b_B_addPoint 65 = .ok (.aload_n 0, 1) := by decide +kernel
theorem d_B_addPoint_66 : decode b_B_addPoint 66 = .ok (.getfield 15, 3) := by decide +kernel
theorem d_B_addPoint_69 : decode b_B_addPoint 69 = .ok (.iload 4, 2) := by decide +kernel
theorem d_B_addPoint_71 : decode b_B_addPoint 71 = .ok (.iload_n 2, 1) := by decide +kernel
theorem d_B_addPoint_72 : decode b_B_addPoint 72 = .ok (.iastore, 1) := by decide +kernel
theorem d_B_addPoint_73 : decode b_B_addPoint 73 = .ok (.aload_n 0, 1) := by decide +kernel
theorem d_B_addPoint_74 : decode b_B_addPoint 74 = .ok (.getfield 18, 3) := by decide +kernel
theorem d_B_addPoint_77 : decode b_B_addPoint 77 = .ok (.iload 4, 2) := by decide +kernel
theorem d_B_addPoint_79 : decode b_B_addPoint 79 = .ok (.iload_n 3, 1) := by decide +kernel
theorem d_B_addPoint_80 : decode b_B_addPoint 80 = .ok (.iastore, 1) := by decide +kernel
theorem d_B_addPoint_81 : decode b_B_addPoint 81 = .ok (.aload_n 0, 1) := by decide +kernel
theorem d_B_addPoint_82 : decode b_B_addPoint 82 = .ok (.dup, 1) := by decide +kernel
theorem d_B_addPoint_83 : decode b_B_addPoint 83 = .ok (.getfield 21, 3) := by decide +kernel
theorem d_B_addPoint_86 : decode b_B_addPoint 86 = .ok (.iconst 1, 1) := by decide +kernel
theorem d_B_addPoint_87 : decode b_B_addPoint 87 = .ok (.iadd, 1) := by decide +kernel
theorem d_B_addPoint_88 : decode b_B_addPoint 88 = .ok (.putfield 21, 3) := by decide +kernel
theorem d_B_addPoint_91 : decode b_B_addPoint 91 = .ok (.iconst 0, 1) := by decide +kernel
theorem d_B_addPoint_92 : decode b_B_addPoint 92 = .ok (.istore 5, 2) := by decide +kernel
theorem d_B_addPoint_94 : decode b_B_addPoint 94 = .ok (.iload 5, 2) := by decide +kernel
theorem d_B_addPoint_96 : decode b_B_addPoint 96 = .ok (.aload_n 0, 1) := by decide +kernel
theorem d_B_addPoint_97 : decode b_B_addPoint 97 = .ok (.getfield 37, 3) := by decide +kernel
theorem d_B_addPoint_100 : decode b_B_addPoint 100 = .ok (.if_icmp .ge 17, 3) := by decide +kernel
theorem d_B_addPoint_103 : decode b_B_addPoint 103 = .ok (.aload_n 0, 1) := by decide +kernel
theorem d_B_addPoint_104 : decode b_B_addPoint 104 = .ok (.iload 4, 2) := by decide +kernel
theorem d_B_addPoint_106 : decode b_B_addPoint 106 = .ok (.iload 5, 2) := by decide +kernel
theorem d_B_addPoint_108 : decode b_B_addPoint 108 = .ok (.invokevirtual 52, 3) := by decide +kernel
theorem d_B_addPoint_111 : decode b_B_addPoint 111 = .ok (.iinc 5 1, 3) := by decide +kernel
theorem d_B_addPoint_114 : decode b_B_addPoint 114 = .ok (.goto (-20), 3) := by decide +kernel
theorem d_B_addPoint_117 : decode b_B_addPoint 117 = .ok (.iload 4, 2) := by decide +kernel
theorem d_B_addPoint_119 : decode b_B_addPoint 119 = .ok (.ireturn, 1) := by decide +kernel
theorem d_B_addPlane_0 : decode b_B_addPlane 0 = .ok (.iload_n 1, 1) := by decide +kernel
theorem d_B_addPlane_1 : decode b_B_addPlane 1 = .ok (.bipush 9, 2) := by decide +kernel
theorem d_B_addPlane_3 : decode b_B_addPlane 3 = .ok (.invokestatic 44, 3) := by decide +kernel
theorem d_B_addPlane_6 : decode b_B_addPlane 6 = .ok (.ifCond .eq 21, 3) := by decide +kernel
theorem d_B_addPlane_9 : decode b_B_addPlane 9 = .ok (.iload_n 2, 1) := by decide +kernel
theorem d_B_addPlane_10 : decode b_B_addPlane 10 = .ok (.bipush 9, 2) := by decide +kernel
theorem d_B_addPlane_12 : decode b_B_addPlane 12 = .ok (.invokestatic 44, 3) := by decide +kernel
theorem d_B_addPlane_15 : decode b_B_addPlane 15 = .ok (.ifCond .eq 12, 3) := by decide +kernel
theorem d_B_addPlane_18 : decode b_B_addPlane 18 = .ok (.iload_n 3, 1) := by decide +kernel
theorem d_B_addPlane_19 : decode b_B_addPlane 19 = .ok (.bipush 9, 2) := by decide +kernel
theorem d_B_addPlane_21 : decode b_B_addPlane 21 = .ok (.invokestatic 44, 3) := by decide +kernel
theorem d_B_addPlane_24 : decode b_B_addPlane 24 = .ok (.ifCond .ne 5, 3) := by decide +kernel
theorem d_B_addPlane_27 : decode b_B_addPlane 27 = .ok (.iconst (-1), 1) := by decide +kernel
theorem d_B_addPlane_28 : decode b_B_addPlane 28 = .ok (.ireturn, 1) := by decide +kernel
theorem d_B_addPlane_29 : decode b_B_addPlane 29 = .ok (.iload_n 1, 1) := by decide +kernel
theorem d_B_addPlane_30 : decode b_B_addPlane 30 = .ok (.ifCond .ne 11, 3) := by decide +kernel
theorem d_B_addPlane_33 : decode b_B_addPlane 33 = .ok (.iload_n 2, 1) := by decide +kernel
theorem d_B_addPlane_34 : decode b_B_addPlane 34 = .ok (.ifCond .ne 7, 3) := by decide +kernel
theorem d_B_addPlane_37 : decode b_B_addPlane 37 = .ok (.iload_n 3, 1) := by decide +kernel
theorem d_B_addPlane_38 : decode b_B_addPlane 38 = .ok (.ifCond .eq 13, 3) := by decide +kernel
theorem d_B_addPlane_41 : decode b_B_addPlane 41 = .ok (.iload 4, 2) := by decide +kernel
theorem d_B_addPlane_43 : decode b_B_addPlane 43 = .ok (.bipush 99, 2) := by decide +kernel
theorem d_B_addPlane_45 : decode b_B_addPlane 45 = .ok (.invokestatic 44, 3) := by decide +kernel
theorem d_B_addPlane_48 : decode b_B_addPlane 48 = .ok (.ifCond .ne 5, 3) := by decide +kernel
theorem d_B_addPlane_51 : decode b_B_addPlane 51 = .ok (.iconst (-1), 1) := by decide +kernel
theorem d_B_addPlane_52 : decode b_B_addPlane 52 = .ok (.ireturn, 1) := by decide +kernel
theorem d_B_addPlane_53 : decode b_B_addPlane 53 = .ok (.aload_n 0, 1) := by decide +kernel
theorem d_B_addPlane_54 : decode b_B_addPlane 54 = .ok (.getfield 37, 3) := by decide +kernel
theorem d_B_addPlane_57 : decode b_B_addPlane 57 = .ok (.bipush 20, 2) := by decide +kernel
theorem d_B_addPlane_59 : decode b_B_addPlane 59 = .ok (.if_icmp .lt 5, 3) := by decide +kernel
theorem d_B_addPlane_62 : decode b_B_addPlane 62 = .ok (.iconst (-1), 1) := by decide +kernel
theorem d_B_addPlane_63 : decode b_B_addPlane 63 = .ok (.ireturn, 1) := by decide +kernel
theorem d_B_addPlane_64 : decode b_B_addPlane 64 = .ok (.aload_n 0, 1) := by decide +kernel
theorem d_B_addPlane_65 : decode b_B_addPlane 65 = .ok (.getfield 37, 3) := by decide +kernel
theorem d_B_addPlane_68 : decode b_B_addPlane 68 = .ok (.istore 5, 2) := by decide +kernel
theorem d_B_addPlane_70 : decode b_B_addPlane 70 = .ok (.aload_n 0, 1) := by decide +kernel
theorem d_B_addPlane_71 : decode b_B_addPlane 71 = .ok (.getfield 25, 3) := by decide +kernel
theorem d_B_addPlane_74 : decode b_B_addPlane 74 = .ok (.iload 5, 2) := by decide +kernel
theorem d_B_addPlane_76 : decode b_B_addPlane 76 = .ok (.iload_n 1, 1) := by decide +kernel
theorem d_B_addPlane_77 : decode b_B_addPlane 77 = .ok (.iastore, 1) := by decide +kernel
theorem d_B_addPlane_78 : decode b_B_addPlane 78 = .ok (.aload_n 0, 1) := by decide +kernel
theorem d_B_addPlane_79 : decode b_B_addPlane 79 = .ok (.getfield 28, 3) := by decide +kernel
theorem d_B_addPlane_82 : decode b_B_addPlane 82 = .ok (.iload 5, 2) := by decide +kernel
theorem d_B_addPlane_84 : decode b_B_addPlane 84 = .ok (.iload_n 2, 1) := by decide +kernel
theorem d_B_addPlane_85 : decode b_B_addPlane 85 = .ok (.iastore, 1) := by decide +kernel
theorem d_B_addPlane_86 : decode b_B_addPlane 86 = .ok (.aload_n 0, 1) := by decide +kernel
theorem d_B_addPlane_87 : decode b_B_addPlane 87 = .ok (.getfield 31, 3) := by decide +kernel
theorem d_B_addPlane_90 : decode b_B_addPlane 90 = .ok (.iload 5, 2) := by decide +kernel
theorem d_B_addPlane_92 : decode b_B_addPlane 92 = .ok (.iload_n 3, 1) := by decide +kernel
theorem d_B_addPlane_93 : decode b_B_addPlane 93 = .ok (.iastore, 1) := by decide +kernel
theorem d_B_addPlane_94 : decode b_B_addPlane 94 = .ok (.aload_n 0, 1) := by decide +kernel
theorem d_B_addPlane_95 : decode b_B_addPlane 95 = .ok (.getfield 34, 3) := by decide +kernel
theorem d_B_addPlane_98 : decode b_B_addPlane 98 = .ok (.iload 5, 2) := by decide +kernel
theorem d_B_addPlane_100 : decode b_B_addPlane 100 = .ok (.iload 4, 2) := by decide +kernel
theorem d_B_addPlane_102 : decode b_B_addPlane 102 = .ok (.iastore, 1) := by decide +kernel
theorem d_B_addPlane_103 : decode b_B_addPlane 103 = .ok (.aload_n 0, 1) := by decide +kernel
theorem d_B_addPlane_104 : decode b_B_addPlane 104 = .ok (.dup, 1) := by decide +kernel
theorem d_B_addPlane_105 : decode b_B_addPlane 105 = .ok (.getfield 37, 3) := by decide +kernel
theorem d_B_addPlane_108 : decode b_B_addPlane 108 = .ok (.iconst 1, 1) := by decide +kernel
theorem d_B_addPlane_109 : decode b_B_addPlane 109 = .ok (.iadd, 1) := by decide +kernel
theorem d_B_addPlane_110 : decode b_B_addPlane 110 = .ok (.putfield 37, 3) := by decide +kernel
theorem d_B_addPlane_113 : decode b_B_addPlane 113 = .ok (.iconst 0, 1) := by decide +kernel
theorem d_B_addPlane_114 : decode b_B_addPlane 114 = .ok (.istore 6, 2) := by decide +kernel
theorem d_B_addPlane_116 : decode b_B_addPlane 116 = .ok (.iload 6, 2) := by decide +kernel
theorem d_B_addPlane_118 : decode b_B_addPlane 118 = .ok (.aload_n 0, 1) := by decide +kernel
theorem d_B_addPlane_119 : decode b_B_addPlane 119 = .ok (.getfield 21, 3) := by decide +kernel
theorem d_B_addPlane_122 : decode b_B_addPlane 122 = .ok (.if_icmp .ge 17, 3) := by decide +kernel
theorem d_B_addPlane_125 : decode b_B_addPlane 125 = .ok (.aload_n 0, 1) := by decide +kernel
theorem d_B_addPlane_126 : decode b_B_addPlane 126 = .ok (.iload 6, 2) := by decide +kernel
theorem d_B_addPlane_128 : decode b_B_addPlane 128 = .ok (.iload 5, 2) := by decide +kernel
theorem d_B_addPlane_130 : decode b_B_addPlane 130 = .ok (.invokevirtual 52, 3) := by decide +kernel
theorem d_B_addPlane_133 : decode b_B_addPlane 133 = .ok (.iinc 6 1, 3) := by decide +kernel
theorem d_B_addPlane_136 : decode b_B_addPlane 136 = .ok (.goto (-20), 3) := by decide +kernel
theorem d_B_addPlane_139 : decode b_B_addPlane 139 = .ok (.iload 5, 2) := by decide +kernel
theorem d_B_addPlane_141 : decode b_B_addPlane 141 = .ok (.ireturn, 1) := by decide +kernel
