theorem d_A_fill_0 : decode b_A_fill 0 = .ok (.iconst 0, 1) := by decide +kernel
theorem d_A_fill_1 : decode b_A_fill 1 = .ok (.istore_n 2, 1) := by decide +kernel
theorem d_A_fill_2 : decode b_A_fill 2 = .ok (.aload_n 0, 1) := by decide +kernel
theorem d_A_fill_3 : decode b_A_fill 3 = .ok (.arraylength, 1) := by decide +kernel
theorem d_A_fill_4 : decode b_A_fill 4 = .ok (.istore_n 3, 1) := by decide +kernel
theorem d_A_fill_5 : decode b_A_fill 5 = .ok (.iload_n 2, 1) := by decide +kernel
theorem d_A_fill_6 : decode b_A_fill 6 = .ok (.iload_n 3, 1) := by decide +kernel
theorem d_A_fill_7 : decode b_A_fill 7 = .ok (.if_icmp .ge 13, 3) := by decide +kernel
theorem d_A_fill_10 : decode b_A_fill 10 = .ok (.aload_n 0, 1) := by decide +kernel
theorem d_A_fill_11 : decode b_A_fill 11 = .ok (.iload_n 2, 1) := by decide +kernel
theorem d_A_fill_12 : decode b_A_fill 12 = .ok (.iload_n 1, 1) := by decide +kernel
theorem d_A_fill_13 : decode b_A_fill 13 = .ok (.iastore, 1) := by decide +kernel
theorem d_A_fill_14 : decode b_A_fill 14 = .ok (.iinc 2 1, 3) := by decide +kernel
theorem d_A_fill_17 : decode b_A_fill 17 = .ok (.goto (-12), 3) := by decide +kernel
theorem d_A_fill_20 : decode b_A_fill 20 = .ok (.return_, 1) := by decide +kernel
theorem d_C_putAllHome_0 : decode b_C_putAllHome 0 = .ok (.iconst 0, 1) := by decide +kernel
theorem d_C_putAllHome_1 : decode b_C_putAllHome 1 = .ok (.istore_n 1, 1) := by decide +kernel
theorem d_C_putAllHome_2 : decode b_C_putAllHome 2 = .ok (.iload_n 1, 1) := by decide +kernel
theorem d_C_putAllHome_3 : decode b_C_putAllHome 3 = .ok (.bipush 60, 2) := by decide +kernel
theorem d_C_putAllHome_5 : decode b_C_putAllHome 5 = .ok (.if_icmp .ge 16, 3) := by decide +kernel
theorem d_C_putAllHome_8 : decode b_C_putAllHome 8 = .ok (.aload_n 0, 1) := by decide +kernel
theorem d_C_putAllHome_9 : decode b_C_putAllHome 9 = .ok (.getfield 9, 3) := by decide +kernel
theorem d_C_putAllHome_12 : decode b_C_putAllHome 12 = .ok (.iload_n 1, 1) := by decide +kernel
theorem d_C_putAllHome_13 : decode b_C_putAllHome 13 = .ok (.iload_n 1, 1) := by decide +kernel
theorem d_C_putAllHome_14 : decode b_C_putAllHome 14 = .ok (.iastore, 1) := by decide +kernel
theorem d_C_putAllHome_15 : decode b_C_putAllHome 15 = .ok (.iinc 1 1, 3) := by decide +kernel
theorem d_C_putAllHome_18 : decode b_C_putAllHome 18 = .ok (.goto (-16), 3) := by decide +kernel
theorem d_C_putAllHome_21 : decode b_C_putAllHome 21 = .ok (.aload_n 0, 1) := by decide +kernel
theorem d_C_putAllHome_22 : decode b_C_putAllHome 22 = .ok (.getfield 15, 3) := by decide +kernel
theorem d_C_putAllHome_25 : decode b_C_putAllHome 25 = .ok (.iconst 0, 1) := by decide +kernel
theorem d_C_putAllHome_26 : decode b_C_putAllHome 26 = .ok (.invokestatic 18, 3) := by decide +kernel
theorem d_C_putAllHome_29 : decode b_C_putAllHome 29 = .ok (.return_, 1) := by decide +kernel
theorem d_C_copyFrom_0 : decode b_C_copyFrom 0 = .ok (.aload_n 1, 1) := by decide +kernel
theorem d_C_copyFrom_1 : decode b_C_copyFrom 1 = .ok (.getfield 9, 3) := by decide +kernel
theorem d_C_copyFrom_4 : decode b_C_copyFrom 4 = .ok (.iconst 0, 1) := by decide +kernel
theorem d_C_copyFrom_5 : decode b_C_copyFrom 5 = .ok (.aload_n 0, 1) := by decide +kernel
theorem d_C_copyFrom_6 : decode b_C_copyFrom 6 = .ok (.getfield 9, 3) := by decide +kernel
theorem d_C_copyFrom_9 : decode b_C_copyFrom 9 = .ok (.iconst 0, 1) := by decide +kernel
theorem d_C_copyFrom_10 : decode b_C_copyFrom 10 = .ok (.bipush 60, 2) := by decide +kernel
theorem d_C_copyFrom_12 : decode b_C_copyFrom 12 = .ok (.invokestatic 24, 3) := by decide +kernel
theorem d_C_copyFrom_15 : decode b_C_copyFrom 15 = .ok (.aload_n 1, 1) := by decide +kernel
theorem d_C_copyFrom_16 : decode b_C_copyFrom 16 = .ok (.getfield 15, 3) := by decide +kernel
theorem d_C_copyFrom_19 : decode b_C_copyFrom 19 = .ok (.iconst 0, 1) := by decide +kernel
theorem d_C_copyFrom_20 : decode b_C_copyFrom 20 = .ok (.aload_n 0, 1) := by decide +kernel
theorem d_C_copyFrom_21 : decode b_C_copyFrom 21 = .ok (.getfield 15, 3) := by decide +kernel
theorem d_C_copyFrom_24 : decode b_C_copyFrom 24 = .ok (.iconst 0, 1) := by decide +kernel
theorem d_C_copyFrom_25 : decode b_C_copyFrom 25 = .ok (.bipush 60, 2) := by decide +kernel
theorem d_C_copyFrom_27 : decode b_C_copyFrom 27 = .ok (.invokestatic 24, 3) := by decide +kernel
theorem d_C_copyFrom_30 : decode b_C_copyFrom 30 = .ok (.return_, 1) := by decide +kernel
theorem d_C_rowsUntilBackAt_0 : decode b_C_rowsUntilBackAt 0 = .ok (.iconst 0, 1) := by decide +kernel
theorem d_C_rowsUntilBackAt_1 : decode b_C_rowsUntilBackAt 1 = .ok (.istore_n 2, 1) := by decide +kernel
theorem d_C_rowsUntilBackAt_2 : decode b_C_rowsUntilBackAt 2 = .ok (.iconst 0, 1) := by decide +kernel
theorem d_C_rowsUntilBackAt_3 : decode b_C_rowsUntilBackAt 3 = .ok (.istore_n 3, 1) := by decide +kernel
theorem d_C_rowsUntilBackAt_4 : decode b_C_rowsUntilBackAt 4 = .ok (.iload_n 1, 1) := by decide +kernel
theorem d_C_rowsUntilBackAt_5 : decode b_C_rowsUntilBackAt 5 = .ok (.istore 4, 2) := by decide +kernel
theorem d_C_rowsUntilBackAt_7 : decode b_C_rowsUntilBackAt 7 = .ok (.iload_n 3, 1) := by decide +kernel
theorem d_C_rowsUntilBackAt_8 : decode b_C_rowsUntilBackAt 8 = .ok (.aload_n 0, 1) := by decide +kernel
theorem d_C_rowsUntilBackAt_9 : decode b_C_rowsUntilBackAt 9 = .ok (.getfield 15, 3) := by decide +kernel
theorem d_C_rowsUntilBackAt_12 : decode b_C_rowsUntilBackAt 12 = .ok (.iload 4, 2) := by decide +kernel
theorem d_C_rowsUntilBackAt_14 : decode b_C_rowsUntilBackAt 14 = .ok (.iaload, 1) := by decide +kernel
theorem d_C_rowsUntilBackAt_15 : decode b_C_rowsUntilBackAt 15 = .ok (.invokestatic 30, 3) := by decide +kernel
theorem d_C_rowsUntilBackAt_18 : decode b_C_rowsUntilBackAt 18 = .ok (.istore_n 3, 1) := by decide +kernel
theorem d_C_rowsUntilBackAt_19 : decode b_C_rowsUntilBackAt 19 = .ok (.aload_n 0, 1) := by decide +kernel
theorem d_C_rowsUntilBackAt_20 : decode b_C_rowsUntilBackAt 20 = .ok (.getfield 9, 3) := by decide +kernel
theorem d_C_rowsUntilBackAt_23 : decode b_C_rowsUntilBackAt 23 = .ok (.iload 4, 2) := by decide +kernel
theorem d_C_rowsUntilBackAt_25 : decode b_C_rowsUntilBackAt 25 = .ok (.iaload, 1) := by decide +kernel
theorem d_C_rowsUntilBackAt_26 : decode b_C_rowsUntilBackAt 26 = .ok (.istore 4, 2) := by decide +kernel
theorem d_C_rowsUntilBackAt_28 : decode b_C_rowsUntilBackAt 28 = .ok (.iinc 2 1, 3) := by decide +kernel
theorem d_C_rowsUntilBackAt_31 : decode b_C_rowsUntilBackAt 31 = .ok (.iload 4, 2) := by decide +kernel
theorem d_C_rowsUntilBackAt_33 : decode b_C_rowsUntilBackAt 33 = .ok (.iload_n 1, 1) := by decide +kernel
theorem d_C_rowsUntilBackAt_34 : decode b_C_rowsUntilBackAt 34 = .ok (.if_icmp .eq 9, 3) := by decide +kernel
theorem d_C_rowsUntilBackAt_37 : decode b_C_rowsUntilBackAt 37 = .ok (.iload_n 2, 1) := by decide +kernel
theorem d_C_rowsUntilBackAt_38 : decode b_C_rowsUntilBackAt 38 = .ok (.bipush 60, 2) := by decide +kernel
theorem d_C_rowsUntilBackAt_40 : decode b_C_rowsUntilBackAt 40 = .ok (.if_icmp .lt (-33), 3) := by decide +kernel
theorem d_C_rowsUntilBackAt_43 : decode b_C_rowsUntilBackAt 43 = .ok (.iload_n 2, 1) := by decide +kernel
theorem d_C_rowsUntilBackAt_44 : decode b_C_rowsUntilBackAt 44 = .ok (.iload_n 3, 1) := by decide +kernel
theorem d_C_rowsUntilBackAt_45 : decode b_C_rowsUntilBackAt 45 = .ok (.invokestatic 36, 3) := by decide +kernel
theorem d_C_rowsUntilBackAt_48 : decode b_C_rowsUntilBackAt 48 = .ok (.imul, 1) := by decide +kernel
theorem d_C_rowsUntilBackAt_49 : decode b_C_rowsUntilBackAt 49 = .ok (.ireturn, 1) := by decide +kernel
theorem d_X_commonMultiple_0 : decode b_X_commonMultiple 0 = .ok (.iload_n 0, 1) := by decide +kernel
theorem d_X_commonMultiple_1 : decode b_X_commonMultiple 1 = .ok (.iconst 1, 1) := by decide +kernel
theorem d_X_commonMultiple_2 : decode b_X_commonMultiple 2 = .ok (.if_icmp .lt 8, 3) := by decide +kernel
theorem d_X_commonMultiple_5 : decode b_X_commonMultiple 5 = .ok (.iload_n 1, 1) := by decide +kernel
theorem d_X_commonMultiple_6 : decode b_X_commonMultiple 6 = .ok (.iconst 1, 1) := by decide +kernel
theorem d_X_commonMultiple_7 : decode b_X_commonMultiple 7 = .ok (.if_icmp .ge 7, 3) := by decide +kernel
theorem d_X_commonMultiple_10 : decode b_X_commonMultiple 10 = .ok (.sipush 2001, 3) := by decide +kernel
theorem d_X_commonMultiple_13 : decode b_X_commonMultiple 13 = .ok (.ireturn, 1) := by decide +kernel
theorem d_X_commonMultiple_14 : decode b_X_commonMultiple 14 = .ok (.iload_n 0, 1) := by decide +kernel
theorem d_X_commonMultiple_15 : decode b_X_commonMultiple 15 = .ok (.istore_n 2, 1) := by decide +kernel
theorem d_X_commonMultiple_16 : decode b_X_commonMultiple 16 = .ok (.iload_n 2, 1) := by decide +kernel
theorem d_X_commonMultiple_17 : decode b_X_commonMultiple 17 = .ok (.sipush 2000, 3) := by decide +kernel
theorem d_X_commonMultiple_20 : decode b_X_commonMultiple 20 = .ok (.if_icmp .gt 18, 3) := by decide +kernel
theorem d_X_commonMultiple_23 : decode b_X_commonMultiple 23 = .ok (.iload_n 2, 1) := by decide +kernel
theorem d_X_commonMultiple_24 : decode b_X_commonMultiple 24 = .ok (.iload_n 1, 1) := by decide +kernel
theorem d_X_commonMultiple_25 : decode b_X_commonMultiple 25 = .ok (.irem, 1) := by decide +kernel
theorem d_X_commonMultiple_26 : decode b_X_commonMultiple 26 = .ok (.ifCond .ne 5, 3) := by decide +kernel
theorem d_X_commonMultiple_29 : decode b_X_commonMultiple 29 = .ok (.iload_n 2, 1) := by decide +kernel
theorem d_X_commonMultiple_30 : decode b_X_commonMultiple 30 = .ok (.ireturn, 1) := by decide +kernel
theorem d_X_commonMultiple_31 : decode b_X_commonMultiple 31 = .ok (.iload_n 2, 1) := by decide +kernel
theorem d_X_commonMultiple_32 : decode b_X_commonMultiple 32 = .ok (.iload_n 0, 1) := by decide +kernel
theorem d_X_commonMultiple_33 : decode b_X_commonMultiple 33 = .ok (.iadd, 1) := by decide +kernel
theorem d_X_commonMultiple_34 : decode b_X_commonMultiple 34 = .ok (.istore_n 2, 1) := by decide +kernel
theorem d_X_commonMultiple_35 : decode b_X_commonMultiple 35 = .ok (.goto (-19), 3) := by decide +kernel
theorem d_X_commonMultiple_38 : decode b_X_commonMultiple 38 = .ok (.sipush 2001, 3) := by decide +kernel
theorem d_X_commonMultiple_41 : decode b_X_commonMultiple 41 = .ok (.ireturn, 1) := by decide +kernel
