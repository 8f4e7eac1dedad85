theorem d_X_keep_0 : decode b_X_keep 0 = .ok (.aload_n 0, 1) := by decide +kernel
theorem d_X_keep_1 : decode b_X_keep 1 = .ok (.getfield 47, 3) := by decide +kernel
theorem d_X_keep_4 : decode b_X_keep 4 = .ok (.bipush 10, 2) := by decide +kernel
theorem d_X_keep_6 : decode b_X_keep 6 = .ok (.if_icmp .lt 5, 3) := by decide +kernel
theorem d_X_keep_9 : decode b_X_keep 9 = .ok (.iconst (-1), 1) := by decide +kernel
theorem d_X_keep_10 : decode b_X_keep 10 = .ok (.ireturn, 1) := by decide +kernel
theorem d_X_keep_11 : decode b_X_keep 11 = .ok (.new 24, 3) := by decide +kernel
theorem d_X_keep_14 : decode b_X_keep 14 = .ok (.dup, 1) := by decide +kernel
theorem d_X_keep_15 : decode b_X_keep 15 = .ok (.invokespecial 26, 3) := by decide +kernel
theorem d_X_keep_18 : decode b_X_keep 18 = .ok (.astore_n 1, 1) := by decide +kernel
theorem d_X_keep_19 : decode b_X_keep 19 = .ok (.aload_n 1, 1) := by decide +kernel
theorem d_X_keep_20 : decode b_X_keep 20 = .ok (.aload_n 0, 1) := by decide +kernel
theorem d_X_keep_21 : decode b_X_keep 21 = .ok (.getfield 27, 3) := by decide +kernel
theorem d_X_keep_24 : decode b_X_keep 24 = .ok (.invokevirtual 126, 3) := by decide +kernel
theorem d_X_keep_27 : decode b_X_keep 27 = .ok (.aload_n 0, 1) := by decide +kernel
theorem d_X_keep_28 : decode b_X_keep 28 = .ok (.getfield 40, 3) := by decide +kernel
theorem d_X_keep_31 : decode b_X_keep 31 = .ok (.aload_n 0, 1) := by decide +kernel
theorem d_X_keep_32 : decode b_X_keep 32 = .ok (.getfield 47, 3) := by decide +kernel
theorem d_X_keep_35 : decode b_X_keep 35 = .ok (.aload_n 1, 1) := by decide +kernel
theorem d_X_keep_36 : decode b_X_keep 36 = .ok (.aastore, 1) := by decide +kernel
theorem d_X_keep_37 : decode b_X_keep 37 = .ok (.aload_n 0, 1) := by decide +kernel
theorem d_X_keep_38 : decode b_X_keep 38 = .ok (.getfield 44, 3) := by decide +kernel
theorem d_X_keep_41 : decode b_X_keep 41 = .ok (.aload_n 0, 1) := by decide +kernel
theorem d_X_keep_42 : decode b_X_keep 42 = .ok (.getfield 47, 3) := by decide +kernel
theorem d_X_keep_45 : decode b_X_keep 45 = .ok (.aload_n 0, 1) := by decide +kernel
theorem d_X_keep_46 : decode b_X_keep 46 = .ok (.getfield 10, 3) := by decide +kernel
theorem d_X_keep_49 : decode b_X_keep 49 = .ok (.getfield 88, 3) := by decide +kernel
theorem d_X_keep_52 : decode b_X_keep 52 = .ok (.iastore, 1) := by decide +kernel
theorem d_X_keep_53 : decode b_X_keep 53 = .ok (.aload_n 0, 1) := by decide +kernel
theorem d_X_keep_54 : decode b_X_keep 54 = .ok (.dup, 1) := by decide +kernel
theorem d_X_keep_55 : decode b_X_keep 55 = .ok (.getfield 47, 3) := by decide +kernel
theorem d_X_keep_58 : decode b_X_keep 58 = .ok (.iconst 1, 1) := by decide +kernel
theorem d_X_keep_59 : decode b_X_keep 59 = .ok (.iadd, 1) := by decide +kernel
theorem d_X_keep_60 : decode b_X_keep 60 = .ok (.putfield 47, 3) := by decide +kernel
theorem d_X_keep_63 : decode b_X_keep 63 = .ok (.aload_n 0, 1) := by decide +kernel
theorem d_X_keep_64 : decode b_X_keep 64 = .ok (.getfield 47, 3) := by decide +kernel
theorem d_X_keep_67 : decode b_X_keep 67 = .ok (.iconst 1, 1) := by decide +kernel
theorem d_X_keep_68 : decode b_X_keep 68 = .ok (.isub, 1) := by decide +kernel
theorem d_X_keep_69 : decode b_X_keep 69 = .ok (.ireturn, 1) := by decide +kernel
theorem d_X_back_0 : decode b_X_back 0 = .ok (.iload_n 1, 1) := by decide +kernel
theorem d_X_back_1 : decode b_X_back 1 = .ok (.ifCond .lt 11, 3) := by decide +kernel
theorem d_X_back_12 : decode b_X_back 12 = .ok (.iconst 0, 1) := by decide +kernel
theorem d_X_back_13 : decode b_X_back 13 = .ok (.ireturn, 1) := by decide +kernel
theorem d_X_back_4 : decode b_X_back 4 = .ok (.iload_n 1, 1) := by decide +kernel
theorem d_X_back_5 : decode b_X_back 5 = .ok (.aload_n 0, 1) := by decide +kernel
theorem d_X_back_6 : decode b_X_back 6 = .ok (.getfield 47, 3) := by decide +kernel
theorem d_X_back_9 : decode b_X_back 9 = .ok (.if_icmp .lt 5, 3) := by decide +kernel
theorem d_X_back_14 : decode b_X_back 14 = .ok (.aload_n 0, 1) := by decide +kernel
theorem d_X_back_15 : decode b_X_back 15 = .ok (.getfield 40, 3) := by decide +kernel
theorem d_X_back_18 : decode b_X_back 18 = .ok (.iload_n 1, 1) := by decide +kernel
theorem d_X_back_19 : decode b_X_back 19 = .ok (.aaload, 1) := by decide +kernel
theorem d_X_back_20 : decode b_X_back 20 = .ok (.astore_n 2, 1) := by decide +kernel
theorem d_X_back_21 : decode b_X_back 21 = .ok (.aload_n 2, 1) := by decide +kernel
theorem d_X_back_22 : decode b_X_back 22 = .ok (.ifnull 19, 3) := by decide +kernel
theorem d_X_back_25 : decode b_X_back 25 = .ok (.aload_n 0, 1) := by decide +kernel
theorem d_X_back_26 : decode b_X_back 26 = .ok (.getfield 44, 3) := by decide +kernel
theorem d_X_back_29 : decode b_X_back 29 = .ok (.iload_n 1, 1) := by decide +kernel
theorem d_X_back_30 : decode b_X_back 30 = .ok (.iaload, 1) := by decide +kernel
theorem d_X_back_31 : decode b_X_back 31 = .ok (.aload_n 0, 1) := by decide +kernel
theorem d_X_back_32 : decode b_X_back 32 = .ok (.getfield 10, 3) := by decide +kernel
theorem d_X_back_35 : decode b_X_back 35 = .ok (.getfield 88, 3) := by decide +kernel
theorem d_X_back_38 : decode b_X_back 38 = .ok (.if_icmp .eq 5, 3) := by decide +kernel
theorem d_X_back_41 : decode b_X_back 41 = .ok (.iconst 0, 1) := by decide +kernel
theorem d_X_back_42 : decode b_X_back 42 = .ok (.ireturn, 1) := by decide +kernel
theorem d_X_back_43 : decode b_X_back 43 = .ok (.aload_n 0, 1) := by decide +kernel
theorem d_X_back_44 : decode b_X_back 44 = .ok (.getfield 27, 3) := by decide +kernel
theorem d_X_back_47 : decode b_X_back 47 = .ok (.aload_n 2, 1) := by decide +kernel
theorem d_X_back_48 : decode b_X_back 48 = .ok (.invokevirtual 126, 3) := by decide +kernel
theorem d_X_back_51 : decode b_X_back 51 = .ok (.iconst 1, 1) := by decide +kernel
theorem d_X_back_52 : decode b_X_back 52 = .ok (.ireturn, 1) := by decide +kernel
