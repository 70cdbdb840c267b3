theorem qd_X_isLateChange_31 : decode qb_X_isLateChange 31 = .ok (.invokevirtual 109, 3) := by decide +kernel
theorem qd_X_isLateChange_34 : decode qb_X_isLateChange 34 = .ok (.if_icmp .gt 7, 3) := by decide +kernel
theorem qd_X_isLateChange_37 : decode qb_X_isLateChange 37 = .ok (.iconst 1, 1) := by decide +kernel
theorem qd_X_isLateChange_38 : decode qb_X_isLateChange 38 = .ok (.goto (4), 3) := by decide +kernel
theorem qd_X_isLateChange_41 : decode qb_X_isLateChange 41 = .ok (.iconst 0, 1) := by decide +kernel
theorem qd_X_isLateChange_42 : decode qb_X_isLateChange 42 = .ok (.ireturn, 1) := by decide +kernel
theorem qd_X_begin_0 : decode qb_X_begin 0 = .ok (.aload_n 0, 1) := by decide +kernel
theorem qd_X_begin_1 : decode qb_X_begin 1 = .ok (.iconst 1, 1) := by decide +kernel
theorem qd_X_begin_2 : decode qb_X_begin 2 = .ok (.putfield 44, 3) := by decide +kernel
theorem qd_X_begin_5 : decode qb_X_begin 5 = .ok (.aload_n 0, 1) := by decide +kernel
theorem qd_X_begin_6 : decode qb_X_begin 6 = .ok (.getfield 33, 3) := by decide +kernel
theorem qd_X_begin_9 : decode qb_X_begin 9 = .ok (.invokevirtual 145, 3) := by decide +kernel
theorem qd_X_begin_12 : decode qb_X_begin 12 = .ok (.return_, 1) := by decide +kernel
theorem qd_X_lowestMark_0 : decode qb_X_lowestMark 0 = .ok (.ldc 105, 2) := by decide +kernel
theorem qd_X_lowestMark_2 : decode qb_X_lowestMark 2 = .ok (.istore_n 1, 1) := by decide +kernel
theorem qd_X_lowestMark_3 : decode qb_X_lowestMark 3 = .ok (.iconst 0, 1) := by decide +kernel
theorem qd_X_lowestMark_4 : decode qb_X_lowestMark 4 = .ok (.istore_n 2, 1) := by decide +kernel
theorem qd_X_lowestMark_5 : decode qb_X_lowestMark 5 = .ok (.iload_n 2, 1) := by decide +kernel
theorem qd_X_lowestMark_6 : decode qb_X_lowestMark 6 = .ok (.aload_n 0, 1) := by decide +kernel
theorem qd_X_lowestMark_7 : decode qb_X_lowestMark 7 = .ok (.getfield 40, 3) := by decide +kernel
theorem qd_X_lowestMark_10 : decode qb_X_lowestMark 10 = .ok (.if_icmp .ge 25, 3) := by decide +kernel
theorem qd_X_lowestMark_13 : decode qb_X_lowestMark 13 = .ok (.iload_n 2, 1) := by decide +kernel
theorem qd_X_lowestMark_14 : decode qb_X_lowestMark 14 = .ok (.iconst 3, 1) := by decide +kernel
theorem qd_X_lowestMark_15 : decode qb_X_lowestMark 15 = .ok (.if_icmp .ge 20, 3) := by decide +kernel
theorem qd_X_lowestMark_18 : decode qb_X_lowestMark 18 = .ok (.iload_n 1, 1) := by decide +kernel
theorem qd_X_lowestMark_19 : decode qb_X_lowestMark 19 = .ok (.aload_n 0, 1) := by decide +kernel
theorem qd_X_lowestMark_20 : decode qb_X_lowestMark 20 = .ok (.getfield 13, 3) := by decide +kernel
theorem qd_X_lowestMark_23 : decode qb_X_lowestMark 23 = .ok (.iload_n 2, 1) := by decide +kernel
theorem qd_X_lowestMark_24 : decode qb_X_lowestMark 24 = .ok (.iaload, 1) := by decide +kernel
theorem qd_X_lowestMark_25 : decode qb_X_lowestMark 25 = .ok (.invokestatic 148, 3) := by decide +kernel
theorem qd_X_lowestMark_28 : decode qb_X_lowestMark 28 = .ok (.istore_n 1, 1) := by decide +kernel
theorem qd_X_lowestMark_29 : decode qb_X_lowestMark 29 = .ok (.iinc 2 (1), 3) := by decide +kernel
theorem qd_X_lowestMark_32 : decode qb_X_lowestMark 32 = .ok (.goto (-27), 3) := by decide +kernel
theorem qd_X_lowestMark_35 : decode qb_X_lowestMark 35 = .ok (.iload_n 1, 1) := by decide +kernel
theorem qd_X_lowestMark_36 : decode qb_X_lowestMark 36 = .ok (.ireturn, 1) := by decide +kernel
theorem qd_X_findJoin_0 : decode qb_X_findJoin 0 = .ok (.iconst 0, 1) := by decide +kernel
theorem qd_X_findJoin_1 : decode qb_X_findJoin 1 = .ok (.istore_n 3, 1) := by decide +kernel
theorem qd_X_findJoin_2 : decode qb_X_findJoin 2 = .ok (.iload_n 3, 1) := by decide +kernel
theorem qd_X_findJoin_3 : decode qb_X_findJoin 3 = .ok (.iconst 3, 1) := by decide +kernel
theorem qd_X_findJoin_4 : decode qb_X_findJoin 4 = .ok (.if_icmp .ge 89, 3) := by decide +kernel
theorem qd_X_findJoin_7 : decode qb_X_findJoin 7 = .ok (.aload_n 0, 1) := by decide +kernel
theorem qd_X_findJoin_8 : decode qb_X_findJoin 8 = .ok (.getfield 19, 3) := by decide +kernel
theorem qd_X_findJoin_11 : decode qb_X_findJoin 11 = .ok (.iload_n 3, 1) := by decide +kernel
theorem qd_X_findJoin_12 : decode qb_X_findJoin 12 = .ok (.iload_n 1, 1) := by decide +kernel
theorem qd_X_findJoin_13 : decode qb_X_findJoin 13 = .ok (.invokestatic 75, 3) := by decide +kernel
theorem qd_X_findJoin_16 : decode qb_X_findJoin 16 = .ok (.iload_n 2, 1) := by decide +kernel
theorem qd_X_findJoin_17 : decode qb_X_findJoin 17 = .ok (.aload_n 0, 1) := by decide +kernel
theorem qd_X_findJoin_18 : decode qb_X_findJoin 18 = .ok (.getfield 9, 3) := by decide +kernel
theorem qd_X_findJoin_21 : decode qb_X_findJoin 21 = .ok (.iconst 0, 1) := by decide +kernel
theorem qd_X_findJoin_22 : decode qb_X_findJoin 22 = .ok (.iaload, 1) := by decide +kernel
theorem qd_X_findJoin_23 : decode qb_X_findJoin 23 = .ok (.isub, 1) := by decide +kernel
theorem qd_X_findJoin_24 : decode qb_X_findJoin 24 = .ok (.invokevirtual 122, 3) := by decide +kernel
theorem qd_X_findJoin_27 : decode qb_X_findJoin 27 = .ok (.istore 4, 2) := by decide +kernel
theorem qd_X_findJoin_29 : decode qb_X_findJoin 29 = .ok (.aload_n 0, 1) := by decide +kernel
theorem qd_X_findJoin_30 : decode qb_X_findJoin 30 = .ok (.getfield 37, 3) := by decide +kernel
theorem qd_X_findJoin_33 : decode qb_X_findJoin 33 = .ok (.iconst 2, 1) := by decide +kernel
theorem qd_X_findJoin_34 : decode qb_X_findJoin 34 = .ok (.iload_n 3, 1) := by decide +kernel
theorem qd_X_findJoin_35 : decode qb_X_findJoin 35 = .ok (.imul, 1) := by decide +kernel
theorem qd_X_findJoin_36 : decode qb_X_findJoin 36 = .ok (.iload 4, 2) := by decide +kernel
theorem qd_X_findJoin_38 : decode qb_X_findJoin 38 = .ok (.ifCond .ge 8, 3) := by decide +kernel
theorem qd_X_findJoin_41 : decode qb_X_findJoin 41 = .ok (.bipush (-2), 2) := by decide +kernel
theorem qd_X_findJoin_43 : decode qb_X_findJoin 43 = .ok (.goto (13), 3) := by decide +kernel
theorem qd_X_findJoin_46 : decode qb_X_findJoin 46 = .ok (.aload_n 0, 1) := by decide +kernel
theorem qd_X_findJoin_47 : decode qb_X_findJoin 47 = .ok (.getfield 19, 3) := by decide +kernel
theorem qd_X_findJoin_50 : decode qb_X_findJoin 50 = .ok (.iload 4, 2) := by decide +kernel
theorem qd_X_findJoin_52 : decode qb_X_findJoin 52 = .ok (.iconst 0, 1) := by decide +kernel
theorem qd_X_findJoin_53 : decode qb_X_findJoin 53 = .ok (.invokevirtual 125, 3) := by decide +kernel
theorem qd_X_findJoin_56 : decode qb_X_findJoin 56 = .ok (.iastore, 1) := by decide +kernel
theorem qd_X_findJoin_57 : decode qb_X_findJoin 57 = .ok (.aload_n 0, 1) := by decide +kernel
theorem qd_X_findJoin_58 : decode qb_X_findJoin 58 = .ok (.getfield 37, 3) := by decide +kernel
theorem qd_X_findJoin_61 : decode qb_X_findJoin 61 = .ok (.iconst 2, 1) := by decide +kernel
theorem qd_X_findJoin_62 : decode qb_X_findJoin 62 = .ok (.iload_n 3, 1) := by decide +kernel
theorem qd_X_findJoin_63 : decode qb_X_findJoin 63 = .ok (.imul, 1) := by decide +kernel
theorem qd_X_findJoin_64 : decode qb_X_findJoin 64 = .ok (.iconst 1, 1) := by decide +kernel
theorem qd_X_findJoin_65 : decode qb_X_findJoin 65 = .ok (.iadd, 1) := by decide +kernel
theorem qd_X_findJoin_66 : decode qb_X_findJoin 66 = .ok (.iload 4, 2) := by decide +kernel
theorem qd_X_findJoin_68 : decode qb_X_findJoin 68 = .ok (.ifCond .ge 8, 3) := by decide +kernel
theorem qd_X_findJoin_71 : decode qb_X_findJoin 71 = .ok (.bipush (-2), 2) := by decide +kernel
theorem qd_X_findJoin_73 : decode qb_X_findJoin 73 = .ok (.goto (13), 3) := by decide +kernel
theorem qd_X_findJoin_76 : decode qb_X_findJoin 76 = .ok (.aload_n 0, 1) := by decide +kernel
theorem qd_X_findJoin_77 : decode qb_X_findJoin 77 = .ok (.getfield 19, 3) := by decide +kernel
theorem qd_X_findJoin_80 : decode qb_X_findJoin 80 = .ok (.iload 4, 2) := by decide +kernel
theorem qd_X_findJoin_82 : decode qb_X_findJoin 82 = .ok (.iconst 1, 1) := by decide +kernel
theorem qd_X_findJoin_83 : decode qb_X_findJoin 83 = .ok (.invokevirtual 125, 3) := by decide +kernel
theorem qd_X_findJoin_86 : decode qb_X_findJoin 86 = .ok (.iastore, 1) := by decide +kernel
theorem qd_X_findJoin_87 : decode qb_X_findJoin 87 = .ok (.iinc 3 (1), 3) := by decide +kernel
theorem qd_X_findJoin_90 : decode qb_X_findJoin 90 = .ok (.goto (-88), 3) := by decide +kernel
theorem qd_X_findJoin_93 : decode qb_X_findJoin 93 = .ok (.return_, 1) := by decide +kernel
theorem qd_X_isGivenByJoin_0 : decode qb_X_isGivenByJoin 0 = .ok (.aload_n 0, 1) := by decide +kernel
theorem qd_X_isGivenByJoin_1 : decode qb_X_isGivenByJoin 1 = .ok (.getfield 9, 3) := by decide +kernel
theorem qd_X_isGivenByJoin_4 : decode qb_X_isGivenByJoin 4 = .ok (.iconst 2, 1) := by decide +kernel
theorem qd_X_isGivenByJoin_5 : decode qb_X_isGivenByJoin 5 = .ok (.iaload, 1) := by decide +kernel
theorem qd_X_isGivenByJoin_6 : decode qb_X_isGivenByJoin 6 = .ok (.ifCond .ne 5, 3) := by decide +kernel
theorem qd_X_isGivenByJoin_9 : decode qb_X_isGivenByJoin 9 = .ok (.iconst 1, 1) := by decide +kernel
theorem qd_X_isGivenByJoin_10 : decode qb_X_isGivenByJoin 10 = .ok (.ireturn, 1) := by decide +kernel
theorem qd_X_isGivenByJoin_11 : decode qb_X_isGivenByJoin 11 = .ok (.iconst 0, 1) := by decide +kernel
theorem qd_X_isGivenByJoin_12 : decode qb_X_isGivenByJoin 12 = .ok (.istore_n 1, 1) := by decide +kernel
theorem qd_X_isGivenByJoin_13 : decode qb_X_isGivenByJoin 13 = .ok (.iload_n 1, 1) := by decide +kernel
theorem qd_X_isGivenByJoin_14 : decode qb_X_isGivenByJoin 14 = .ok (.aload_n 0, 1) := by decide +kernel
theorem qd_X_isGivenByJoin_15 : decode qb_X_isGivenByJoin 15 = .ok (.getfield 40, 3) := by decide +kernel
theorem qd_X_isGivenByJoin_18 : decode qb_X_isGivenByJoin 18 = .ok (.if_icmp .ge 29, 3) := by decide +kernel
theorem qd_X_isGivenByJoin_21 : decode qb_X_isGivenByJoin 21 = .ok (.iload_n 1, 1) := by decide +kernel
theorem qd_X_isGivenByJoin_22 : decode qb_X_isGivenByJoin 22 = .ok (.iconst 3, 1) := by decide +kernel
theorem qd_X_isGivenByJoin_23 : decode qb_X_isGivenByJoin 23 = .ok (.if_icmp .ge 24, 3) := by decide +kernel
theorem qd_X_isGivenByJoin_26 : decode qb_X_isGivenByJoin 26 = .ok (.aload_n 0, 1) := by decide +kernel
theorem qd_X_isGivenByJoin_27 : decode qb_X_isGivenByJoin 27 = .ok (.getfield 37, 3) := by decide +kernel
theorem qd_X_isGivenByJoin_30 : decode qb_X_isGivenByJoin 30 = .ok (.iconst 2, 1) := by decide +kernel
theorem qd_X_isGivenByJoin_31 : decode qb_X_isGivenByJoin 31 = .ok (.iload_n 1, 1) := by decide +kernel
theorem qd_X_isGivenByJoin_32 : decode qb_X_isGivenByJoin 32 = .ok (.imul, 1) := by decide +kernel
theorem qd_X_isGivenByJoin_33 : decode qb_X_isGivenByJoin 33 = .ok (.iaload, 1) := by decide +kernel
theorem qd_X_isGivenByJoin_34 : decode qb_X_isGivenByJoin 34 = .ok (.bipush (-2), 2) := by decide +kernel
theorem qd_X_isGivenByJoin_36 : decode qb_X_isGivenByJoin 36 = .ok (.if_icmp .ne 5, 3) := by decide +kernel
theorem qd_X_isGivenByJoin_39 : decode qb_X_isGivenByJoin 39 = .ok (.iconst 0, 1) := by decide +kernel
theorem qd_X_isGivenByJoin_40 : decode qb_X_isGivenByJoin 40 = .ok (.ireturn, 1) := by decide +kernel
theorem qd_X_isGivenByJoin_41 : decode qb_X_isGivenByJoin 41 = .ok (.iinc 1 (1), 3) := by decide +kernel
theorem qd_X_isGivenByJoin_44 : decode qb_X_isGivenByJoin 44 = .ok (.goto (-31), 3) := by decide +kernel
theorem qd_X_isGivenByJoin_47 : decode qb_X_isGivenByJoin 47 = .ok (.iconst 1, 1) := by decide +kernel
theorem qd_X_isGivenByJoin_48 : decode qb_X_isGivenByJoin 48 = .ok (.ireturn, 1) := by decide +kernel
theorem qd_X_joinRows_0 : decode qb_X_joinRows 0 = .ok (.aload_n 0, 1) := by decide +kernel
theorem qd_X_joinRows_1 : decode qb_X_joinRows 1 = .ok (.invokevirtual 153, 3) := by decide +kernel
theorem qd_X_joinRows_4 : decode qb_X_joinRows 4 = .ok (.istore_n 1, 1) := by decide +kernel
theorem qd_X_joinRows_5 : decode qb_X_joinRows 5 = .ok (.iconst 0, 1) := by decide +kernel
theorem qd_X_joinRows_6 : decode qb_X_joinRows 6 = .ok (.istore_n 2, 1) := by decide +kernel
theorem qd_X_joinRows_7 : decode qb_X_joinRows 7 = .ok (.iload_n 2, 1) := by decide +kernel
theorem qd_X_joinRows_8 : decode qb_X_joinRows 8 = .ok (.aload_n 0, 1) := by decide +kernel
theorem qd_X_joinRows_9 : decode qb_X_joinRows 9 = .ok (.getfield 26, 3) := by decide +kernel
theorem qd_X_joinRows_12 : decode qb_X_joinRows 12 = .ok (.invokevirtual 94, 3) := by decide +kernel
theorem qd_X_joinRows_15 : decode qb_X_joinRows 15 = .ok (.if_icmp .ge 54, 3) := by decide +kernel
theorem qd_X_joinRows_18 : decode qb_X_joinRows 18 = .ok (.aload_n 0, 1) := by decide +kernel
theorem qd_X_joinRows_19 : decode qb_X_joinRows 19 = .ok (.getfield 26, 3) := by decide +kernel
theorem qd_X_joinRows_22 : decode qb_X_joinRows 22 = .ok (.iload_n 2, 1) := by decide +kernel
theorem qd_X_joinRows_23 : decode qb_X_joinRows 23 = .ok (.iconst 2, 1) := by decide +kernel
theorem qd_X_joinRows_24 : decode qb_X_joinRows 24 = .ok (.invokevirtual 129, 3) := by decide +kernel
theorem qd_X_joinRows_27 : decode qb_X_joinRows 27 = .ok (.istore_n 3, 1) := by decide +kernel
theorem qd_X_joinRows_28 : decode qb_X_joinRows 28 = .ok (.aload_n 0, 1) := by decide +kernel
theorem qd_X_joinRows_29 : decode qb_X_joinRows 29 = .ok (.getfield 26, 3) := by decide +kernel
theorem qd_X_joinRows_32 : decode qb_X_joinRows 32 = .ok (.iload_n 2, 1) := by decide +kernel
theorem qd_X_joinRows_33 : decode qb_X_joinRows 33 = .ok (.invokevirtual 156, 3) := by decide +kernel
theorem qd_X_joinRows_36 : decode qb_X_joinRows 36 = .ok (.ifCond .eq 27, 3) := by decide +kernel
theorem qd_X_joinRows_39 : decode qb_X_joinRows 39 = .ok (.iload_n 3, 1) := by decide +kernel
theorem qd_X_joinRows_40 : decode qb_X_joinRows 40 = .ok (.iload_n 1, 1) := by decide +kernel
theorem qd_X_joinRows_41 : decode qb_X_joinRows 41 = .ok (.if_icmp .gt 22, 3) := by decide +kernel
theorem qd_X_joinRows_44 : decode qb_X_joinRows 44 = .ok (.aload_n 0, 1) := by decide +kernel
theorem qd_X_joinRows_45 : decode qb_X_joinRows 45 = .ok (.aload_n 0, 1) := by decide +kernel
theorem qd_X_joinRows_46 : decode qb_X_joinRows 46 = .ok (.getfield 26, 3) := by decide +kernel
theorem qd_X_joinRows_49 : decode qb_X_joinRows 49 = .ok (.iload_n 2, 1) := by decide +kernel
theorem qd_X_joinRows_50 : decode qb_X_joinRows 50 = .ok (.iconst 1, 1) := by decide +kernel
theorem qd_X_joinRows_51 : decode qb_X_joinRows 51 = .ok (.invokevirtual 129, 3) := by decide +kernel
theorem qd_X_joinRows_54 : decode qb_X_joinRows 54 = .ok (.iload_n 3, 1) := by decide +kernel
theorem qd_X_joinRows_55 : decode qb_X_joinRows 55 = .ok (.invokevirtual 159, 3) := by decide +kernel
theorem qd_X_joinRows_58 : decode qb_X_joinRows 58 = .ok (.aload_n 0, 1) := by decide +kernel
theorem qd_X_joinRows_59 : decode qb_X_joinRows 59 = .ok (.iload_n 2, 1) := by decide +kernel
theorem qd_X_joinRows_60 : decode qb_X_joinRows 60 = .ok (.invokevirtual 163, 3) := by decide +kernel
theorem qd_X_joinRows_63 : decode qb_X_joinRows 63 = .ok (.iinc 2 (1), 3) := by decide +kernel
theorem qd_X_joinRows_66 : decode qb_X_joinRows 66 = .ok (.goto (-59), 3) := by decide +kernel
theorem qd_X_joinRows_69 : decode qb_X_joinRows 69 = .ok (.return_, 1) := by decide +kernel
theorem qd_X_takeJoin_0 : decode qb_X_takeJoin 0 = .ok (.aload_n 0, 1) := by decide +kernel
theorem qd_X_takeJoin_1 : decode qb_X_takeJoin 1 = .ok (.invokevirtual 166, 3) := by decide +kernel
theorem qd_X_takeJoin_4 : decode qb_X_takeJoin 4 = .ok (.istore_n 2, 1) := by decide +kernel
theorem qd_X_takeJoin_5 : decode qb_X_takeJoin 5 = .ok (.aload_n 0, 1) := by decide +kernel
theorem qd_X_takeJoin_6 : decode qb_X_takeJoin 6 = .ok (.getfield 26, 3) := by decide +kernel
theorem qd_X_takeJoin_9 : decode qb_X_takeJoin 9 = .ok (.iload_n 1, 1) := by decide +kernel
theorem qd_X_takeJoin_10 : decode qb_X_takeJoin 10 = .ok (.aload_n 0, 1) := by decide +kernel
theorem qd_X_takeJoin_11 : decode qb_X_takeJoin 11 = .ok (.getfield 37, 3) := by decide +kernel
theorem qd_X_takeJoin_14 : decode qb_X_takeJoin 14 = .ok (.iload_n 2, 1) := by decide +kernel
theorem qd_X_takeJoin_15 : decode qb_X_takeJoin 15 = .ok (.invokevirtual 170, 3) := by decide +kernel
theorem qd_X_takeJoin_18 : decode qb_X_takeJoin 18 = .ok (.iload_n 2, 1) := by decide +kernel
theorem qd_X_takeJoin_19 : decode qb_X_takeJoin 19 = .ok (.ifCond .eq 16, 3) := by decide +kernel
theorem qd_X_takeJoin_22 : decode qb_X_takeJoin 22 = .ok (.aload_n 0, 1) := by decide +kernel
theorem qd_X_takeJoin_23 : decode qb_X_takeJoin 23 = .ok (.getfield 33, 3) := by decide +kernel
theorem qd_X_takeJoin_26 : decode qb_X_takeJoin 26 = .ok (.iconst 1, 1) := by decide +kernel
theorem qd_X_takeJoin_27 : decode qb_X_takeJoin 27 = .ok (.aload_n 0, 1) := by decide +kernel
theorem qd_X_takeJoin_28 : decode qb_X_takeJoin 28 = .ok (.getfield 26, 3) := by decide +kernel
theorem qd_X_takeJoin_31 : decode qb_X_takeJoin 31 = .ok (.iload_n 1, 1) := by decide +kernel
theorem qd_X_takeJoin_32 : decode qb_X_takeJoin 32 = .ok (.invokevirtual 174, 3) := by decide +kernel
theorem qd_X_takeJoin_35 : decode qb_X_takeJoin 35 = .ok (.return_, 1) := by decide +kernel
theorem qd_X_correctRows_0 : decode qb_X_correctRows 0 = .ok (.iconst 0, 1) := by decide +kernel
theorem qd_X_correctRows_1 : decode qb_X_correctRows 1 = .ok (.istore_n 2, 1) := by decide +kernel
theorem qd_X_correctRows_2 : decode qb_X_correctRows 2 = .ok (.iload_n 2, 1) := by decide +kernel
theorem qd_X_correctRows_3 : decode qb_X_correctRows 3 = .ok (.aload_n 0, 1) := by decide +kernel
theorem qd_X_correctRows_4 : decode qb_X_correctRows 4 = .ok (.getfield 26, 3) := by decide +kernel
theorem qd_X_correctRows_7 : decode qb_X_correctRows 7 = .ok (.invokevirtual 94, 3) := by decide +kernel
theorem qd_X_correctRows_10 : decode qb_X_correctRows 10 = .ok (.if_icmp .ge 38, 3) := by decide +kernel
theorem qd_X_correctRows_13 : decode qb_X_correctRows 13 = .ok (.aload_n 0, 1) := by decide +kernel
theorem qd_X_correctRows_14 : decode qb_X_correctRows 14 = .ok (.getfield 26, 3) := by decide +kernel
theorem qd_X_correctRows_17 : decode qb_X_correctRows 17 = .ok (.iload_n 2, 1) := by decide +kernel
theorem qd_X_correctRows_18 : decode qb_X_correctRows 18 = .ok (.iconst 1, 1) := by decide +kernel
theorem qd_X_correctRows_19 : decode qb_X_correctRows 19 = .ok (.invokevirtual 129, 3) := by decide +kernel
theorem qd_X_correctRows_22 : decode qb_X_correctRows 22 = .ok (.iload_n 1, 1) := by decide +kernel
theorem qd_X_correctRows_23 : decode qb_X_correctRows 23 = .ok (.if_icmp .ne 19, 3) := by decide +kernel
theorem qd_X_correctRows_26 : decode qb_X_correctRows 26 = .ok (.aload_n 0, 1) := by decide +kernel
theorem qd_X_correctRows_27 : decode qb_X_correctRows 27 = .ok (.getfield 26, 3) := by decide +kernel
theorem qd_X_correctRows_30 : decode qb_X_correctRows 30 = .ok (.iload_n 2, 1) := by decide +kernel
theorem qd_X_correctRows_31 : decode qb_X_correctRows 31 = .ok (.invokevirtual 156, 3) := by decide +kernel
theorem qd_X_correctRows_34 : decode qb_X_correctRows 34 = .ok (.ifCond .ne 8, 3) := by decide +kernel
theorem qd_X_correctRows_37 : decode qb_X_correctRows 37 = .ok (.aload_n 0, 1) := by decide +kernel
theorem qd_X_correctRows_38 : decode qb_X_correctRows 38 = .ok (.iload_n 2, 1) := by decide +kernel
theorem qd_X_correctRows_39 : decode qb_X_correctRows 39 = .ok (.invokevirtual 177, 3) := by decide +kernel
theorem qd_X_correctRows_42 : decode qb_X_correctRows 42 = .ok (.iinc 2 (1), 3) := by decide +kernel
theorem qd_X_correctRows_45 : decode qb_X_correctRows 45 = .ok (.goto (-43), 3) := by decide +kernel
theorem qd_X_correctRows_48 : decode qb_X_correctRows 48 = .ok (.return_, 1) := by decide +kernel
theorem qd_X_correctRow_0 : decode qb_X_correctRow 0 = .ok (.aload_n 0, 1) := by decide +kernel
theorem qd_X_correctRow_1 : decode qb_X_correctRow 1 = .ok (.aload_n 0, 1) := by decide +kernel
theorem qd_X_correctRow_2 : decode qb_X_correctRow 2 = .ok (.getfield 26, 3) := by decide +kernel
theorem qd_X_correctRow_5 : decode qb_X_correctRow 5 = .ok (.iload_n 1, 1) := by decide +kernel
theorem qd_X_correctRow_6 : decode qb_X_correctRow 6 = .ok (.iconst 1, 1) := by decide +kernel
theorem qd_X_correctRow_7 : decode qb_X_correctRow 7 = .ok (.invokevirtual 129, 3) := by decide +kernel
theorem qd_X_correctRow_10 : decode qb_X_correctRow 10 = .ok (.aload_n 0, 1) := by decide +kernel
theorem qd_X_correctRow_11 : decode qb_X_correctRow 11 = .ok (.getfield 26, 3) := by decide +kernel
theorem qd_X_correctRow_14 : decode qb_X_correctRow 14 = .ok (.iload_n 1, 1) := by decide +kernel
theorem qd_X_correctRow_15 : decode qb_X_correctRow 15 = .ok (.iconst 2, 1) := by decide +kernel
theorem qd_X_correctRow_16 : decode qb_X_correctRow 16 = .ok (.invokevirtual 129, 3) := by decide +kernel
theorem qd_X_correctRow_19 : decode qb_X_correctRow 19 = .ok (.invokevirtual 159, 3) := by decide +kernel
theorem qd_X_correctRow_22 : decode qb_X_correctRow 22 = .ok (.aload_n 0, 1) := by decide +kernel
theorem qd_X_correctRow_23 : decode qb_X_correctRow 23 = .ok (.getfield 26, 3) := by decide +kernel
theorem qd_X_correctRow_26 : decode qb_X_correctRow 26 = .ok (.iload_n 1, 1) := by decide +kernel
theorem qd_X_correctRow_27 : decode qb_X_correctRow 27 = .ok (.aload_n 0, 1) := by decide +kernel
theorem qd_X_correctRow_28 : decode qb_X_correctRow 28 = .ok (.getfield 37, 3) := by decide +kernel
theorem qd_X_correctRow_31 : decode qb_X_correctRow 31 = .ok (.invokevirtual 180, 3) := by decide +kernel
theorem qd_X_correctRow_34 : decode qb_X_correctRow 34 = .ok (.ifCond .eq 4, 3) := by decide +kernel
theorem qd_X_correctRow_37 : decode qb_X_correctRow 37 = .ok (.return_, 1) := by decide +kernel
theorem qd_X_correctRow_38 : decode qb_X_correctRow 38 = .ok (.aload_n 0, 1) := by decide +kernel
theorem qd_X_correctRow_39 : decode qb_X_correctRow 39 = .ok (.getfield 26, 3) := by decide +kernel
theorem qd_X_correctRow_42 : decode qb_X_correctRow 42 = .ok (.iload_n 1, 1) := by decide +kernel
theorem qd_X_correctRow_43 : decode qb_X_correctRow 43 = .ok (.invokevirtual 184, 3) := by decide +kernel
theorem qd_X_correctRow_46 : decode qb_X_correctRow 46 = .ok (.ifCond .eq 16, 3) := by decide +kernel
theorem qd_X_correctRow_49 : decode qb_X_correctRow 49 = .ok (.aload_n 0, 1) := by decide +kernel
theorem qd_X_correctRow_50 : decode qb_X_correctRow 50 = .ok (.getfield 33, 3) := by decide +kernel
theorem qd_X_correctRow_53 : decode qb_X_correctRow 53 = .ok (.iconst 0, 1) := by decide +kernel
theorem qd_X_correctRow_54 : decode qb_X_correctRow 54 = .ok (.aload_n 0, 1) := by decide +kernel
theorem qd_X_correctRow_55 : decode qb_X_correctRow 55 = .ok (.getfield 26, 3) := by decide +kernel
theorem qd_X_correctRow_58 : decode qb_X_correctRow 58 = .ok (.iload_n 1, 1) := by decide +kernel
theorem qd_X_correctRow_59 : decode qb_X_correctRow 59 = .ok (.invokevirtual 174, 3) := by decide +kernel
theorem qd_X_correctRow_62 : decode qb_X_correctRow 62 = .ok (.aload_n 0, 1) := by decide +kernel
theorem qd_X_correctRow_63 : decode qb_X_correctRow 63 = .ok (.iload_n 1, 1) := by decide +kernel
theorem qd_X_correctRow_64 : decode qb_X_correctRow 64 = .ok (.invokevirtual 163, 3) := by decide +kernel
theorem qd_X_correctRow_67 : decode qb_X_correctRow 67 = .ok (.return_, 1) := by decide +kernel
theorem qd_X_dropVersions_0 : decode qb_X_dropVersions 0 = .ok (.iconst 0, 1) := by decide +kernel
theorem qd_X_dropVersions_1 : decode qb_X_dropVersions 1 = .ok (.istore_n 1, 1) := by decide +kernel
theorem qd_X_dropVersions_2 : decode qb_X_dropVersions 2 = .ok (.aload_n 0, 1) := by decide +kernel
theorem qd_X_dropVersions_3 : decode qb_X_dropVersions 3 = .ok (.getfield 19, 3) := by decide +kernel
theorem qd_X_dropVersions_6 : decode qb_X_dropVersions 6 = .ok (.invokevirtual 68, 3) := by decide +kernel
theorem qd_X_dropVersions_9 : decode qb_X_dropVersions 9 = .ok (.istore_n 2, 1) := by decide +kernel
theorem qd_X_dropVersions_10 : decode qb_X_dropVersions 10 = .ok (.iload_n 2, 1) := by decide +kernel
theorem qd_X_dropVersions_11 : decode qb_X_dropVersions 11 = .ok (.ifCond .le 41, 3) := by decide +kernel
theorem qd_X_dropVersions_14 : decode qb_X_dropVersions 14 = .ok (.aload_n 0, 1) := by decide +kernel
theorem qd_X_dropVersions_15 : decode qb_X_dropVersions 15 = .ok (.iload_n 1, 1) := by decide +kernel
theorem qd_X_dropVersions_16 : decode qb_X_dropVersions 16 = .ok (.invokevirtual 187, 3) := by decide +kernel
theorem qd_X_dropVersions_19 : decode qb_X_dropVersions 19 = .ok (.ifCond .eq 24, 3) := by decide +kernel
theorem qd_X_dropVersions_22 : decode qb_X_dropVersions 22 = .ok (.aload_n 0, 1) := by decide +kernel
theorem qd_X_dropVersions_23 : decode qb_X_dropVersions 23 = .ok (.getfield 19, 3) := by decide +kernel
theorem qd_X_dropVersions_26 : decode qb_X_dropVersions 26 = .ok (.iload_n 1, 1) := by decide +kernel
theorem qd_X_dropVersions_27 : decode qb_X_dropVersions 27 = .ok (.invokevirtual 190, 3) := by decide +kernel
theorem qd_X_dropVersions_30 : decode qb_X_dropVersions 30 = .ok (.aload_n 0, 1) := by decide +kernel
theorem qd_X_dropVersions_31 : decode qb_X_dropVersions 31 = .ok (.dup, 1) := by decide +kernel
theorem qd_X_dropVersions_32 : decode qb_X_dropVersions 32 = .ok (.getfield 139, 3) := by decide +kernel
theorem qd_X_dropVersions_35 : decode qb_X_dropVersions 35 = .ok (.iconst 1, 1) := by decide +kernel
theorem qd_X_dropVersions_36 : decode qb_X_dropVersions 36 = .ok (.iadd, 1) := by decide +kernel
theorem qd_X_dropVersions_37 : decode qb_X_dropVersions 37 = .ok (.putfield 139, 3) := by decide +kernel
theorem qd_X_dropVersions_40 : decode qb_X_dropVersions 40 = .ok (.goto (6), 3) := by decide +kernel
theorem qd_X_dropVersions_43 : decode qb_X_dropVersions 43 = .ok (.iinc 1 (1), 3) := by decide +kernel
theorem qd_X_dropVersions_46 : decode qb_X_dropVersions 46 = .ok (.iinc 2 (-1), 3) := by decide +kernel
theorem qd_X_dropVersions_49 : decode qb_X_dropVersions 49 = .ok (.goto (-39), 3) := by decide +kernel
theorem qd_X_dropVersions_52 : decode qb_X_dropVersions 52 = .ok (.return_, 1) := by decide +kernel
theorem qd_X_isNeedless_0 : decode qb_X_isNeedless 0 = .ok (.aload_n 0, 1) := by decide +kernel
theorem qd_X_isNeedless_1 : decode qb_X_isNeedless 1 = .ok (.getfield 19, 3) := by decide +kernel
theorem qd_X_isNeedless_4 : decode qb_X_isNeedless 4 = .ok (.iload_n 1, 1) := by decide +kernel
theorem qd_X_isNeedless_5 : decode qb_X_isNeedless 5 = .ok (.iconst 2, 1) := by decide +kernel
theorem qd_X_isNeedless_6 : decode qb_X_isNeedless 6 = .ok (.invokevirtual 125, 3) := by decide +kernel
theorem qd_X_isNeedless_9 : decode qb_X_isNeedless 9 = .ok (.istore_n 2, 1) := by decide +kernel
theorem qd_X_isNeedless_10 : decode qb_X_isNeedless 10 = .ok (.aload_n 0, 1) := by decide +kernel
theorem qd_X_isNeedless_11 : decode qb_X_isNeedless 11 = .ok (.getfield 19, 3) := by decide +kernel
theorem qd_X_isNeedless_14 : decode qb_X_isNeedless 14 = .ok (.iload_n 1, 1) := by decide +kernel
theorem qd_X_isNeedless_15 : decode qb_X_isNeedless 15 = .ok (.iconst 1, 1) := by decide +kernel
theorem qd_X_isNeedless_16 : decode qb_X_isNeedless 16 = .ok (.iadd, 1) := by decide +kernel
theorem qd_X_isNeedless_17 : decode qb_X_isNeedless 17 = .ok (.iconst 2, 1) := by decide +kernel
theorem qd_X_isNeedless_18 : decode qb_X_isNeedless 18 = .ok (.invokevirtual 125, 3) := by decide +kernel
theorem qd_X_isNeedless_21 : decode qb_X_isNeedless 21 = .ok (.iload_n 2, 1) := by decide +kernel
theorem qd_X_isNeedless_22 : decode qb_X_isNeedless 22 = .ok (.if_icmp .eq 5, 3) := by decide +kernel
theorem qd_X_isNeedless_25 : decode qb_X_isNeedless 25 = .ok (.iconst 0, 1) := by decide +kernel
theorem qd_X_isNeedless_26 : decode qb_X_isNeedless 26 = .ok (.ireturn, 1) := by decide +kernel
theorem qd_X_isNeedless_27 : decode qb_X_isNeedless 27 = .ok (.aload_n 0, 1) := by decide +kernel
theorem qd_X_isNeedless_28 : decode qb_X_isNeedless 28 = .ok (.getfield 19, 3) := by decide +kernel
theorem qd_X_isNeedless_31 : decode qb_X_isNeedless 31 = .ok (.iload_n 1, 1) := by decide +kernel
theorem qd_X_isNeedless_32 : decode qb_X_isNeedless 32 = .ok (.iconst 0, 1) := by decide +kernel
theorem qd_X_isNeedless_33 : decode qb_X_isNeedless 33 = .ok (.invokevirtual 125, 3) := by decide +kernel
theorem qd_X_isNeedless_36 : decode qb_X_isNeedless 36 = .ok (.aload_n 0, 1) := by decide +kernel
theorem qd_X_isNeedless_37 : decode qb_X_isNeedless 37 = .ok (.getfield 9, 3) := by decide +kernel
theorem qd_X_isNeedless_40 : decode qb_X_isNeedless 40 = .ok (.iconst 0, 1) := by decide +kernel
theorem qd_X_isNeedless_41 : decode qb_X_isNeedless 41 = .ok (.iaload, 1) := by decide +kernel
theorem qd_X_isNeedless_42 : decode qb_X_isNeedless 42 = .ok (.iadd, 1) := by decide +kernel
theorem qd_X_isNeedless_43 : decode qb_X_isNeedless 43 = .ok (.istore_n 3, 1) := by decide +kernel
theorem qd_X_isNeedless_44 : decode qb_X_isNeedless 44 = .ok (.aload_n 0, 1) := by decide +kernel
theorem qd_X_isNeedless_45 : decode qb_X_isNeedless 45 = .ok (.getfield 19, 3) := by decide +kernel
theorem qd_X_isNeedless_48 : decode qb_X_isNeedless 48 = .ok (.iload_n 1, 1) := by decide +kernel
theorem qd_X_isNeedless_49 : decode qb_X_isNeedless 49 = .ok (.iconst 1, 1) := by decide +kernel
theorem qd_X_isNeedless_50 : decode qb_X_isNeedless 50 = .ok (.iadd, 1) := by decide +kernel
theorem qd_X_isNeedless_51 : decode qb_X_isNeedless 51 = .ok (.iconst 0, 1) := by decide +kernel
theorem qd_X_isNeedless_52 : decode qb_X_isNeedless 52 = .ok (.invokevirtual 125, 3) := by decide +kernel
theorem qd_X_isNeedless_55 : decode qb_X_isNeedless 55 = .ok (.iconst 1, 1) := by decide +kernel
theorem qd_X_isNeedless_56 : decode qb_X_isNeedless 56 = .ok (.isub, 1) := by decide +kernel
theorem qd_X_isNeedless_57 : decode qb_X_isNeedless 57 = .ok (.aload_n 0, 1) := by decide +kernel
theorem qd_X_isNeedless_58 : decode qb_X_isNeedless 58 = .ok (.getfield 9, 3) := by decide +kernel
theorem qd_X_isNeedless_61 : decode qb_X_isNeedless 61 = .ok (.iconst 0, 1) := by decide +kernel
theorem qd_X_isNeedless_62 : decode qb_X_isNeedless 62 = .ok (.iaload, 1) := by decide +kernel
theorem qd_X_isNeedless_63 : decode qb_X_isNeedless 63 = .ok (.iadd, 1) := by decide +kernel
theorem qd_X_isNeedless_64 : decode qb_X_isNeedless 64 = .ok (.istore 4, 2) := by decide +kernel
theorem qd_X_isNeedless_66 : decode qb_X_isNeedless 66 = .ok (.iload 4, 2) := by decide +kernel
theorem qd_X_isNeedless_68 : decode qb_X_isNeedless 68 = .ok (.aload_n 0, 1) := by decide +kernel
theorem qd_X_isNeedless_69 : decode qb_X_isNeedless 69 = .ok (.invokevirtual 109, 3) := by decide +kernel
theorem qd_X_isNeedless_72 : decode qb_X_isNeedless 72 = .ok (.if_icmp .gt 24, 3) := by decide +kernel
theorem qd_X_isNeedless_75 : decode qb_X_isNeedless 75 = .ok (.aload_n 0, 1) := by decide +kernel
theorem qd_X_isNeedless_76 : decode qb_X_isNeedless 76 = .ok (.getfield 26, 3) := by decide +kernel
theorem qd_X_isNeedless_79 : decode qb_X_isNeedless 79 = .ok (.iload_n 2, 1) := by decide +kernel
theorem qd_X_isNeedless_80 : decode qb_X_isNeedless 80 = .ok (.bipush 16, 2) := by decide +kernel
theorem qd_X_isNeedless_82 : decode qb_X_isNeedless 82 = .ok (.irem, 1) := by decide +kernel
theorem qd_X_isNeedless_83 : decode qb_X_isNeedless 83 = .ok (.iload_n 3, 1) := by decide +kernel
theorem qd_X_isNeedless_84 : decode qb_X_isNeedless 84 = .ok (.iload 4, 2) := by decide +kernel
theorem qd_X_isNeedless_86 : decode qb_X_isNeedless 86 = .ok (.invokevirtual 193, 3) := by decide +kernel
theorem qd_X_isNeedless_89 : decode qb_X_isNeedless 89 = .ok (.ifCond .ne 7, 3) := by decide +kernel
theorem qd_X_isNeedless_92 : decode qb_X_isNeedless 92 = .ok (.iconst 1, 1) := by decide +kernel
theorem qd_X_isNeedless_93 : decode qb_X_isNeedless 93 = .ok (.goto (4), 3) := by decide +kernel
theorem qd_X_isNeedless_96 : decode qb_X_isNeedless 96 = .ok (.iconst 0, 1) := by decide +kernel
theorem qd_X_isNeedless_97 : decode qb_X_isNeedless 97 = .ok (.ireturn, 1) := by decide +kernel
theorem qd_O_init_0 : decode qb_O_init 0 = .ok (.aload_n 0, 1) := by decide +kernel
theorem qd_O_init_1 : decode qb_O_init 1 = .ok (.invokespecial 3, 3) := by decide +kernel
theorem qd_O_init_4 : decode qb_O_init 4 = .ok (.aload_n 0, 1) := by decide +kernel
theorem qd_O_init_5 : decode qb_O_init 5 = .ok (.new 9, 3) := by decide +kernel
theorem qd_O_init_8 : decode qb_O_init 8 = .ok (.dup, 1) := by decide +kernel
theorem qd_O_init_9 : decode qb_O_init 9 = .ok (.bipush 11, 2) := by decide +kernel
theorem qd_O_init_11 : decode qb_O_init 11 = .ok (.sipush 192, 3) := by decide +kernel
theorem qd_O_init_14 : decode qb_O_init 14 = .ok (.invokespecial 13, 3) := by decide +kernel
theorem qd_O_init_17 : decode qb_O_init 17 = .ok (.putfield 16, 3) := by decide +kernel
theorem qd_O_init_20 : decode qb_O_init 20 = .ok (.return_, 1) := by decide +kernel
theorem qd_O_size_0 : decode qb_O_size 0 = .ok (.aload_n 0, 1) := by decide +kernel
theorem qd_O_size_1 : decode qb_O_size 1 = .ok (.getfield 16, 3) := by decide +kernel
theorem qd_O_size_4 : decode qb_O_size 4 = .ok (.invokevirtual 20, 3) := by decide +kernel
theorem qd_O_size_7 : decode qb_O_size 7 = .ok (.ireturn, 1) := by decide +kernel
theorem qd_O_get_0 : decode qb_O_get 0 = .ok (.aload_n 0, 1) := by decide +kernel
theorem qd_O_get_1 : decode qb_O_get 1 = .ok (.getfield 16, 3) := by decide +kernel
theorem qd_O_get_4 : decode qb_O_get 4 = .ok (.iload_n 1, 1) := by decide +kernel
theorem qd_O_get_5 : decode qb_O_get 5 = .ok (.iload_n 2, 1) := by decide +kernel
theorem qd_O_get_6 : decode qb_O_get 6 = .ok (.invokevirtual 24, 3) := by decide +kernel
theorem qd_O_get_9 : decode qb_O_get 9 = .ok (.ireturn, 1) := by decide +kernel
theorem qd_O_clear_0 : decode qb_O_clear 0 = .ok (.aload_n 0, 1) := by decide +kernel
theorem qd_O_clear_1 : decode qb_O_clear 1 = .ok (.getfield 16, 3) := by decide +kernel
theorem qd_O_clear_4 : decode qb_O_clear 4 = .ok (.invokevirtual 28, 3) := by decide +kernel
theorem qd_O_clear_7 : decode qb_O_clear 7 = .ok (.return_, 1) := by decide +kernel
theorem qd_O_add_0 : decode qb_O_add 0 = .ok (.aload_n 0, 1) := by decide +kernel
theorem qd_O_add_1 : decode qb_O_add 1 = .ok (.getfield 16, 3) := by decide +kernel
theorem qd_O_add_4 : decode qb_O_add 4 = .ok (.invokevirtual 20, 3) := by decide +kernel
theorem qd_O_add_7 : decode qb_O_add 7 = .ok (.istore 4, 2) := by decide +kernel
theorem qd_O_add_9 : decode qb_O_add 9 = .ok (.aload_n 2, 1) := by decide +kernel
theorem qd_O_add_10 : decode qb_O_add 10 = .ok (.ifnull 15, 3) := by decide +kernel
theorem qd_O_add_13 : decode qb_O_add 13 = .ok (.aload_n 0, 1) := by decide +kernel
theorem qd_O_add_14 : decode qb_O_add 14 = .ok (.getfield 16, 3) := by decide +kernel
theorem qd_O_add_17 : decode qb_O_add 17 = .ok (.iload 4, 2) := by decide +kernel
theorem qd_O_add_19 : decode qb_O_add 19 = .ok (.invokevirtual 31, 3) := by decide +kernel
theorem qd_O_add_22 : decode qb_O_add 22 = .ok (.ifCond .ne 4, 3) := by decide +kernel
theorem qd_O_add_25 : decode qb_O_add 25 = .ok (.return_, 1) := by decide +kernel
theorem qd_O_add_26 : decode qb_O_add 26 = .ok (.iload_n 1, 1) := by decide +kernel
theorem qd_O_add_27 : decode qb_O_add 27 = .ok (.iconst 1, 1) := by decide +kernel
theorem qd_O_add_28 : decode qb_O_add 28 = .ok (.if_icmp .ne 16, 3) := by decide +kernel
theorem qd_O_add_31 : decode qb_O_add 31 = .ok (.aload_n 0, 1) := by decide +kernel
theorem qd_O_add_32 : decode qb_O_add 32 = .ok (.dup, 1) := by decide +kernel
theorem qd_O_add_33 : decode qb_O_add 33 = .ok (.getfield 35, 3) := by decide +kernel
theorem qd_O_add_36 : decode qb_O_add 36 = .ok (.iconst 1, 1) := by decide +kernel
theorem qd_O_add_37 : decode qb_O_add 37 = .ok (.iadd, 1) := by decide +kernel
theorem qd_O_add_38 : decode qb_O_add 38 = .ok (.putfield 35, 3) := by decide +kernel
theorem qd_O_add_41 : decode qb_O_add 41 = .ok (.goto (13), 3) := by decide +kernel
theorem qd_O_add_44 : decode qb_O_add 44 = .ok (.aload_n 0, 1) := by decide +kernel
theorem qd_O_add_45 : decode qb_O_add 45 = .ok (.dup, 1) := by decide +kernel
theorem qd_O_add_46 : decode qb_O_add 46 = .ok (.getfield 39, 3) := by decide +kernel
theorem qd_O_add_49 : decode qb_O_add 49 = .ok (.iconst 1, 1) := by decide +kernel
theorem qd_O_add_50 : decode qb_O_add 50 = .ok (.iadd, 1) := by decide +kernel
theorem qd_O_add_51 : decode qb_O_add 51 = .ok (.putfield 39, 3) := by decide +kernel
theorem qd_O_add_54 : decode qb_O_add 54 = .ok (.aload_n 0, 1) := by decide +kernel
theorem qd_O_add_55 : decode qb_O_add 55 = .ok (.getfield 16, 3) := by decide +kernel
theorem qd_O_add_58 : decode qb_O_add 58 = .ok (.iload 4, 2) := by decide +kernel
theorem qd_O_add_60 : decode qb_O_add 60 = .ok (.iconst 0, 1) := by decide +kernel
theorem qd_O_add_61 : decode qb_O_add 61 = .ok (.iload_n 1, 1) := by decide +kernel
theorem qd_O_add_62 : decode qb_O_add 62 = .ok (.invokevirtual 42, 3) := by decide +kernel
theorem qd_O_add_65 : decode qb_O_add 65 = .ok (.aload_n 0, 1) := by decide +kernel
theorem qd_O_add_66 : decode qb_O_add 66 = .ok (.getfield 16, 3) := by decide +kernel
theorem qd_O_add_69 : decode qb_O_add 69 = .ok (.iload 4, 2) := by decide +kernel
theorem qd_O_add_71 : decode qb_O_add 71 = .ok (.iconst 1, 1) := by decide +kernel
theorem qd_O_add_72 : decode qb_O_add 72 = .ok (.aload_n 2, 1) := by decide +kernel
theorem qd_O_add_73 : decode qb_O_add 73 = .ok (.iload_n 3, 1) := by decide +kernel
theorem qd_O_add_74 : decode qb_O_add 74 = .ok (.iconst 0, 1) := by decide +kernel
theorem qd_O_add_75 : decode qb_O_add 75 = .ok (.invokevirtual 48, 3) := by decide +kernel
theorem qd_O_add_78 : decode qb_O_add 78 = .ok (.invokevirtual 42, 3) := by decide +kernel
theorem qd_O_add_81 : decode qb_O_add 81 = .ok (.aload_n 0, 1) := by decide +kernel
theorem qd_O_add_82 : decode qb_O_add 82 = .ok (.getfield 16, 3) := by decide +kernel
theorem qd_O_add_85 : decode qb_O_add 85 = .ok (.iload 4, 2) := by decide +kernel
theorem qd_O_add_87 : decode qb_O_add 87 = .ok (.iconst 2, 1) := by decide +kernel
theorem qd_O_add_88 : decode qb_O_add 88 = .ok (.aload_n 2, 1) := by decide +kernel
theorem qd_O_add_89 : decode qb_O_add 89 = .ok (.iload_n 3, 1) := by decide +kernel
theorem qd_O_add_90 : decode qb_O_add 90 = .ok (.iconst 1, 1) := by decide +kernel
theorem qd_O_add_91 : decode qb_O_add 91 = .ok (.invokevirtual 48, 3) := by decide +kernel
theorem qd_O_add_94 : decode qb_O_add 94 = .ok (.invokevirtual 42, 3) := by decide +kernel
theorem qd_O_add_97 : decode qb_O_add 97 = .ok (.aload_n 0, 1) := by decide +kernel
theorem qd_O_add_98 : decode qb_O_add 98 = .ok (.getfield 16, 3) := by decide +kernel
theorem qd_O_add_101 : decode qb_O_add 101 = .ok (.iload 4, 2) := by decide +kernel
theorem qd_O_add_103 : decode qb_O_add 103 = .ok (.iconst 3, 1) := by decide +kernel
theorem qd_O_add_104 : decode qb_O_add 104 = .ok (.aload_n 2, 1) := by decide +kernel
theorem qd_O_add_105 : decode qb_O_add 105 = .ok (.iload_n 3, 1) := by decide +kernel
theorem qd_O_add_106 : decode qb_O_add 106 = .ok (.iconst 2, 1) := by decide +kernel
theorem qd_O_add_107 : decode qb_O_add 107 = .ok (.invokevirtual 48, 3) := by decide +kernel
theorem qd_O_add_110 : decode qb_O_add 110 = .ok (.invokevirtual 42, 3) := by decide +kernel
theorem qd_O_add_113 : decode qb_O_add 113 = .ok (.aload_n 0, 1) := by decide +kernel
theorem qd_O_add_114 : decode qb_O_add 114 = .ok (.getfield 16, 3) := by decide +kernel
theorem qd_O_add_117 : decode qb_O_add 117 = .ok (.iload 4, 2) := by decide +kernel
theorem qd_O_add_119 : decode qb_O_add 119 = .ok (.iconst 4, 1) := by decide +kernel
theorem qd_O_add_120 : decode qb_O_add 120 = .ok (.aload_n 2, 1) := by decide +kernel
theorem qd_O_add_121 : decode qb_O_add 121 = .ok (.iload_n 3, 1) := by decide +kernel
theorem qd_O_add_122 : decode qb_O_add 122 = .ok (.iconst 3, 1) := by decide +kernel
theorem qd_O_add_123 : decode qb_O_add 123 = .ok (.invokevirtual 48, 3) := by decide +kernel
theorem qd_O_add_126 : decode qb_O_add 126 = .ok (.invokevirtual 42, 3) := by decide +kernel
theorem qd_O_add_129 : decode qb_O_add 129 = .ok (.iconst 0, 1) := by decide +kernel
theorem qd_O_add_130 : decode qb_O_add 130 = .ok (.istore 5, 2) := by decide +kernel
theorem qd_O_add_132 : decode qb_O_add 132 = .ok (.iload 5, 2) := by decide +kernel
theorem qd_O_add_134 : decode qb_O_add 134 = .ok (.bipush 6, 2) := by decide +kernel
theorem qd_O_add_136 : decode qb_O_add 136 = .ok (.if_icmp .ge 32, 3) := by decide +kernel
theorem qd_O_add_139 : decode qb_O_add 139 = .ok (.aload_n 0, 1) := by decide +kernel
theorem qd_O_add_140 : decode qb_O_add 140 = .ok (.getfield 16, 3) := by decide +kernel
theorem qd_O_add_143 : decode qb_O_add 143 = .ok (.iload 4, 2) := by decide +kernel
theorem qd_O_add_145 : decode qb_O_add 145 = .ok (.iconst 5, 1) := by decide +kernel
theorem qd_O_add_146 : decode qb_O_add 146 = .ok (.iload 5, 2) := by decide +kernel
theorem qd_O_add_148 : decode qb_O_add 148 = .ok (.iadd, 1) := by decide +kernel
theorem qd_O_add_149 : decode qb_O_add 149 = .ok (.aload_n 2, 1) := by decide +kernel
theorem qd_O_add_150 : decode qb_O_add 150 = .ok (.iload_n 3, 1) := by decide +kernel
theorem qd_O_add_151 : decode qb_O_add 151 = .ok (.bipush 6, 2) := by decide +kernel
theorem qd_O_add_153 : decode qb_O_add 153 = .ok (.iload 5, 2) := by decide +kernel
theorem qd_O_add_155 : decode qb_O_add 155 = .ok (.iadd, 1) := by decide +kernel
theorem qd_O_add_156 : decode qb_O_add 156 = .ok (.invokevirtual 48, 3) := by decide +kernel
theorem qd_O_add_159 : decode qb_O_add 159 = .ok (.invokevirtual 42, 3) := by decide +kernel
theorem qd_O_add_162 : decode qb_O_add 162 = .ok (.iinc 5 (1), 3) := by decide +kernel
theorem qd_O_add_165 : decode qb_O_add 165 = .ok (.goto (-33), 3) := by decide +kernel
theorem qd_O_add_168 : decode qb_O_add 168 = .ok (.return_, 1) := by decide +kernel
theorem qd_R_init_0 : decode qb_R_init 0 = .ok (.aload_n 0, 1) := by decide +kernel
theorem qd_R_init_1 : decode qb_R_init 1 = .ok (.invokespecial 3, 3) := by decide +kernel
theorem qd_R_init_4 : decode qb_R_init 4 = .ok (.aload_n 0, 1) := by decide +kernel
theorem qd_R_init_5 : decode qb_R_init 5 = .ok (.new 9, 3) := by decide +kernel
theorem qd_R_init_8 : decode qb_R_init 8 = .ok (.dup, 1) := by decide +kernel
theorem qd_R_init_9 : decode qb_R_init 9 = .ok (.bipush 12, 2) := by decide +kernel
theorem qd_R_init_11 : decode qb_R_init 11 = .ok (.bipush 96, 2) := by decide +kernel
theorem qd_R_init_13 : decode qb_R_init 13 = .ok (.invokespecial 13, 3) := by decide +kernel
theorem qd_R_init_16 : decode qb_R_init 16 = .ok (.putfield 16, 3) := by decide +kernel
theorem qd_R_init_19 : decode qb_R_init 19 = .ok (.return_, 1) := by decide +kernel
theorem qd_R_size_0 : decode qb_R_size 0 = .ok (.aload_n 0, 1) := by decide +kernel
theorem qd_R_size_1 : decode qb_R_size 1 = .ok (.getfield 16, 3) := by decide +kernel
theorem qd_R_size_4 : decode qb_R_size 4 = .ok (.invokevirtual 20, 3) := by decide +kernel
theorem qd_R_size_7 : decode qb_R_size 7 = .ok (.ireturn, 1) := by decide +kernel
theorem qd_R_get_0 : decode qb_R_get 0 = .ok (.aload_n 0, 1) := by decide +kernel
theorem qd_R_get_1 : decode qb_R_get 1 = .ok (.getfield 16, 3) := by decide +kernel
theorem qd_R_get_4 : decode qb_R_get 4 = .ok (.iload_n 1, 1) := by decide +kernel
theorem qd_R_get_5 : decode qb_R_get 5 = .ok (.iload_n 2, 1) := by decide +kernel
theorem qd_R_get_6 : decode qb_R_get 6 = .ok (.invokevirtual 24, 3) := by decide +kernel
theorem qd_R_get_9 : decode qb_R_get 9 = .ok (.ireturn, 1) := by decide +kernel
theorem qd_R_waits_0 : decode qb_R_waits 0 = .ok (.aload_n 0, 1) := by decide +kernel
theorem qd_R_waits_1 : decode qb_R_waits 1 = .ok (.getfield 16, 3) := by decide +kernel
theorem qd_R_waits_4 : decode qb_R_waits 4 = .ok (.iload_n 1, 1) := by decide +kernel
theorem qd_R_waits_5 : decode qb_R_waits 5 = .ok (.iconst 4, 1) := by decide +kernel
theorem qd_R_waits_6 : decode qb_R_waits 6 = .ok (.invokevirtual 24, 3) := by decide +kernel
theorem qd_R_waits_9 : decode qb_R_waits 9 = .ok (.iconst 1, 1) := by decide +kernel
theorem qd_R_waits_10 : decode qb_R_waits 10 = .ok (.if_icmp .ne 7, 3) := by decide +kernel
theorem qd_R_waits_13 : decode qb_R_waits 13 = .ok (.iconst 1, 1) := by decide +kernel
theorem qd_R_waits_14 : decode qb_R_waits 14 = .ok (.goto (4), 3) := by decide +kernel
theorem qd_R_waits_17 : decode qb_R_waits 17 = .ok (.iconst 0, 1) := by decide +kernel
theorem qd_R_waits_18 : decode qb_R_waits 18 = .ok (.ireturn, 1) := by decide +kernel
theorem qd_R_wasGiven_0 : decode qb_R_wasGiven 0 = .ok (.aload_n 0, 1) := by decide +kernel
theorem qd_R_wasGiven_1 : decode qb_R_wasGiven 1 = .ok (.getfield 16, 3) := by decide +kernel
theorem qd_R_wasGiven_4 : decode qb_R_wasGiven 4 = .ok (.iload_n 1, 1) := by decide +kernel
theorem qd_R_wasGiven_5 : decode qb_R_wasGiven 5 = .ok (.iconst 5, 1) := by decide +kernel
theorem qd_R_wasGiven_6 : decode qb_R_wasGiven 6 = .ok (.invokevirtual 24, 3) := by decide +kernel
theorem qd_R_wasGiven_9 : decode qb_R_wasGiven 9 = .ok (.iconst 1, 1) := by decide +kernel
theorem qd_R_wasGiven_10 : decode qb_R_wasGiven 10 = .ok (.if_icmp .ne 7, 3) := by decide +kernel
theorem qd_R_wasGiven_13 : decode qb_R_wasGiven 13 = .ok (.iconst 1, 1) := by decide +kernel
theorem qd_R_wasGiven_14 : decode qb_R_wasGiven 14 = .ok (.goto (4), 3) := by decide +kernel
theorem qd_R_wasGiven_17 : decode qb_R_wasGiven 17 = .ok (.iconst 0, 1) := by decide +kernel
theorem qd_R_wasGiven_18 : decode qb_R_wasGiven 18 = .ok (.ireturn, 1) := by decide +kernel
theorem qd_R_add_0 : decode qb_R_add 0 = .ok (.aload_n 0, 1) := by decide +kernel
theorem qd_R_add_1 : decode qb_R_add 1 = .ok (.getfield 16, 3) := by decide +kernel
theorem qd_R_add_4 : decode qb_R_add 4 = .ok (.invokevirtual 20, 3) := by decide +kernel
theorem qd_R_add_7 : decode qb_R_add 7 = .ok (.istore 5, 2) := by decide +kernel
theorem qd_R_add_9 : decode qb_R_add 9 = .ok (.iload 5, 2) := by decide +kernel
theorem qd_R_add_11 : decode qb_R_add 11 = .ok (.ifCond .le 25, 3) := by decide +kernel
theorem qd_R_add_14 : decode qb_R_add 14 = .ok (.aload_n 0, 1) := by decide +kernel
theorem qd_R_add_15 : decode qb_R_add 15 = .ok (.getfield 16, 3) := by decide +kernel
theorem qd_R_add_18 : decode qb_R_add 18 = .ok (.iload 5, 2) := by decide +kernel
theorem qd_R_add_20 : decode qb_R_add 20 = .ok (.iconst 1, 1) := by decide +kernel
theorem qd_R_add_21 : decode qb_R_add 21 = .ok (.isub, 1) := by decide +kernel
theorem qd_R_add_22 : decode qb_R_add 22 = .ok (.iconst 2, 1) := by decide +kernel
theorem qd_R_add_23 : decode qb_R_add 23 = .ok (.invokevirtual 24, 3) := by decide +kernel
theorem qd_R_add_26 : decode qb_R_add 26 = .ok (.iload_n 3, 1) := by decide +kernel
theorem qd_R_add_27 : decode qb_R_add 27 = .ok (.if_icmp .le 9, 3) := by decide +kernel
theorem qd_R_add_30 : decode qb_R_add 30 = .ok (.iinc 5 (-1), 3) := by decide +kernel
theorem qd_R_add_33 : decode qb_R_add 33 = .ok (.goto (-24), 3) := by decide +kernel
theorem qd_R_add_36 : decode qb_R_add 36 = .ok (.aload_n 0, 1) := by decide +kernel
theorem qd_R_add_37 : decode qb_R_add 37 = .ok (.getfield 16, 3) := by decide +kernel
theorem qd_R_add_40 : decode qb_R_add 40 = .ok (.iload 5, 2) := by decide +kernel
theorem qd_R_add_42 : decode qb_R_add 42 = .ok (.invokevirtual 28, 3) := by decide +kernel
theorem qd_R_add_45 : decode qb_R_add 45 = .ok (.ifCond .eq 70, 3) := by decide +kernel
theorem qd_R_add_48 : decode qb_R_add 48 = .ok (.aload_n 0, 1) := by decide +kernel
theorem qd_R_add_49 : decode qb_R_add 49 = .ok (.getfield 16, 3) := by decide +kernel
theorem qd_R_add_52 : decode qb_R_add 52 = .ok (.iload 5, 2) := by decide +kernel
theorem qd_R_add_54 : decode qb_R_add 54 = .ok (.iconst 0, 1) := by decide +kernel
theorem qd_R_add_55 : decode qb_R_add 55 = .ok (.iload_n 1, 1) := by decide +kernel
theorem qd_R_add_56 : decode qb_R_add 56 = .ok (.invokevirtual 32, 3) := by decide +kernel
theorem qd_R_add_59 : decode qb_R_add 59 = .ok (.aload_n 0, 1) := by decide +kernel
theorem qd_R_add_60 : decode qb_R_add 60 = .ok (.getfield 16, 3) := by decide +kernel
theorem qd_R_add_63 : decode qb_R_add 63 = .ok (.iload 5, 2) := by decide +kernel
theorem qd_R_add_65 : decode qb_R_add 65 = .ok (.iconst 1, 1) := by decide +kernel
theorem qd_R_add_66 : decode qb_R_add 66 = .ok (.iload_n 2, 1) := by decide +kernel
theorem qd_R_add_67 : decode qb_R_add 67 = .ok (.invokevirtual 32, 3) := by decide +kernel
theorem qd_R_add_70 : decode qb_R_add 70 = .ok (.aload_n 0, 1) := by decide +kernel
theorem qd_R_add_71 : decode qb_R_add 71 = .ok (.getfield 16, 3) := by decide +kernel
theorem qd_R_add_74 : decode qb_R_add 74 = .ok (.iload 5, 2) := by decide +kernel
theorem qd_R_add_76 : decode qb_R_add 76 = .ok (.iconst 2, 1) := by decide +kernel
theorem qd_R_add_77 : decode qb_R_add 77 = .ok (.iload_n 3, 1) := by decide +kernel
theorem qd_R_add_78 : decode qb_R_add 78 = .ok (.invokevirtual 32, 3) := by decide +kernel
theorem qd_R_add_81 : decode qb_R_add 81 = .ok (.aload_n 0, 1) := by decide +kernel
theorem qd_R_add_82 : decode qb_R_add 82 = .ok (.getfield 16, 3) := by decide +kernel
theorem qd_R_add_85 : decode qb_R_add 85 = .ok (.iload 5, 2) := by decide +kernel
theorem qd_R_add_87 : decode qb_R_add 87 = .ok (.iconst 3, 1) := by decide +kernel
theorem qd_R_add_88 : decode qb_R_add 88 = .ok (.iload 4, 2) := by decide +kernel
theorem qd_R_add_90 : decode qb_R_add 90 = .ok (.invokevirtual 32, 3) := by decide +kernel
theorem qd_R_add_93 : decode qb_R_add 93 = .ok (.aload_n 0, 1) := by decide +kernel
theorem qd_R_add_94 : decode qb_R_add 94 = .ok (.getfield 16, 3) := by decide +kernel
theorem qd_R_add_97 : decode qb_R_add 97 = .ok (.iload 5, 2) := by decide +kernel
theorem qd_R_add_99 : decode qb_R_add 99 = .ok (.iconst 4, 1) := by decide +kernel
theorem qd_R_add_100 : decode qb_R_add 100 = .ok (.iconst 1, 1) := by decide +kernel
theorem qd_R_add_101 : decode qb_R_add 101 = .ok (.invokevirtual 32, 3) := by decide +kernel
theorem qd_R_add_104 : decode qb_R_add 104 = .ok (.aload_n 0, 1) := by decide +kernel
theorem qd_R_add_105 : decode qb_R_add 105 = .ok (.getfield 16, 3) := by decide +kernel
theorem qd_R_add_108 : decode qb_R_add 108 = .ok (.iload 5, 2) := by decide +kernel
theorem qd_R_add_110 : decode qb_R_add 110 = .ok (.iconst 5, 1) := by decide +kernel
theorem qd_R_add_111 : decode qb_R_add 111 = .ok (.iconst 0, 1) := by decide +kernel
theorem qd_R_add_112 : decode qb_R_add 112 = .ok (.invokevirtual 32, 3) := by decide +kernel
theorem qd_R_add_115 : decode qb_R_add 115 = .ok (.return_, 1) := by decide +kernel
theorem qd_R_setJoin_0 : decode qb_R_setJoin 0 = .ok (.aload_n 2, 1) := by decide +kernel
theorem qd_R_setJoin_1 : decode qb_R_setJoin 1 = .ok (.ifnonnull 4, 3) := by decide +kernel
theorem qd_R_setJoin_4 : decode qb_R_setJoin 4 = .ok (.return_, 1) := by decide +kernel
theorem qd_R_setJoin_5 : decode qb_R_setJoin 5 = .ok (.aload_n 0, 1) := by decide +kernel
theorem qd_R_setJoin_6 : decode qb_R_setJoin 6 = .ok (.getfield 16, 3) := by decide +kernel
theorem qd_R_setJoin_9 : decode qb_R_setJoin 9 = .ok (.iload_n 1, 1) := by decide +kernel
theorem qd_R_setJoin_10 : decode qb_R_setJoin 10 = .ok (.iconst 4, 1) := by decide +kernel
theorem qd_R_setJoin_11 : decode qb_R_setJoin 11 = .ok (.iconst 0, 1) := by decide +kernel
theorem qd_R_setJoin_12 : decode qb_R_setJoin 12 = .ok (.invokevirtual 32, 3) := by decide +kernel
theorem qd_R_setJoin_15 : decode qb_R_setJoin 15 = .ok (.aload_n 0, 1) := by decide +kernel
