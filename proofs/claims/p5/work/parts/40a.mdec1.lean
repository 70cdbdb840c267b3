theorem qd_M_take_43 : decode qb_M_take 43 = .ok (.aload_n 0, 1) := by decide +kernel
theorem qd_M_take_44 : decode qb_M_take 44 = .ok (.getfield 20, 3) := by decide +kernel
theorem qd_M_take_47 : decode qb_M_take 47 = .ok (.bipush 6, 2) := by decide +kernel
theorem qd_M_take_49 : decode qb_M_take 49 = .ok (.iload_n 1, 1) := by decide +kernel
theorem qd_M_take_50 : decode qb_M_take 50 = .ok (.imul, 1) := by decide +kernel
theorem qd_M_take_51 : decode qb_M_take 51 = .ok (.iconst 5, 1) := by decide +kernel
theorem qd_M_take_52 : decode qb_M_take 52 = .ok (.iadd, 1) := by decide +kernel
theorem qd_M_take_53 : decode qb_M_take 53 = .ok (.aload_n 0, 1) := by decide +kernel
theorem qd_M_take_54 : decode qb_M_take 54 = .ok (.invokevirtual 90, 3) := by decide +kernel
theorem qd_M_take_57 : decode qb_M_take 57 = .ok (.ifCond .eq 7, 3) := by decide +kernel
theorem qd_M_take_60 : decode qb_M_take 60 = .ok (.iconst 1, 1) := by decide +kernel
theorem qd_M_take_61 : decode qb_M_take 61 = .ok (.goto (4), 3) := by decide +kernel
theorem qd_M_take_64 : decode qb_M_take 64 = .ok (.iconst 0, 1) := by decide +kernel
theorem qd_M_take_65 : decode qb_M_take 65 = .ok (.iastore, 1) := by decide +kernel
theorem qd_M_take_66 : decode qb_M_take 66 = .ok (.aload_n 0, 1) := by decide +kernel
theorem qd_M_take_67 : decode qb_M_take 67 = .ok (.getfield 20, 3) := by decide +kernel
theorem qd_M_take_70 : decode qb_M_take 70 = .ok (.bipush 6, 2) := by decide +kernel
theorem qd_M_take_72 : decode qb_M_take 72 = .ok (.iload_n 1, 1) := by decide +kernel
theorem qd_M_take_73 : decode qb_M_take 73 = .ok (.imul, 1) := by decide +kernel
theorem qd_M_take_74 : decode qb_M_take 74 = .ok (.iconst 5, 1) := by decide +kernel
theorem qd_M_take_75 : decode qb_M_take 75 = .ok (.iadd, 1) := by decide +kernel
theorem qd_M_take_76 : decode qb_M_take 76 = .ok (.iaload, 1) := by decide +kernel
theorem qd_M_take_77 : decode qb_M_take 77 = .ok (.iconst 1, 1) := by decide +kernel
theorem qd_M_take_78 : decode qb_M_take 78 = .ok (.if_icmp .ne 9, 3) := by decide +kernel
theorem qd_M_take_81 : decode qb_M_take 81 = .ok (.aload_n 0, 1) := by decide +kernel
theorem qd_M_take_82 : decode qb_M_take 82 = .ok (.iload_n 1, 1) := by decide +kernel
theorem qd_M_take_83 : decode qb_M_take 83 = .ok (.iconst 1, 1) := by decide +kernel
theorem qd_M_take_84 : decode qb_M_take 84 = .ok (.invokevirtual 94, 3) := by decide +kernel
theorem qd_M_take_87 : decode qb_M_take 87 = .ok (.return_, 1) := by decide +kernel
theorem qd_M_rowBy_0 : decode qb_M_rowBy 0 = .ok (.iconst 0, 1) := by decide +kernel
theorem qd_M_rowBy_1 : decode qb_M_rowBy 1 = .ok (.istore_n 2, 1) := by decide +kernel
theorem qd_M_rowBy_2 : decode qb_M_rowBy 2 = .ok (.iload_n 2, 1) := by decide +kernel
theorem qd_M_rowBy_3 : decode qb_M_rowBy 3 = .ok (.aload_n 0, 1) := by decide +kernel
theorem qd_M_rowBy_4 : decode qb_M_rowBy 4 = .ok (.getfield 98, 3) := by decide +kernel
theorem qd_M_rowBy_7 : decode qb_M_rowBy 7 = .ok (.if_icmp .ge 107, 3) := by decide +kernel
theorem qd_M_rowBy_10 : decode qb_M_rowBy 10 = .ok (.iconst 0, 1) := by decide +kernel
theorem qd_M_rowBy_11 : decode qb_M_rowBy 11 = .ok (.istore_n 3, 1) := by decide +kernel
theorem qd_M_rowBy_12 : decode qb_M_rowBy 12 = .ok (.iconst 0, 1) := by decide +kernel
theorem qd_M_rowBy_13 : decode qb_M_rowBy 13 = .ok (.istore 4, 2) := by decide +kernel
theorem qd_M_rowBy_15 : decode qb_M_rowBy 15 = .ok (.iload 4, 2) := by decide +kernel
theorem qd_M_rowBy_17 : decode qb_M_rowBy 17 = .ok (.aload_n 0, 1) := by decide +kernel
theorem qd_M_rowBy_18 : decode qb_M_rowBy 18 = .ok (.getfield 98, 3) := by decide +kernel
theorem qd_M_rowBy_21 : decode qb_M_rowBy 21 = .ok (.if_icmp .ge 80, 3) := by decide +kernel
theorem qd_M_rowBy_24 : decode qb_M_rowBy 24 = .ok (.aload_n 0, 1) := by decide +kernel
theorem qd_M_rowBy_25 : decode qb_M_rowBy 25 = .ok (.getfield 20, 3) := by decide +kernel
theorem qd_M_rowBy_28 : decode qb_M_rowBy 28 = .ok (.bipush 6, 2) := by decide +kernel
theorem qd_M_rowBy_30 : decode qb_M_rowBy 30 = .ok (.iload 4, 2) := by decide +kernel
theorem qd_M_rowBy_32 : decode qb_M_rowBy 32 = .ok (.imul, 1) := by decide +kernel
theorem qd_M_rowBy_33 : decode qb_M_rowBy 33 = .ok (.iconst 2, 1) := by decide +kernel
theorem qd_M_rowBy_34 : decode qb_M_rowBy 34 = .ok (.iadd, 1) := by decide +kernel
theorem qd_M_rowBy_35 : decode qb_M_rowBy 35 = .ok (.iaload, 1) := by decide +kernel
theorem qd_M_rowBy_36 : decode qb_M_rowBy 36 = .ok (.istore 5, 2) := by decide +kernel
theorem qd_M_rowBy_38 : decode qb_M_rowBy 38 = .ok (.aload_n 0, 1) := by decide +kernel
theorem qd_M_rowBy_39 : decode qb_M_rowBy 39 = .ok (.getfield 20, 3) := by decide +kernel
theorem qd_M_rowBy_42 : decode qb_M_rowBy 42 = .ok (.bipush 6, 2) := by decide +kernel
theorem qd_M_rowBy_44 : decode qb_M_rowBy 44 = .ok (.iload_n 2, 1) := by decide +kernel
theorem qd_M_rowBy_45 : decode qb_M_rowBy 45 = .ok (.imul, 1) := by decide +kernel
theorem qd_M_rowBy_46 : decode qb_M_rowBy 46 = .ok (.iconst 2, 1) := by decide +kernel
theorem qd_M_rowBy_47 : decode qb_M_rowBy 47 = .ok (.iadd, 1) := by decide +kernel
theorem qd_M_rowBy_48 : decode qb_M_rowBy 48 = .ok (.iaload, 1) := by decide +kernel
theorem qd_M_rowBy_49 : decode qb_M_rowBy 49 = .ok (.istore 6, 2) := by decide +kernel
theorem qd_M_rowBy_51 : decode qb_M_rowBy 51 = .ok (.iload 5, 2) := by decide +kernel
theorem qd_M_rowBy_53 : decode qb_M_rowBy 53 = .ok (.iload 6, 2) := by decide +kernel
theorem qd_M_rowBy_55 : decode qb_M_rowBy 55 = .ok (.if_icmp .lt 32, 3) := by decide +kernel
theorem qd_M_rowBy_58 : decode qb_M_rowBy 58 = .ok (.iload 5, 2) := by decide +kernel
theorem qd_M_rowBy_60 : decode qb_M_rowBy 60 = .ok (.iload 6, 2) := by decide +kernel
theorem qd_M_rowBy_62 : decode qb_M_rowBy 62 = .ok (.if_icmp .ne 31, 3) := by decide +kernel
theorem qd_M_rowBy_65 : decode qb_M_rowBy 65 = .ok (.aload_n 0, 1) := by decide +kernel
theorem qd_M_rowBy_66 : decode qb_M_rowBy 66 = .ok (.getfield 20, 3) := by decide +kernel
theorem qd_M_rowBy_69 : decode qb_M_rowBy 69 = .ok (.bipush 6, 2) := by decide +kernel
theorem qd_M_rowBy_71 : decode qb_M_rowBy 71 = .ok (.iload 4, 2) := by decide +kernel
theorem qd_M_rowBy_73 : decode qb_M_rowBy 73 = .ok (.imul, 1) := by decide +kernel
theorem qd_M_rowBy_74 : decode qb_M_rowBy 74 = .ok (.iaload, 1) := by decide +kernel
theorem qd_M_rowBy_75 : decode qb_M_rowBy 75 = .ok (.aload_n 0, 1) := by decide +kernel
theorem qd_M_rowBy_76 : decode qb_M_rowBy 76 = .ok (.getfield 20, 3) := by decide +kernel
theorem qd_M_rowBy_79 : decode qb_M_rowBy 79 = .ok (.bipush 6, 2) := by decide +kernel
theorem qd_M_rowBy_81 : decode qb_M_rowBy 81 = .ok (.iload_n 2, 1) := by decide +kernel
theorem qd_M_rowBy_82 : decode qb_M_rowBy 82 = .ok (.imul, 1) := by decide +kernel
theorem qd_M_rowBy_83 : decode qb_M_rowBy 83 = .ok (.iaload, 1) := by decide +kernel
theorem qd_M_rowBy_84 : decode qb_M_rowBy 84 = .ok (.if_icmp .ge 9, 3) := by decide +kernel
theorem qd_M_rowBy_87 : decode qb_M_rowBy 87 = .ok (.iload_n 3, 1) := by decide +kernel
theorem qd_M_rowBy_88 : decode qb_M_rowBy 88 = .ok (.iconst 1, 1) := by decide +kernel
theorem qd_M_rowBy_89 : decode qb_M_rowBy 89 = .ok (.iadd, 1) := by decide +kernel
theorem qd_M_rowBy_90 : decode qb_M_rowBy 90 = .ok (.goto (4), 3) := by decide +kernel
theorem qd_M_rowBy_93 : decode qb_M_rowBy 93 = .ok (.iload_n 3, 1) := by decide +kernel
theorem qd_M_rowBy_94 : decode qb_M_rowBy 94 = .ok (.istore_n 3, 1) := by decide +kernel
theorem qd_M_rowBy_95 : decode qb_M_rowBy 95 = .ok (.iinc 4 (1), 3) := by decide +kernel
theorem qd_M_rowBy_98 : decode qb_M_rowBy 98 = .ok (.goto (-83), 3) := by decide +kernel
theorem qd_M_rowBy_101 : decode qb_M_rowBy 101 = .ok (.iload_n 3, 1) := by decide +kernel
theorem qd_M_rowBy_102 : decode qb_M_rowBy 102 = .ok (.iload_n 1, 1) := by decide +kernel
theorem qd_M_rowBy_103 : decode qb_M_rowBy 103 = .ok (.if_icmp .ne 5, 3) := by decide +kernel
theorem qd_M_rowBy_106 : decode qb_M_rowBy 106 = .ok (.iload_n 2, 1) := by decide +kernel
theorem qd_M_rowBy_107 : decode qb_M_rowBy 107 = .ok (.ireturn, 1) := by decide +kernel
theorem qd_M_rowBy_108 : decode qb_M_rowBy 108 = .ok (.iinc 2 (1), 3) := by decide +kernel
theorem qd_M_rowBy_111 : decode qb_M_rowBy 111 = .ok (.goto (-109), 3) := by decide +kernel
theorem qd_M_rowBy_114 : decode qb_M_rowBy 114 = .ok (.bipush (-2), 2) := by decide +kernel
theorem qd_M_rowBy_116 : decode qb_M_rowBy 116 = .ok (.ireturn, 1) := by decide +kernel
theorem qd_M_canJoin_0 : decode qb_M_canJoin 0 = .ok (.iconst 1, 1) := by decide +kernel
theorem qd_M_canJoin_1 : decode qb_M_canJoin 1 = .ok (.istore_n 2, 1) := by decide +kernel
theorem qd_M_canJoin_2 : decode qb_M_canJoin 2 = .ok (.iconst 0, 1) := by decide +kernel
theorem qd_M_canJoin_3 : decode qb_M_canJoin 3 = .ok (.istore_n 3, 1) := by decide +kernel
theorem qd_M_canJoin_4 : decode qb_M_canJoin 4 = .ok (.iload_n 3, 1) := by decide +kernel
theorem qd_M_canJoin_5 : decode qb_M_canJoin 5 = .ok (.aload_n 0, 1) := by decide +kernel
theorem qd_M_canJoin_6 : decode qb_M_canJoin 6 = .ok (.getfield 42, 3) := by decide +kernel
theorem qd_M_canJoin_9 : decode qb_M_canJoin 9 = .ok (.if_icmp .ge 39, 3) := by decide +kernel
theorem qd_M_canJoin_12 : decode qb_M_canJoin 12 = .ok (.iload_n 2, 1) := by decide +kernel
theorem qd_M_canJoin_13 : decode qb_M_canJoin 13 = .ok (.ifCond .eq 27, 3) := by decide +kernel
theorem qd_M_canJoin_16 : decode qb_M_canJoin 16 = .ok (.aload_n 0, 1) := by decide +kernel
theorem qd_M_canJoin_17 : decode qb_M_canJoin 17 = .ok (.getfield 13, 3) := by decide +kernel
theorem qd_M_canJoin_20 : decode qb_M_canJoin 20 = .ok (.iload_n 3, 1) := by decide +kernel
theorem qd_M_canJoin_21 : decode qb_M_canJoin 21 = .ok (.iaload, 1) := by decide +kernel
theorem qd_M_canJoin_22 : decode qb_M_canJoin 22 = .ok (.aload_n 0, 1) := by decide +kernel
theorem qd_M_canJoin_23 : decode qb_M_canJoin 23 = .ok (.getfield 20, 3) := by decide +kernel
theorem qd_M_canJoin_26 : decode qb_M_canJoin 26 = .ok (.bipush 6, 2) := by decide +kernel
theorem qd_M_canJoin_28 : decode qb_M_canJoin 28 = .ok (.iload_n 1, 1) := by decide +kernel
theorem qd_M_canJoin_29 : decode qb_M_canJoin 29 = .ok (.imul, 1) := by decide +kernel
theorem qd_M_canJoin_30 : decode qb_M_canJoin 30 = .ok (.iconst 2, 1) := by decide +kernel
theorem qd_M_canJoin_31 : decode qb_M_canJoin 31 = .ok (.iadd, 1) := by decide +kernel
theorem qd_M_canJoin_32 : decode qb_M_canJoin 32 = .ok (.iaload, 1) := by decide +kernel
theorem qd_M_canJoin_33 : decode qb_M_canJoin 33 = .ok (.if_icmp .lt 7, 3) := by decide +kernel
theorem qd_M_canJoin_36 : decode qb_M_canJoin 36 = .ok (.iconst 1, 1) := by decide +kernel
theorem qd_M_canJoin_37 : decode qb_M_canJoin 37 = .ok (.goto (4), 3) := by decide +kernel
theorem qd_M_canJoin_40 : decode qb_M_canJoin 40 = .ok (.iconst 0, 1) := by decide +kernel
theorem qd_M_canJoin_41 : decode qb_M_canJoin 41 = .ok (.istore_n 2, 1) := by decide +kernel
theorem qd_M_canJoin_42 : decode qb_M_canJoin 42 = .ok (.iinc 3 (1), 3) := by decide +kernel
theorem qd_M_canJoin_45 : decode qb_M_canJoin 45 = .ok (.goto (-41), 3) := by decide +kernel
theorem qd_M_canJoin_48 : decode qb_M_canJoin 48 = .ok (.iload_n 2, 1) := by decide +kernel
theorem qd_M_canJoin_49 : decode qb_M_canJoin 49 = .ok (.ireturn, 1) := by decide +kernel
theorem qd_M_joinAll_0 : decode qb_M_joinAll 0 = .ok (.iconst 0, 1) := by decide +kernel
theorem qd_M_joinAll_1 : decode qb_M_joinAll 1 = .ok (.istore_n 1, 1) := by decide +kernel
theorem qd_M_joinAll_2 : decode qb_M_joinAll 2 = .ok (.iload_n 1, 1) := by decide +kernel
theorem qd_M_joinAll_3 : decode qb_M_joinAll 3 = .ok (.aload_n 0, 1) := by decide +kernel
theorem qd_M_joinAll_4 : decode qb_M_joinAll 4 = .ok (.getfield 98, 3) := by decide +kernel
theorem qd_M_joinAll_7 : decode qb_M_joinAll 7 = .ok (.if_icmp .ge 48, 3) := by decide +kernel
theorem qd_M_joinAll_10 : decode qb_M_joinAll 10 = .ok (.aload_n 0, 1) := by decide +kernel
theorem qd_M_joinAll_11 : decode qb_M_joinAll 11 = .ok (.iload_n 1, 1) := by decide +kernel
theorem qd_M_joinAll_12 : decode qb_M_joinAll 12 = .ok (.invokevirtual 101, 3) := by decide +kernel
theorem qd_M_joinAll_15 : decode qb_M_joinAll 15 = .ok (.istore_n 2, 1) := by decide +kernel
theorem qd_M_joinAll_16 : decode qb_M_joinAll 16 = .ok (.aload_n 0, 1) := by decide +kernel
theorem qd_M_joinAll_17 : decode qb_M_joinAll 17 = .ok (.getfield 20, 3) := by decide +kernel
theorem qd_M_joinAll_20 : decode qb_M_joinAll 20 = .ok (.bipush 6, 2) := by decide +kernel
theorem qd_M_joinAll_22 : decode qb_M_joinAll 22 = .ok (.iload_n 2, 1) := by decide +kernel
theorem qd_M_joinAll_23 : decode qb_M_joinAll 23 = .ok (.imul, 1) := by decide +kernel
theorem qd_M_joinAll_24 : decode qb_M_joinAll 24 = .ok (.iconst 4, 1) := by decide +kernel
theorem qd_M_joinAll_25 : decode qb_M_joinAll 25 = .ok (.iadd, 1) := by decide +kernel
theorem qd_M_joinAll_26 : decode qb_M_joinAll 26 = .ok (.iaload, 1) := by decide +kernel
theorem qd_M_joinAll_27 : decode qb_M_joinAll 27 = .ok (.iconst 1, 1) := by decide +kernel
theorem qd_M_joinAll_28 : decode qb_M_joinAll 28 = .ok (.if_icmp .ne 21, 3) := by decide +kernel
theorem qd_M_joinAll_31 : decode qb_M_joinAll 31 = .ok (.aload_n 0, 1) := by decide +kernel
theorem qd_M_joinAll_32 : decode qb_M_joinAll 32 = .ok (.iload_n 2, 1) := by decide +kernel
theorem qd_M_joinAll_33 : decode qb_M_joinAll 33 = .ok (.invokevirtual 105, 3) := by decide +kernel
theorem qd_M_joinAll_36 : decode qb_M_joinAll 36 = .ok (.ifCond .eq 13, 3) := by decide +kernel
theorem qd_M_joinAll_39 : decode qb_M_joinAll 39 = .ok (.aload_n 0, 1) := by decide +kernel
theorem qd_M_joinAll_40 : decode qb_M_joinAll 40 = .ok (.iload_n 2, 1) := by decide +kernel
theorem qd_M_joinAll_41 : decode qb_M_joinAll 41 = .ok (.invokevirtual 109, 3) := by decide +kernel
theorem qd_M_joinAll_44 : decode qb_M_joinAll 44 = .ok (.aload_n 0, 1) := by decide +kernel
theorem qd_M_joinAll_45 : decode qb_M_joinAll 45 = .ok (.iload_n 2, 1) := by decide +kernel
theorem qd_M_joinAll_46 : decode qb_M_joinAll 46 = .ok (.invokevirtual 113, 3) := by decide +kernel
theorem qd_M_joinAll_49 : decode qb_M_joinAll 49 = .ok (.iinc 1 (1), 3) := by decide +kernel
theorem qd_M_joinAll_52 : decode qb_M_joinAll 52 = .ok (.goto (-50), 3) := by decide +kernel
theorem qd_M_joinAll_55 : decode qb_M_joinAll 55 = .ok (.return_, 1) := by decide +kernel
theorem qd_M_correct_0 : decode qb_M_correct 0 = .ok (.iconst 0, 1) := by decide +kernel
theorem qd_M_correct_1 : decode qb_M_correct 1 = .ok (.istore_n 1, 1) := by decide +kernel
theorem qd_M_correct_2 : decode qb_M_correct 2 = .ok (.iload_n 1, 1) := by decide +kernel
theorem qd_M_correct_3 : decode qb_M_correct 3 = .ok (.aload_n 0, 1) := by decide +kernel
theorem qd_M_correct_4 : decode qb_M_correct 4 = .ok (.getfield 98, 3) := by decide +kernel
theorem qd_M_correct_7 : decode qb_M_correct 7 = .ok (.if_icmp .ge 118, 3) := by decide +kernel
theorem qd_M_correct_10 : decode qb_M_correct 10 = .ok (.aload_n 0, 1) := by decide +kernel
theorem qd_M_correct_11 : decode qb_M_correct 11 = .ok (.iload_n 1, 1) := by decide +kernel
theorem qd_M_correct_12 : decode qb_M_correct 12 = .ok (.invokevirtual 101, 3) := by decide +kernel
theorem qd_M_correct_15 : decode qb_M_correct 15 = .ok (.istore_n 2, 1) := by decide +kernel
theorem qd_M_correct_16 : decode qb_M_correct 16 = .ok (.aload_n 0, 1) := by decide +kernel
theorem qd_M_correct_17 : decode qb_M_correct 17 = .ok (.getfield 20, 3) := by decide +kernel
theorem qd_M_correct_20 : decode qb_M_correct 20 = .ok (.bipush 6, 2) := by decide +kernel
theorem qd_M_correct_22 : decode qb_M_correct 22 = .ok (.iload_n 2, 1) := by decide +kernel
theorem qd_M_correct_23 : decode qb_M_correct 23 = .ok (.imul, 1) := by decide +kernel
theorem qd_M_correct_24 : decode qb_M_correct 24 = .ok (.iconst 4, 1) := by decide +kernel
theorem qd_M_correct_25 : decode qb_M_correct 25 = .ok (.iadd, 1) := by decide +kernel
theorem qd_M_correct_26 : decode qb_M_correct 26 = .ok (.iaload, 1) := by decide +kernel
theorem qd_M_correct_27 : decode qb_M_correct 27 = .ok (.ifCond .ne 92, 3) := by decide +kernel
theorem qd_M_correct_30 : decode qb_M_correct 30 = .ok (.aload_n 0, 1) := by decide +kernel
theorem qd_M_correct_31 : decode qb_M_correct 31 = .ok (.iload_n 2, 1) := by decide +kernel
theorem qd_M_correct_32 : decode qb_M_correct 32 = .ok (.invokevirtual 109, 3) := by decide +kernel
theorem qd_M_correct_35 : decode qb_M_correct 35 = .ok (.iconst 0, 1) := by decide +kernel
theorem qd_M_correct_36 : decode qb_M_correct 36 = .ok (.istore_n 3, 1) := by decide +kernel
theorem qd_M_correct_37 : decode qb_M_correct 37 = .ok (.iconst 0, 1) := by decide +kernel
theorem qd_M_correct_38 : decode qb_M_correct 38 = .ok (.istore 4, 2) := by decide +kernel
theorem qd_M_correct_40 : decode qb_M_correct 40 = .ok (.iload 4, 2) := by decide +kernel
theorem qd_M_correct_42 : decode qb_M_correct 42 = .ok (.bipush 6, 2) := by decide +kernel
theorem qd_M_correct_44 : decode qb_M_correct 44 = .ok (.if_icmp .ge 41, 3) := by decide +kernel
theorem qd_M_correct_47 : decode qb_M_correct 47 = .ok (.iload_n 3, 1) := by decide +kernel
theorem qd_M_correct_48 : decode qb_M_correct 48 = .ok (.ifCond .ne 25, 3) := by decide +kernel
theorem qd_M_correct_51 : decode qb_M_correct 51 = .ok (.aload_n 0, 1) := by decide +kernel
theorem qd_M_correct_52 : decode qb_M_correct 52 = .ok (.getfield 29, 3) := by decide +kernel
theorem qd_M_correct_55 : decode qb_M_correct 55 = .ok (.iload 4, 2) := by decide +kernel
theorem qd_M_correct_57 : decode qb_M_correct 57 = .ok (.iaload, 1) := by decide +kernel
theorem qd_M_correct_58 : decode qb_M_correct 58 = .ok (.aload_n 0, 1) := by decide +kernel
theorem qd_M_correct_59 : decode qb_M_correct 59 = .ok (.getfield 23, 3) := by decide +kernel
theorem qd_M_correct_62 : decode qb_M_correct 62 = .ok (.bipush 6, 2) := by decide +kernel
theorem qd_M_correct_64 : decode qb_M_correct 64 = .ok (.iload_n 2, 1) := by decide +kernel
theorem qd_M_correct_65 : decode qb_M_correct 65 = .ok (.imul, 1) := by decide +kernel
theorem qd_M_correct_66 : decode qb_M_correct 66 = .ok (.iload 4, 2) := by decide +kernel
theorem qd_M_correct_68 : decode qb_M_correct 68 = .ok (.iadd, 1) := by decide +kernel
theorem qd_M_correct_69 : decode qb_M_correct 69 = .ok (.iaload, 1) := by decide +kernel
theorem qd_M_correct_70 : decode qb_M_correct 70 = .ok (.if_icmp .eq 7, 3) := by decide +kernel
theorem qd_M_correct_73 : decode qb_M_correct 73 = .ok (.iconst 1, 1) := by decide +kernel
theorem qd_M_correct_74 : decode qb_M_correct 74 = .ok (.goto (4), 3) := by decide +kernel
theorem qd_M_correct_77 : decode qb_M_correct 77 = .ok (.iconst 0, 1) := by decide +kernel
theorem qd_M_correct_78 : decode qb_M_correct 78 = .ok (.istore_n 3, 1) := by decide +kernel
theorem qd_M_correct_79 : decode qb_M_correct 79 = .ok (.iinc 4 (1), 3) := by decide +kernel
theorem qd_M_correct_82 : decode qb_M_correct 82 = .ok (.goto (-42), 3) := by decide +kernel
theorem qd_M_correct_85 : decode qb_M_correct 85 = .ok (.iload_n 3, 1) := by decide +kernel
theorem qd_M_correct_86 : decode qb_M_correct 86 = .ok (.ifCond .eq 24, 3) := by decide +kernel
theorem qd_M_correct_89 : decode qb_M_correct 89 = .ok (.aload_n 0, 1) := by decide +kernel
theorem qd_M_correct_90 : decode qb_M_correct 90 = .ok (.getfield 20, 3) := by decide +kernel
theorem qd_M_correct_93 : decode qb_M_correct 93 = .ok (.bipush 6, 2) := by decide +kernel
theorem qd_M_correct_95 : decode qb_M_correct 95 = .ok (.iload_n 2, 1) := by decide +kernel
theorem qd_M_correct_96 : decode qb_M_correct 96 = .ok (.imul, 1) := by decide +kernel
theorem qd_M_correct_97 : decode qb_M_correct 97 = .ok (.iconst 5, 1) := by decide +kernel
theorem qd_M_correct_98 : decode qb_M_correct 98 = .ok (.iadd, 1) := by decide +kernel
theorem qd_M_correct_99 : decode qb_M_correct 99 = .ok (.iaload, 1) := by decide +kernel
theorem qd_M_correct_100 : decode qb_M_correct 100 = .ok (.iconst 1, 1) := by decide +kernel
theorem qd_M_correct_101 : decode qb_M_correct 101 = .ok (.if_icmp .ne 9, 3) := by decide +kernel
theorem qd_M_correct_104 : decode qb_M_correct 104 = .ok (.aload_n 0, 1) := by decide +kernel
theorem qd_M_correct_105 : decode qb_M_correct 105 = .ok (.iload_n 2, 1) := by decide +kernel
theorem qd_M_correct_106 : decode qb_M_correct 106 = .ok (.iconst 0, 1) := by decide +kernel
theorem qd_M_correct_107 : decode qb_M_correct 107 = .ok (.invokevirtual 94, 3) := by decide +kernel
theorem qd_M_correct_110 : decode qb_M_correct 110 = .ok (.iload_n 3, 1) := by decide +kernel
theorem qd_M_correct_111 : decode qb_M_correct 111 = .ok (.ifCond .eq 8, 3) := by decide +kernel
theorem qd_M_correct_114 : decode qb_M_correct 114 = .ok (.aload_n 0, 1) := by decide +kernel
theorem qd_M_correct_115 : decode qb_M_correct 115 = .ok (.iload_n 2, 1) := by decide +kernel
theorem qd_M_correct_116 : decode qb_M_correct 116 = .ok (.invokevirtual 113, 3) := by decide +kernel
theorem qd_M_correct_119 : decode qb_M_correct 119 = .ok (.iinc 1 (1), 3) := by decide +kernel
theorem qd_M_correct_122 : decode qb_M_correct 122 = .ok (.goto (-120), 3) := by decide +kernel
theorem qd_M_correct_125 : decode qb_M_correct 125 = .ok (.return_, 1) := by decide +kernel
theorem qd_M_change_0 : decode qb_M_change 0 = .ok (.aload_n 0, 1) := by decide +kernel
theorem qd_M_change_1 : decode qb_M_change 1 = .ok (.iconst 0, 1) := by decide +kernel
theorem qd_M_change_2 : decode qb_M_change 2 = .ok (.putfield 1, 3) := by decide +kernel
theorem qd_M_change_5 : decode qb_M_change 5 = .ok (.iload_n 1, 1) := by decide +kernel
theorem qd_M_change_6 : decode qb_M_change 6 = .ok (.i2l, 1) := by decide +kernel
theorem qd_M_change_7 : decode qb_M_change 7 = .ok (.lconst 0, 1) := by decide +kernel
theorem qd_M_change_8 : decode qb_M_change 8 = .ok (.aload_n 0, 1) := by decide +kernel
theorem qd_M_change_9 : decode qb_M_change 9 = .ok (.getfield 42, 3) := by decide +kernel
theorem qd_M_change_12 : decode qb_M_change 12 = .ok (.iconst 1, 1) := by decide +kernel
theorem qd_M_change_13 : decode qb_M_change 13 = .ok (.isub, 1) := by decide +kernel
theorem qd_M_change_14 : decode qb_M_change 14 = .ok (.i2l, 1) := by decide +kernel
theorem qd_M_change_15 : decode qb_M_change 15 = .ok (.invokestatic 51, 3) := by decide +kernel
theorem qd_M_change_18 : decode qb_M_change 18 = .ok (.ifCond .eq 42, 3) := by decide +kernel
theorem qd_M_change_21 : decode qb_M_change 21 = .ok (.iload_n 2, 1) := by decide +kernel
theorem qd_M_change_22 : decode qb_M_change 22 = .ok (.i2l, 1) := by decide +kernel
theorem qd_M_change_23 : decode qb_M_change 23 = .ok (.lconst 0, 1) := by decide +kernel
theorem qd_M_change_24 : decode qb_M_change 24 = .ok (.ldc2_w 116, 3) := by decide +kernel
theorem qd_M_change_27 : decode qb_M_change 27 = .ok (.invokestatic 51, 3) := by decide +kernel
theorem qd_M_change_30 : decode qb_M_change 30 = .ok (.ifCond .eq 30, 3) := by decide +kernel
theorem qd_M_change_33 : decode qb_M_change 33 = .ok (.iload_n 3, 1) := by decide +kernel
theorem qd_M_change_34 : decode qb_M_change 34 = .ok (.i2l, 1) := by decide +kernel
theorem qd_M_change_35 : decode qb_M_change 35 = .ok (.lconst 1, 1) := by decide +kernel
theorem qd_M_change_36 : decode qb_M_change 36 = .ok (.ldc2_w 118, 3) := by decide +kernel
theorem qd_M_change_39 : decode qb_M_change 39 = .ok (.invokestatic 51, 3) := by decide +kernel
theorem qd_M_change_42 : decode qb_M_change 42 = .ok (.ifCond .eq 18, 3) := by decide +kernel
theorem qd_M_change_45 : decode qb_M_change 45 = .ok (.iload 4, 2) := by decide +kernel
theorem qd_M_change_47 : decode qb_M_change 47 = .ok (.i2l, 1) := by decide +kernel
theorem qd_M_change_48 : decode qb_M_change 48 = .ok (.ldc2_w 120, 3) := by decide +kernel
theorem qd_M_change_51 : decode qb_M_change 51 = .ok (.ldc2_w 55, 3) := by decide +kernel
theorem qd_M_change_54 : decode qb_M_change 54 = .ok (.invokestatic 51, 3) := by decide +kernel
theorem qd_M_change_57 : decode qb_M_change 57 = .ok (.ifCond .ne 5, 3) := by decide +kernel
theorem qd_M_change_60 : decode qb_M_change 60 = .ok (.iconst (-1), 1) := by decide +kernel
theorem qd_M_change_61 : decode qb_M_change 61 = .ok (.ireturn, 1) := by decide +kernel
theorem qd_M_change_62 : decode qb_M_change 62 = .ok (.iload_n 3, 1) := by decide +kernel
theorem qd_M_change_63 : decode qb_M_change 63 = .ok (.aload_n 0, 1) := by decide +kernel
theorem qd_M_change_64 : decode qb_M_change 64 = .ok (.getfield 13, 3) := by decide +kernel
theorem qd_M_change_67 : decode qb_M_change 67 = .ok (.iload_n 1, 1) := by decide +kernel
theorem qd_M_change_68 : decode qb_M_change 68 = .ok (.iaload, 1) := by decide +kernel
theorem qd_M_change_69 : decode qb_M_change 69 = .ok (.if_icmp .gt 31, 3) := by decide +kernel
theorem qd_M_change_72 : decode qb_M_change 72 = .ok (.aload_n 0, 1) := by decide +kernel
theorem qd_M_change_73 : decode qb_M_change 73 = .ok (.getfield 60, 3) := by decide +kernel
theorem qd_M_change_76 : decode qb_M_change 76 = .ok (.ifCond .eq 11, 3) := by decide +kernel
theorem qd_M_change_79 : decode qb_M_change 79 = .ok (.iload_n 3, 1) := by decide +kernel
theorem qd_M_change_80 : decode qb_M_change 80 = .ok (.aload_n 0, 1) := by decide +kernel
theorem qd_M_change_81 : decode qb_M_change 81 = .ok (.invokevirtual 122, 3) := by decide +kernel
theorem qd_M_change_84 : decode qb_M_change 84 = .ok (.if_icmp .gt 16, 3) := by decide +kernel
theorem qd_M_change_87 : decode qb_M_change 87 = .ok (.aload_n 0, 1) := by decide +kernel
theorem qd_M_change_88 : decode qb_M_change 88 = .ok (.dup, 1) := by decide +kernel
theorem qd_M_change_89 : decode qb_M_change 89 = .ok (.getfield 126, 3) := by decide +kernel
theorem qd_M_change_92 : decode qb_M_change 92 = .ok (.iconst 1, 1) := by decide +kernel
theorem qd_M_change_93 : decode qb_M_change 93 = .ok (.iadd, 1) := by decide +kernel
theorem qd_M_change_94 : decode qb_M_change 94 = .ok (.putfield 126, 3) := by decide +kernel
theorem qd_M_change_97 : decode qb_M_change 97 = .ok (.bipush (-4), 2) := by decide +kernel
theorem qd_M_change_99 : decode qb_M_change 99 = .ok (.ireturn, 1) := by decide +kernel
theorem qd_M_change_100 : decode qb_M_change 100 = .ok (.aload_n 0, 1) := by decide +kernel
theorem qd_M_change_101 : decode qb_M_change 101 = .ok (.iload_n 1, 1) := by decide +kernel
theorem qd_M_change_102 : decode qb_M_change 102 = .ok (.iload_n 2, 1) := by decide +kernel
theorem qd_M_change_103 : decode qb_M_change 103 = .ok (.iload_n 3, 1) := by decide +kernel
theorem qd_M_change_104 : decode qb_M_change 104 = .ok (.invokevirtual 129, 3) := by decide +kernel
theorem qd_M_change_107 : decode qb_M_change 107 = .ok (.istore 5, 2) := by decide +kernel
theorem qd_M_change_109 : decode qb_M_change 109 = .ok (.iload 5, 2) := by decide +kernel
theorem qd_M_change_111 : decode qb_M_change 111 = .ok (.bipush (-2), 2) := by decide +kernel
theorem qd_M_change_113 : decode qb_M_change 113 = .ok (.if_icmp .ne 16, 3) := by decide +kernel
theorem qd_M_change_116 : decode qb_M_change 116 = .ok (.aload_n 0, 1) := by decide +kernel
theorem qd_M_change_117 : decode qb_M_change 117 = .ok (.getfield 66, 3) := by decide +kernel
theorem qd_M_change_120 : decode qb_M_change 120 = .ok (.sipush 160, 3) := by decide +kernel
theorem qd_M_change_123 : decode qb_M_change 123 = .ok (.if_icmp .ne 6, 3) := by decide +kernel
theorem qd_M_change_126 : decode qb_M_change 126 = .ok (.bipush (-3), 2) := by decide +kernel
theorem qd_M_change_128 : decode qb_M_change 128 = .ok (.ireturn, 1) := by decide +kernel
theorem qd_M_change_129 : decode qb_M_change 129 = .ok (.aload_n 0, 1) := by decide +kernel
theorem qd_M_change_130 : decode qb_M_change 130 = .ok (.iconst 1, 1) := by decide +kernel
theorem qd_M_change_131 : decode qb_M_change 131 = .ok (.putfield 45, 3) := by decide +kernel
theorem qd_M_change_134 : decode qb_M_change 134 = .ok (.aload_n 0, 1) := by decide +kernel
theorem qd_M_change_135 : decode qb_M_change 135 = .ok (.iconst 0, 1) := by decide +kernel
theorem qd_M_change_136 : decode qb_M_change 136 = .ok (.putfield 81, 3) := by decide +kernel
theorem qd_M_change_139 : decode qb_M_change 139 = .ok (.iload 5, 2) := by decide +kernel
theorem qd_M_change_141 : decode qb_M_change 141 = .ok (.bipush (-2), 2) := by decide +kernel
theorem qd_M_change_143 : decode qb_M_change 143 = .ok (.if_icmp .ne 19, 3) := by decide +kernel
theorem qd_M_change_146 : decode qb_M_change 146 = .ok (.aload_n 0, 1) := by decide +kernel
theorem qd_M_change_147 : decode qb_M_change 147 = .ok (.getfield 66, 3) := by decide +kernel
theorem qd_M_change_150 : decode qb_M_change 150 = .ok (.istore 5, 2) := by decide +kernel
theorem qd_M_change_152 : decode qb_M_change 152 = .ok (.aload_n 0, 1) := by decide +kernel
theorem qd_M_change_153 : decode qb_M_change 153 = .ok (.dup, 1) := by decide +kernel
theorem qd_M_change_154 : decode qb_M_change 154 = .ok (.getfield 66, 3) := by decide +kernel
theorem qd_M_change_157 : decode qb_M_change 157 = .ok (.iconst 1, 1) := by decide +kernel
theorem qd_M_change_158 : decode qb_M_change 158 = .ok (.iadd, 1) := by decide +kernel
theorem qd_M_change_159 : decode qb_M_change 159 = .ok (.putfield 66, 3) := by decide +kernel
theorem qd_M_change_162 : decode qb_M_change 162 = .ok (.aload_n 0, 1) := by decide +kernel
theorem qd_M_change_163 : decode qb_M_change 163 = .ok (.getfield 17, 3) := by decide +kernel
theorem qd_M_change_166 : decode qb_M_change 166 = .ok (.iconst 4, 1) := by decide +kernel
theorem qd_M_change_167 : decode qb_M_change 167 = .ok (.iload 5, 2) := by decide +kernel
theorem qd_M_change_169 : decode qb_M_change 169 = .ok (.imul, 1) := by decide +kernel
theorem qd_M_change_170 : decode qb_M_change 170 = .ok (.iload_n 1, 1) := by decide +kernel
theorem qd_M_change_171 : decode qb_M_change 171 = .ok (.iastore, 1) := by decide +kernel
theorem qd_M_change_172 : decode qb_M_change 172 = .ok (.aload_n 0, 1) := by decide +kernel
theorem qd_M_change_173 : decode qb_M_change 173 = .ok (.getfield 17, 3) := by decide +kernel
theorem qd_M_change_176 : decode qb_M_change 176 = .ok (.iconst 4, 1) := by decide +kernel
theorem qd_M_change_177 : decode qb_M_change 177 = .ok (.iload 5, 2) := by decide +kernel
theorem qd_M_change_179 : decode qb_M_change 179 = .ok (.imul, 1) := by decide +kernel
theorem qd_M_change_180 : decode qb_M_change 180 = .ok (.iconst 1, 1) := by decide +kernel
theorem qd_M_change_181 : decode qb_M_change 181 = .ok (.iadd, 1) := by decide +kernel
theorem qd_M_change_182 : decode qb_M_change 182 = .ok (.iload_n 2, 1) := by decide +kernel
theorem qd_M_change_183 : decode qb_M_change 183 = .ok (.iastore, 1) := by decide +kernel
theorem qd_M_change_184 : decode qb_M_change 184 = .ok (.aload_n 0, 1) := by decide +kernel
theorem qd_M_change_185 : decode qb_M_change 185 = .ok (.getfield 17, 3) := by decide +kernel
theorem qd_M_change_188 : decode qb_M_change 188 = .ok (.iconst 4, 1) := by decide +kernel
theorem qd_M_change_189 : decode qb_M_change 189 = .ok (.iload 5, 2) := by decide +kernel
theorem qd_M_change_191 : decode qb_M_change 191 = .ok (.imul, 1) := by decide +kernel
theorem qd_M_change_192 : decode qb_M_change 192 = .ok (.iconst 2, 1) := by decide +kernel
theorem qd_M_change_193 : decode qb_M_change 193 = .ok (.iadd, 1) := by decide +kernel
theorem qd_M_change_194 : decode qb_M_change 194 = .ok (.iload_n 3, 1) := by decide +kernel
theorem qd_M_change_195 : decode qb_M_change 195 = .ok (.iastore, 1) := by decide +kernel
theorem qd_M_change_196 : decode qb_M_change 196 = .ok (.aload_n 0, 1) := by decide +kernel
theorem qd_M_change_197 : decode qb_M_change 197 = .ok (.getfield 17, 3) := by decide +kernel
theorem qd_M_change_200 : decode qb_M_change 200 = .ok (.iconst 4, 1) := by decide +kernel
theorem qd_M_change_201 : decode qb_M_change 201 = .ok (.iload 5, 2) := by decide +kernel
theorem qd_M_change_203 : decode qb_M_change 203 = .ok (.imul, 1) := by decide +kernel
theorem qd_M_change_204 : decode qb_M_change 204 = .ok (.iconst 3, 1) := by decide +kernel
theorem qd_M_change_205 : decode qb_M_change 205 = .ok (.iadd, 1) := by decide +kernel
theorem qd_M_change_206 : decode qb_M_change 206 = .ok (.iload 4, 2) := by decide +kernel
theorem qd_M_change_208 : decode qb_M_change 208 = .ok (.iastore, 1) := by decide +kernel
theorem qd_M_change_209 : decode qb_M_change 209 = .ok (.aload_n 0, 1) := by decide +kernel
theorem qd_M_change_210 : decode qb_M_change 210 = .ok (.invokevirtual 132, 3) := by decide +kernel
theorem qd_M_change_213 : decode qb_M_change 213 = .ok (.aload_n 0, 1) := by decide +kernel
theorem qd_M_change_214 : decode qb_M_change 214 = .ok (.iload_n 1, 1) := by decide +kernel
theorem qd_M_change_215 : decode qb_M_change 215 = .ok (.iload_n 2, 1) := by decide +kernel
theorem qd_M_change_216 : decode qb_M_change 216 = .ok (.invokevirtual 135, 3) := by decide +kernel
theorem qd_M_change_219 : decode qb_M_change 219 = .ok (.ireturn, 1) := by decide +kernel
theorem qd_M_row_0 : decode qb_M_row 0 = .ok (.aload_n 0, 1) := by decide +kernel
theorem qd_M_row_1 : decode qb_M_row 1 = .ok (.iconst 0, 1) := by decide +kernel
theorem qd_M_row_2 : decode qb_M_row 2 = .ok (.putfield 1, 3) := by decide +kernel
theorem qd_M_row_5 : decode qb_M_row 5 = .ok (.iload_n 1, 1) := by decide +kernel
theorem qd_M_row_6 : decode qb_M_row 6 = .ok (.i2l, 1) := by decide +kernel
theorem qd_M_row_7 : decode qb_M_row 7 = .ok (.lconst 0, 1) := by decide +kernel
theorem qd_M_row_8 : decode qb_M_row 8 = .ok (.ldc2_w 116, 3) := by decide +kernel
theorem qd_M_row_11 : decode qb_M_row 11 = .ok (.invokestatic 51, 3) := by decide +kernel
theorem qd_M_row_14 : decode qb_M_row 14 = .ok (.ifCond .eq 34, 3) := by decide +kernel
theorem qd_M_row_17 : decode qb_M_row 17 = .ok (.iload_n 2, 1) := by decide +kernel
theorem qd_M_row_18 : decode qb_M_row 18 = .ok (.i2l, 1) := by decide +kernel
theorem qd_M_row_19 : decode qb_M_row 19 = .ok (.lconst 1, 1) := by decide +kernel
theorem qd_M_row_20 : decode qb_M_row 20 = .ok (.ldc2_w 118, 3) := by decide +kernel
theorem qd_M_row_23 : decode qb_M_row 23 = .ok (.invokestatic 51, 3) := by decide +kernel
theorem qd_M_row_26 : decode qb_M_row 26 = .ok (.ifCond .eq 22, 3) := by decide +kernel
theorem qd_M_row_29 : decode qb_M_row 29 = .ok (.iload_n 3, 1) := by decide +kernel
theorem qd_M_row_30 : decode qb_M_row 30 = .ok (.i2l, 1) := by decide +kernel
theorem qd_M_row_31 : decode qb_M_row 31 = .ok (.lconst 0, 1) := by decide +kernel
theorem qd_M_row_32 : decode qb_M_row 32 = .ok (.ldc2_w 55, 3) := by decide +kernel
theorem qd_M_row_35 : decode qb_M_row 35 = .ok (.invokestatic 51, 3) := by decide +kernel
theorem qd_M_row_38 : decode qb_M_row 38 = .ok (.ifCond .eq 10, 3) := by decide +kernel
theorem qd_M_row_41 : decode qb_M_row 41 = .ok (.aload_n 0, 1) := by decide +kernel
theorem qd_M_row_42 : decode qb_M_row 42 = .ok (.getfield 42, 3) := by decide +kernel
theorem qd_M_row_45 : decode qb_M_row 45 = .ok (.ifCond .ne 5, 3) := by decide +kernel
theorem qd_M_row_48 : decode qb_M_row 48 = .ok (.iconst (-1), 1) := by decide +kernel
theorem qd_M_row_49 : decode qb_M_row 49 = .ok (.ireturn, 1) := by decide +kernel
theorem qd_M_row_50 : decode qb_M_row 50 = .ok (.iload_n 2, 1) := by decide +kernel
theorem qd_M_row_51 : decode qb_M_row 51 = .ok (.aload_n 0, 1) := by decide +kernel
theorem qd_M_row_52 : decode qb_M_row 52 = .ok (.getfield 36, 3) := by decide +kernel
theorem qd_M_row_55 : decode qb_M_row 55 = .ok (.if_icmp .gt 16, 3) := by decide +kernel
theorem qd_M_row_58 : decode qb_M_row 58 = .ok (.aload_n 0, 1) := by decide +kernel
theorem qd_M_row_59 : decode qb_M_row 59 = .ok (.dup, 1) := by decide +kernel
theorem qd_M_row_60 : decode qb_M_row 60 = .ok (.getfield 126, 3) := by decide +kernel
theorem qd_M_row_63 : decode qb_M_row 63 = .ok (.iconst 1, 1) := by decide +kernel
theorem qd_M_row_64 : decode qb_M_row 64 = .ok (.iadd, 1) := by decide +kernel
theorem qd_M_row_65 : decode qb_M_row 65 = .ok (.putfield 126, 3) := by decide +kernel
theorem qd_M_row_68 : decode qb_M_row 68 = .ok (.bipush (-4), 2) := by decide +kernel
theorem qd_M_row_70 : decode qb_M_row 70 = .ok (.ireturn, 1) := by decide +kernel
theorem qd_M_row_71 : decode qb_M_row 71 = .ok (.aload_n 0, 1) := by decide +kernel
theorem qd_M_row_72 : decode qb_M_row 72 = .ok (.getfield 98, 3) := by decide +kernel
theorem qd_M_row_75 : decode qb_M_row 75 = .ok (.bipush 96, 2) := by decide +kernel
theorem qd_M_row_77 : decode qb_M_row 77 = .ok (.if_icmp .eq 13, 3) := by decide +kernel
theorem qd_M_row_80 : decode qb_M_row 80 = .ok (.aload_n 0, 1) := by decide +kernel
theorem qd_M_row_81 : decode qb_M_row 81 = .ok (.getfield 139, 3) := by decide +kernel
theorem qd_M_row_84 : decode qb_M_row 84 = .ok (.sipush 30000, 3) := by decide +kernel
theorem qd_M_row_87 : decode qb_M_row 87 = .ok (.if_icmp .ne 6, 3) := by decide +kernel
theorem qd_M_row_90 : decode qb_M_row 90 = .ok (.bipush (-3), 2) := by decide +kernel
theorem qd_M_row_92 : decode qb_M_row 92 = .ok (.ireturn, 1) := by decide +kernel
theorem qd_M_row_93 : decode qb_M_row 93 = .ok (.aload_n 0, 1) := by decide +kernel
theorem qd_M_row_94 : decode qb_M_row 94 = .ok (.iconst 1, 1) := by decide +kernel
theorem qd_M_row_95 : decode qb_M_row 95 = .ok (.putfield 45, 3) := by decide +kernel
theorem qd_M_row_98 : decode qb_M_row 98 = .ok (.aload_n 0, 1) := by decide +kernel
theorem qd_M_row_99 : decode qb_M_row 99 = .ok (.iconst 0, 1) := by decide +kernel
theorem qd_M_row_100 : decode qb_M_row 100 = .ok (.putfield 81, 3) := by decide +kernel
theorem qd_M_row_103 : decode qb_M_row 103 = .ok (.aload_n 0, 1) := by decide +kernel
theorem qd_M_row_104 : decode qb_M_row 104 = .ok (.getfield 98, 3) := by decide +kernel
theorem qd_M_row_107 : decode qb_M_row 107 = .ok (.istore 4, 2) := by decide +kernel
theorem qd_M_row_109 : decode qb_M_row 109 = .ok (.aload_n 0, 1) := by decide +kernel
theorem qd_M_row_110 : decode qb_M_row 110 = .ok (.getfield 20, 3) := by decide +kernel
theorem qd_M_row_113 : decode qb_M_row 113 = .ok (.bipush 6, 2) := by decide +kernel
theorem qd_M_row_115 : decode qb_M_row 115 = .ok (.iload 4, 2) := by decide +kernel
theorem qd_M_row_117 : decode qb_M_row 117 = .ok (.imul, 1) := by decide +kernel
theorem qd_M_row_118 : decode qb_M_row 118 = .ok (.aload_n 0, 1) := by decide +kernel
theorem qd_M_row_119 : decode qb_M_row 119 = .ok (.getfield 139, 3) := by decide +kernel
theorem qd_M_row_122 : decode qb_M_row 122 = .ok (.iastore, 1) := by decide +kernel
theorem qd_M_row_123 : decode qb_M_row 123 = .ok (.aload_n 0, 1) := by decide +kernel
theorem qd_M_row_124 : decode qb_M_row 124 = .ok (.getfield 20, 3) := by decide +kernel
theorem qd_M_row_127 : decode qb_M_row 127 = .ok (.bipush 6, 2) := by decide +kernel
theorem qd_M_row_129 : decode qb_M_row 129 = .ok (.iload 4, 2) := by decide +kernel
theorem qd_M_row_131 : decode qb_M_row 131 = .ok (.imul, 1) := by decide +kernel
theorem qd_M_row_132 : decode qb_M_row 132 = .ok (.iconst 1, 1) := by decide +kernel
theorem qd_M_row_133 : decode qb_M_row 133 = .ok (.iadd, 1) := by decide +kernel
theorem qd_M_row_134 : decode qb_M_row 134 = .ok (.iload_n 1, 1) := by decide +kernel
theorem qd_M_row_135 : decode qb_M_row 135 = .ok (.iastore, 1) := by decide +kernel
theorem qd_M_row_136 : decode qb_M_row 136 = .ok (.aload_n 0, 1) := by decide +kernel
theorem qd_M_row_137 : decode qb_M_row 137 = .ok (.getfield 20, 3) := by decide +kernel
theorem qd_M_row_140 : decode qb_M_row 140 = .ok (.bipush 6, 2) := by decide +kernel
theorem qd_M_row_142 : decode qb_M_row 142 = .ok (.iload 4, 2) := by decide +kernel
theorem qd_M_row_144 : decode qb_M_row 144 = .ok (.imul, 1) := by decide +kernel
theorem qd_M_row_145 : decode qb_M_row 145 = .ok (.iconst 2, 1) := by decide +kernel
theorem qd_M_row_146 : decode qb_M_row 146 = .ok (.iadd, 1) := by decide +kernel
theorem qd_M_row_147 : decode qb_M_row 147 = .ok (.iload_n 2, 1) := by decide +kernel
theorem qd_M_row_148 : decode qb_M_row 148 = .ok (.iastore, 1) := by decide +kernel
theorem qd_M_row_149 : decode qb_M_row 149 = .ok (.aload_n 0, 1) := by decide +kernel
theorem qd_M_row_150 : decode qb_M_row 150 = .ok (.getfield 20, 3) := by decide +kernel
theorem qd_M_row_153 : decode qb_M_row 153 = .ok (.bipush 6, 2) := by decide +kernel
theorem qd_M_row_155 : decode qb_M_row 155 = .ok (.iload 4, 2) := by decide +kernel
theorem qd_M_row_157 : decode qb_M_row 157 = .ok (.imul, 1) := by decide +kernel
theorem qd_M_row_158 : decode qb_M_row 158 = .ok (.iconst 3, 1) := by decide +kernel
theorem qd_M_row_159 : decode qb_M_row 159 = .ok (.iadd, 1) := by decide +kernel
theorem qd_M_row_160 : decode qb_M_row 160 = .ok (.iload_n 3, 1) := by decide +kernel
theorem qd_M_row_161 : decode qb_M_row 161 = .ok (.iastore, 1) := by decide +kernel
theorem qd_M_row_162 : decode qb_M_row 162 = .ok (.aload_n 0, 1) := by decide +kernel
theorem qd_M_row_163 : decode qb_M_row 163 = .ok (.getfield 20, 3) := by decide +kernel
theorem qd_M_row_166 : decode qb_M_row 166 = .ok (.bipush 6, 2) := by decide +kernel
theorem qd_M_row_168 : decode qb_M_row 168 = .ok (.iload 4, 2) := by decide +kernel
theorem qd_M_row_170 : decode qb_M_row 170 = .ok (.imul, 1) := by decide +kernel
theorem qd_M_row_171 : decode qb_M_row 171 = .ok (.iconst 4, 1) := by decide +kernel
theorem qd_M_row_172 : decode qb_M_row 172 = .ok (.iadd, 1) := by decide +kernel
theorem qd_M_row_173 : decode qb_M_row 173 = .ok (.iconst 1, 1) := by decide +kernel
theorem qd_M_row_174 : decode qb_M_row 174 = .ok (.iastore, 1) := by decide +kernel
theorem qd_M_row_175 : decode qb_M_row 175 = .ok (.aload_n 0, 1) := by decide +kernel
theorem qd_M_row_176 : decode qb_M_row 176 = .ok (.getfield 20, 3) := by decide +kernel
theorem qd_M_row_179 : decode qb_M_row 179 = .ok (.bipush 6, 2) := by decide +kernel
theorem qd_M_row_181 : decode qb_M_row 181 = .ok (.iload 4, 2) := by decide +kernel
theorem qd_M_row_183 : decode qb_M_row 183 = .ok (.imul, 1) := by decide +kernel
theorem qd_M_row_184 : decode qb_M_row 184 = .ok (.iconst 5, 1) := by decide +kernel
theorem qd_M_row_185 : decode qb_M_row 185 = .ok (.iadd, 1) := by decide +kernel
theorem qd_M_row_186 : decode qb_M_row 186 = .ok (.iconst 0, 1) := by decide +kernel
theorem qd_M_row_187 : decode qb_M_row 187 = .ok (.iastore, 1) := by decide +kernel
theorem qd_M_row_188 : decode qb_M_row 188 = .ok (.aload_n 0, 1) := by decide +kernel
theorem qd_M_row_189 : decode qb_M_row 189 = .ok (.dup, 1) := by decide +kernel
theorem qd_M_row_190 : decode qb_M_row 190 = .ok (.getfield 98, 3) := by decide +kernel
theorem qd_M_row_193 : decode qb_M_row 193 = .ok (.iconst 1, 1) := by decide +kernel
theorem qd_M_row_194 : decode qb_M_row 194 = .ok (.iadd, 1) := by decide +kernel
theorem qd_M_row_195 : decode qb_M_row 195 = .ok (.putfield 98, 3) := by decide +kernel
theorem qd_M_row_198 : decode qb_M_row 198 = .ok (.aload_n 0, 1) := by decide +kernel
theorem qd_M_row_199 : decode qb_M_row 199 = .ok (.dup, 1) := by decide +kernel
theorem qd_M_row_200 : decode qb_M_row 200 = .ok (.getfield 139, 3) := by decide +kernel
theorem qd_M_row_203 : decode qb_M_row 203 = .ok (.iconst 1, 1) := by decide +kernel
theorem qd_M_row_204 : decode qb_M_row 204 = .ok (.iadd, 1) := by decide +kernel
theorem qd_M_row_205 : decode qb_M_row 205 = .ok (.putfield 139, 3) := by decide +kernel
theorem qd_M_row_208 : decode qb_M_row 208 = .ok (.aload_n 0, 1) := by decide +kernel
theorem qd_M_row_209 : decode qb_M_row 209 = .ok (.invokevirtual 142, 3) := by decide +kernel
theorem qd_M_row_212 : decode qb_M_row 212 = .ok (.aload_n 0, 1) := by decide +kernel
theorem qd_M_row_213 : decode qb_M_row 213 = .ok (.getfield 139, 3) := by decide +kernel
theorem qd_M_row_216 : decode qb_M_row 216 = .ok (.iconst 1, 1) := by decide +kernel
theorem qd_M_row_217 : decode qb_M_row 217 = .ok (.isub, 1) := by decide +kernel
theorem qd_M_row_218 : decode qb_M_row 218 = .ok (.ireturn, 1) := by decide +kernel
theorem qd_M_mark_0 : decode qb_M_mark 0 = .ok (.aload_n 0, 1) := by decide +kernel
theorem qd_M_mark_1 : decode qb_M_mark 1 = .ok (.iconst 0, 1) := by decide +kernel
theorem qd_M_mark_2 : decode qb_M_mark 2 = .ok (.putfield 1, 3) := by decide +kernel
theorem qd_M_mark_5 : decode qb_M_mark 5 = .ok (.iload_n 1, 1) := by decide +kernel
theorem qd_M_mark_6 : decode qb_M_mark 6 = .ok (.i2l, 1) := by decide +kernel
theorem qd_M_mark_7 : decode qb_M_mark 7 = .ok (.ldc2_w 120, 3) := by decide +kernel
theorem qd_M_mark_10 : decode qb_M_mark 10 = .ok (.aload_n 0, 1) := by decide +kernel
theorem qd_M_mark_11 : decode qb_M_mark 11 = .ok (.getfield 42, 3) := by decide +kernel
theorem qd_M_mark_14 : decode qb_M_mark 14 = .ok (.iconst 1, 1) := by decide +kernel
theorem qd_M_mark_15 : decode qb_M_mark 15 = .ok (.isub, 1) := by decide +kernel
theorem qd_M_mark_16 : decode qb_M_mark 16 = .ok (.i2l, 1) := by decide +kernel
theorem qd_M_mark_17 : decode qb_M_mark 17 = .ok (.invokestatic 51, 3) := by decide +kernel
theorem qd_M_mark_20 : decode qb_M_mark 20 = .ok (.ifCond .eq 15, 3) := by decide +kernel
theorem qd_M_mark_23 : decode qb_M_mark 23 = .ok (.iload_n 2, 1) := by decide +kernel
theorem qd_M_mark_24 : decode qb_M_mark 24 = .ok (.i2l, 1) := by decide +kernel
theorem qd_M_mark_25 : decode qb_M_mark 25 = .ok (.lconst 0, 1) := by decide +kernel
theorem qd_M_mark_26 : decode qb_M_mark 26 = .ok (.ldc2_w 118, 3) := by decide +kernel
theorem qd_M_mark_29 : decode qb_M_mark 29 = .ok (.invokestatic 51, 3) := by decide +kernel
theorem qd_M_mark_32 : decode qb_M_mark 32 = .ok (.ifCond .ne 5, 3) := by decide +kernel
theorem qd_M_mark_35 : decode qb_M_mark 35 = .ok (.iconst (-1), 1) := by decide +kernel
theorem qd_M_mark_36 : decode qb_M_mark 36 = .ok (.ireturn, 1) := by decide +kernel
theorem qd_M_mark_37 : decode qb_M_mark 37 = .ok (.iload_n 1, 1) := by decide +kernel
theorem qd_M_mark_38 : decode qb_M_mark 38 = .ok (.ifCond .ge 10, 3) := by decide +kernel
theorem qd_M_mark_41 : decode qb_M_mark 41 = .ok (.aload_n 0, 1) := by decide +kernel
theorem qd_M_mark_42 : decode qb_M_mark 42 = .ok (.getfield 36, 3) := by decide +kernel
theorem qd_M_mark_45 : decode qb_M_mark 45 = .ok (.goto (9), 3) := by decide +kernel
theorem qd_M_mark_48 : decode qb_M_mark 48 = .ok (.aload_n 0, 1) := by decide +kernel
theorem qd_M_mark_49 : decode qb_M_mark 49 = .ok (.getfield 13, 3) := by decide +kernel
theorem qd_M_mark_52 : decode qb_M_mark 52 = .ok (.iload_n 1, 1) := by decide +kernel
theorem qd_M_mark_53 : decode qb_M_mark 53 = .ok (.iaload, 1) := by decide +kernel
theorem qd_M_mark_54 : decode qb_M_mark 54 = .ok (.istore_n 3, 1) := by decide +kernel
theorem qd_M_mark_55 : decode qb_M_mark 55 = .ok (.iload_n 2, 1) := by decide +kernel
theorem qd_M_mark_56 : decode qb_M_mark 56 = .ok (.iload_n 3, 1) := by decide +kernel
theorem qd_M_mark_57 : decode qb_M_mark 57 = .ok (.if_icmp .gt 6, 3) := by decide +kernel
theorem qd_M_mark_60 : decode qb_M_mark 60 = .ok (.bipush (-2), 2) := by decide +kernel
theorem qd_M_mark_62 : decode qb_M_mark 62 = .ok (.ireturn, 1) := by decide +kernel
theorem qd_M_mark_63 : decode qb_M_mark 63 = .ok (.aload_n 0, 1) := by decide +kernel
theorem qd_M_mark_64 : decode qb_M_mark 64 = .ok (.iconst 1, 1) := by decide +kernel
theorem qd_M_mark_65 : decode qb_M_mark 65 = .ok (.putfield 45, 3) := by decide +kernel
theorem qd_M_mark_68 : decode qb_M_mark 68 = .ok (.aload_n 0, 1) := by decide +kernel
theorem qd_M_mark_69 : decode qb_M_mark 69 = .ok (.iconst 0, 1) := by decide +kernel
theorem qd_M_mark_70 : decode qb_M_mark 70 = .ok (.putfield 81, 3) := by decide +kernel
theorem qd_M_mark_73 : decode qb_M_mark 73 = .ok (.iload_n 1, 1) := by decide +kernel
theorem qd_M_mark_74 : decode qb_M_mark 74 = .ok (.ifCond .ge 11, 3) := by decide +kernel
theorem qd_M_mark_77 : decode qb_M_mark 77 = .ok (.aload_n 0, 1) := by decide +kernel
theorem qd_M_mark_78 : decode qb_M_mark 78 = .ok (.iload_n 2, 1) := by decide +kernel
theorem qd_M_mark_79 : decode qb_M_mark 79 = .ok (.putfield 36, 3) := by decide +kernel
theorem qd_M_mark_82 : decode qb_M_mark 82 = .ok (.goto (10), 3) := by decide +kernel
theorem qd_M_mark_85 : decode qb_M_mark 85 = .ok (.aload_n 0, 1) := by decide +kernel
theorem qd_M_mark_86 : decode qb_M_mark 86 = .ok (.getfield 13, 3) := by decide +kernel
theorem qd_M_mark_89 : decode qb_M_mark 89 = .ok (.iload_n 1, 1) := by decide +kernel
theorem qd_M_mark_90 : decode qb_M_mark 90 = .ok (.iload_n 2, 1) := by decide +kernel
theorem qd_M_mark_91 : decode qb_M_mark 91 = .ok (.iastore, 1) := by decide +kernel
theorem qd_M_mark_92 : decode qb_M_mark 92 = .ok (.aload_n 0, 1) := by decide +kernel
theorem qd_M_mark_93 : decode qb_M_mark 93 = .ok (.invokevirtual 142, 3) := by decide +kernel
theorem qd_M_mark_96 : decode qb_M_mark 96 = .ok (.aload_n 0, 1) := by decide +kernel
theorem qd_M_mark_97 : decode qb_M_mark 97 = .ok (.invokevirtual 145, 3) := by decide +kernel
theorem qd_M_mark_100 : decode qb_M_mark 100 = .ok (.aload_n 0, 1) := by decide +kernel
theorem qd_M_mark_101 : decode qb_M_mark 101 = .ok (.invokevirtual 148, 3) := by decide +kernel
theorem qd_M_mark_104 : decode qb_M_mark 104 = .ok (.iload_n 3, 1) := by decide +kernel
theorem qd_M_mark_105 : decode qb_M_mark 105 = .ok (.ireturn, 1) := by decide +kernel
theorem qd_M_dropRows_0 : decode qb_M_dropRows 0 = .ok (.iconst 0, 1) := by decide +kernel
theorem qd_M_dropRows_1 : decode qb_M_dropRows 1 = .ok (.istore_n 1, 1) := by decide +kernel
theorem qd_M_dropRows_2 : decode qb_M_dropRows 2 = .ok (.iconst 0, 1) := by decide +kernel
theorem qd_M_dropRows_3 : decode qb_M_dropRows 3 = .ok (.istore_n 2, 1) := by decide +kernel
theorem qd_M_dropRows_4 : decode qb_M_dropRows 4 = .ok (.iload_n 2, 1) := by decide +kernel
theorem qd_M_dropRows_5 : decode qb_M_dropRows 5 = .ok (.aload_n 0, 1) := by decide +kernel
theorem qd_M_dropRows_6 : decode qb_M_dropRows 6 = .ok (.getfield 98, 3) := by decide +kernel
theorem qd_M_dropRows_9 : decode qb_M_dropRows 9 = .ok (.if_icmp .ge 123, 3) := by decide +kernel
theorem qd_M_dropRows_12 : decode qb_M_dropRows 12 = .ok (.aload_n 0, 1) := by decide +kernel
theorem qd_M_dropRows_13 : decode qb_M_dropRows 13 = .ok (.getfield 20, 3) := by decide +kernel
theorem qd_M_dropRows_16 : decode qb_M_dropRows 16 = .ok (.bipush 6, 2) := by decide +kernel
theorem qd_M_dropRows_18 : decode qb_M_dropRows 18 = .ok (.iload_n 2, 1) := by decide +kernel
theorem qd_M_dropRows_19 : decode qb_M_dropRows 19 = .ok (.imul, 1) := by decide +kernel
theorem qd_M_dropRows_20 : decode qb_M_dropRows 20 = .ok (.iconst 4, 1) := by decide +kernel
theorem qd_M_dropRows_21 : decode qb_M_dropRows 21 = .ok (.iadd, 1) := by decide +kernel
theorem qd_M_dropRows_22 : decode qb_M_dropRows 22 = .ok (.iaload, 1) := by decide +kernel
theorem qd_M_dropRows_23 : decode qb_M_dropRows 23 = .ok (.ifCond .ne 25, 3) := by decide +kernel
theorem qd_M_dropRows_26 : decode qb_M_dropRows 26 = .ok (.aload_n 0, 1) := by decide +kernel
theorem qd_M_dropRows_27 : decode qb_M_dropRows 27 = .ok (.getfield 20, 3) := by decide +kernel
theorem qd_M_dropRows_30 : decode qb_M_dropRows 30 = .ok (.bipush 6, 2) := by decide +kernel
theorem qd_M_dropRows_32 : decode qb_M_dropRows 32 = .ok (.iload_n 2, 1) := by decide +kernel
theorem qd_M_dropRows_33 : decode qb_M_dropRows 33 = .ok (.imul, 1) := by decide +kernel
theorem qd_M_dropRows_34 : decode qb_M_dropRows 34 = .ok (.iconst 2, 1) := by decide +kernel
theorem qd_M_dropRows_35 : decode qb_M_dropRows 35 = .ok (.iadd, 1) := by decide +kernel
theorem qd_M_dropRows_36 : decode qb_M_dropRows 36 = .ok (.iaload, 1) := by decide +kernel
theorem qd_M_dropRows_37 : decode qb_M_dropRows 37 = .ok (.aload_n 0, 1) := by decide +kernel
theorem qd_M_dropRows_38 : decode qb_M_dropRows 38 = .ok (.invokevirtual 122, 3) := by decide +kernel
theorem qd_M_dropRows_41 : decode qb_M_dropRows 41 = .ok (.if_icmp .gt 7, 3) := by decide +kernel
theorem qd_M_dropRows_44 : decode qb_M_dropRows 44 = .ok (.iconst 1, 1) := by decide +kernel
theorem qd_M_dropRows_45 : decode qb_M_dropRows 45 = .ok (.goto (4), 3) := by decide +kernel
theorem qd_M_dropRows_48 : decode qb_M_dropRows 48 = .ok (.iconst 0, 1) := by decide +kernel
theorem qd_M_dropRows_49 : decode qb_M_dropRows 49 = .ok (.istore_n 3, 1) := by decide +kernel
theorem qd_M_dropRows_50 : decode qb_M_dropRows 50 = .ok (.iconst 0, 1) := by decide +kernel
theorem qd_M_dropRows_51 : decode qb_M_dropRows 51 = .ok (.istore 4, 2) := by decide +kernel
theorem qd_M_dropRows_53 : decode qb_M_dropRows 53 = .ok (.iload 4, 2) := by decide +kernel
theorem qd_M_dropRows_55 : decode qb_M_dropRows 55 = .ok (.bipush 6, 2) := by decide +kernel
theorem qd_M_dropRows_57 : decode qb_M_dropRows 57 = .ok (.if_icmp .ge 57, 3) := by decide +kernel
theorem qd_M_dropRows_60 : decode qb_M_dropRows 60 = .ok (.aload_n 0, 1) := by decide +kernel
theorem qd_M_dropRows_61 : decode qb_M_dropRows 61 = .ok (.getfield 20, 3) := by decide +kernel
theorem qd_M_dropRows_64 : decode qb_M_dropRows 64 = .ok (.bipush 6, 2) := by decide +kernel
theorem qd_M_dropRows_66 : decode qb_M_dropRows 66 = .ok (.iload_n 1, 1) := by decide +kernel
theorem qd_M_dropRows_67 : decode qb_M_dropRows 67 = .ok (.imul, 1) := by decide +kernel
theorem qd_M_dropRows_68 : decode qb_M_dropRows 68 = .ok (.iload 4, 2) := by decide +kernel
theorem qd_M_dropRows_70 : decode qb_M_dropRows 70 = .ok (.iadd, 1) := by decide +kernel
theorem qd_M_dropRows_71 : decode qb_M_dropRows 71 = .ok (.aload_n 0, 1) := by decide +kernel
theorem qd_M_dropRows_72 : decode qb_M_dropRows 72 = .ok (.getfield 20, 3) := by decide +kernel
theorem qd_M_dropRows_75 : decode qb_M_dropRows 75 = .ok (.bipush 6, 2) := by decide +kernel
