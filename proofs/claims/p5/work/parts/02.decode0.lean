theorem qd_X_init_0 : decode qb_X_init 0 = .ok (.aload_n 0, 1) := by decide +kernel
theorem qd_X_init_1 : decode qb_X_init 1 = .ok (.invokespecial 3, 3) := by decide +kernel
theorem qd_X_init_4 : decode qb_X_init 4 = .ok (.aload_n 0, 1) := by decide +kernel
theorem qd_X_init_5 : decode qb_X_init 5 = .ok (.iconst 4, 1) := by decide +kernel
theorem qd_X_init_6 : decode qb_X_init 6 = .ok (.newarray .int, 2) := by decide +kernel
theorem qd_X_init_8 : decode qb_X_init 8 = .ok (.putfield 9, 3) := by decide +kernel
theorem qd_X_init_11 : decode qb_X_init 11 = .ok (.aload_n 0, 1) := by decide +kernel
theorem qd_X_init_12 : decode qb_X_init 12 = .ok (.iconst 3, 1) := by decide +kernel
theorem qd_X_init_13 : decode qb_X_init 13 = .ok (.newarray .int, 2) := by decide +kernel
theorem qd_X_init_15 : decode qb_X_init 15 = .ok (.putfield 13, 3) := by decide +kernel
theorem qd_X_init_18 : decode qb_X_init 18 = .ok (.aload_n 0, 1) := by decide +kernel
theorem qd_X_init_19 : decode qb_X_init 19 = .ok (.new 16, 3) := by decide +kernel
theorem qd_X_init_22 : decode qb_X_init 22 = .ok (.dup, 1) := by decide +kernel
theorem qd_X_init_23 : decode qb_X_init 23 = .ok (.invokespecial 18, 3) := by decide +kernel
theorem qd_X_init_26 : decode qb_X_init 26 = .ok (.putfield 19, 3) := by decide +kernel
theorem qd_X_init_29 : decode qb_X_init 29 = .ok (.aload_n 0, 1) := by decide +kernel
theorem qd_X_init_30 : decode qb_X_init 30 = .ok (.new 23, 3) := by decide +kernel
theorem qd_X_init_33 : decode qb_X_init 33 = .ok (.dup, 1) := by decide +kernel
theorem qd_X_init_34 : decode qb_X_init 34 = .ok (.invokespecial 25, 3) := by decide +kernel
theorem qd_X_init_37 : decode qb_X_init 37 = .ok (.putfield 26, 3) := by decide +kernel
theorem qd_X_init_40 : decode qb_X_init 40 = .ok (.aload_n 0, 1) := by decide +kernel
theorem qd_X_init_41 : decode qb_X_init 41 = .ok (.new 30, 3) := by decide +kernel
theorem qd_X_init_44 : decode qb_X_init 44 = .ok (.dup, 1) := by decide +kernel
theorem qd_X_init_45 : decode qb_X_init 45 = .ok (.invokespecial 32, 3) := by decide +kernel
theorem qd_X_init_48 : decode qb_X_init 48 = .ok (.putfield 33, 3) := by decide +kernel
theorem qd_X_init_51 : decode qb_X_init 51 = .ok (.aload_n 0, 1) := by decide +kernel
theorem qd_X_init_52 : decode qb_X_init 52 = .ok (.bipush 6, 2) := by decide +kernel
theorem qd_X_init_54 : decode qb_X_init 54 = .ok (.newarray .int, 2) := by decide +kernel
theorem qd_X_init_56 : decode qb_X_init 56 = .ok (.putfield 37, 3) := by decide +kernel
theorem qd_X_init_59 : decode qb_X_init 59 = .ok (.return_, 1) := by decide +kernel
theorem qd_X_table_0 : decode qb_X_table 0 = .ok (.aload_n 0, 1) := by decide +kernel
theorem qd_X_table_1 : decode qb_X_table 1 = .ok (.getfield 40, 3) := by decide +kernel
theorem qd_X_table_4 : decode qb_X_table 4 = .ok (.iconst 3, 1) := by decide +kernel
theorem qd_X_table_5 : decode qb_X_table 5 = .ok (.if_icmp .lt 6, 3) := by decide +kernel
theorem qd_X_table_8 : decode qb_X_table 8 = .ok (.bipush (-3), 2) := by decide +kernel
theorem qd_X_table_10 : decode qb_X_table 10 = .ok (.ireturn, 1) := by decide +kernel
theorem qd_X_table_11 : decode qb_X_table 11 = .ok (.aload_n 0, 1) := by decide +kernel
theorem qd_X_table_12 : decode qb_X_table 12 = .ok (.getfield 44, 3) := by decide +kernel
theorem qd_X_table_15 : decode qb_X_table 15 = .ok (.ifCond .eq 6, 3) := by decide +kernel
theorem qd_X_table_18 : decode qb_X_table 18 = .ok (.bipush (-5), 2) := by decide +kernel
theorem qd_X_table_20 : decode qb_X_table 20 = .ok (.ireturn, 1) := by decide +kernel
theorem qd_X_table_21 : decode qb_X_table 21 = .ok (.aload_n 0, 1) := by decide +kernel
theorem qd_X_table_22 : decode qb_X_table 22 = .ok (.dup, 1) := by decide +kernel
theorem qd_X_table_23 : decode qb_X_table 23 = .ok (.getfield 40, 3) := by decide +kernel
theorem qd_X_table_26 : decode qb_X_table 26 = .ok (.iconst 1, 1) := by decide +kernel
theorem qd_X_table_27 : decode qb_X_table 27 = .ok (.iadd, 1) := by decide +kernel
theorem qd_X_table_28 : decode qb_X_table 28 = .ok (.putfield 40, 3) := by decide +kernel
theorem qd_X_table_31 : decode qb_X_table 31 = .ok (.aload_n 0, 1) := by decide +kernel
theorem qd_X_table_32 : decode qb_X_table 32 = .ok (.getfield 40, 3) := by decide +kernel
theorem qd_X_table_35 : decode qb_X_table 35 = .ok (.iconst 1, 1) := by decide +kernel
theorem qd_X_table_36 : decode qb_X_table 36 = .ok (.isub, 1) := by decide +kernel
theorem qd_X_table_37 : decode qb_X_table 37 = .ok (.ireturn, 1) := by decide +kernel
theorem qd_X_rule_0 : decode qb_X_rule 0 = .ok (.iload_n 1, 1) := by decide +kernel
theorem qd_X_rule_1 : decode qb_X_rule 1 = .ok (.ifCond .lt 28, 3) := by decide +kernel
theorem qd_X_rule_4 : decode qb_X_rule 4 = .ok (.iload_n 1, 1) := by decide +kernel
theorem qd_X_rule_5 : decode qb_X_rule 5 = .ok (.iconst 4, 1) := by decide +kernel
theorem qd_X_rule_6 : decode qb_X_rule 6 = .ok (.if_icmp .ge 23, 3) := by decide +kernel
theorem qd_X_rule_9 : decode qb_X_rule 9 = .ok (.iload_n 2, 1) := by decide +kernel
theorem qd_X_rule_10 : decode qb_X_rule 10 = .ok (.ifCond .lt 19, 3) := by decide +kernel
theorem qd_X_rule_13 : decode qb_X_rule 13 = .ok (.iload_n 2, 1) := by decide +kernel
theorem qd_X_rule_14 : decode qb_X_rule 14 = .ok (.iload_n 1, 1) := by decide +kernel
theorem qd_X_rule_15 : decode qb_X_rule 15 = .ok (.iconst 3, 1) := by decide +kernel
theorem qd_X_rule_16 : decode qb_X_rule 16 = .ok (.if_icmp .ne 9, 3) := by decide +kernel
theorem qd_X_rule_19 : decode qb_X_rule 19 = .ok (.sipush 1000, 3) := by decide +kernel
theorem qd_X_rule_22 : decode qb_X_rule 22 = .ok (.goto (4), 3) := by decide +kernel
theorem qd_X_rule_25 : decode qb_X_rule 25 = .ok (.iconst 1, 1) := by decide +kernel
theorem qd_X_rule_26 : decode qb_X_rule 26 = .ok (.if_icmp .le 5, 3) := by decide +kernel
theorem qd_X_rule_29 : decode qb_X_rule 29 = .ok (.iconst (-1), 1) := by decide +kernel
theorem qd_X_rule_30 : decode qb_X_rule 30 = .ok (.ireturn, 1) := by decide +kernel
theorem qd_X_rule_31 : decode qb_X_rule 31 = .ok (.aload_n 0, 1) := by decide +kernel
theorem qd_X_rule_32 : decode qb_X_rule 32 = .ok (.getfield 44, 3) := by decide +kernel
theorem qd_X_rule_35 : decode qb_X_rule 35 = .ok (.ifCond .eq 6, 3) := by decide +kernel
theorem qd_X_rule_38 : decode qb_X_rule 38 = .ok (.bipush (-5), 2) := by decide +kernel
theorem qd_X_rule_40 : decode qb_X_rule 40 = .ok (.ireturn, 1) := by decide +kernel
theorem qd_X_rule_41 : decode qb_X_rule 41 = .ok (.aload_n 0, 1) := by decide +kernel
theorem qd_X_rule_42 : decode qb_X_rule 42 = .ok (.getfield 9, 3) := by decide +kernel
theorem qd_X_rule_45 : decode qb_X_rule 45 = .ok (.iload_n 1, 1) := by decide +kernel
theorem qd_X_rule_46 : decode qb_X_rule 46 = .ok (.iaload, 1) := by decide +kernel
theorem qd_X_rule_47 : decode qb_X_rule 47 = .ok (.istore_n 3, 1) := by decide +kernel
theorem qd_X_rule_48 : decode qb_X_rule 48 = .ok (.aload_n 0, 1) := by decide +kernel
theorem qd_X_rule_49 : decode qb_X_rule 49 = .ok (.getfield 9, 3) := by decide +kernel
theorem qd_X_rule_52 : decode qb_X_rule 52 = .ok (.iload_n 1, 1) := by decide +kernel
theorem qd_X_rule_53 : decode qb_X_rule 53 = .ok (.iload_n 2, 1) := by decide +kernel
theorem qd_X_rule_54 : decode qb_X_rule 54 = .ok (.iastore, 1) := by decide +kernel
theorem qd_X_rule_55 : decode qb_X_rule 55 = .ok (.iload_n 3, 1) := by decide +kernel
theorem qd_X_rule_56 : decode qb_X_rule 56 = .ok (.ireturn, 1) := by decide +kernel
theorem qd_X_change_0 : decode qb_X_change 0 = .ok (.aload_n 0, 1) := by decide +kernel
theorem qd_X_change_1 : decode qb_X_change 1 = .ok (.iload_n 1, 1) := by decide +kernel
theorem qd_X_change_2 : decode qb_X_change 2 = .ok (.invokevirtual 48, 3) := by decide +kernel
theorem qd_X_change_5 : decode qb_X_change 5 = .ok (.ifCond .eq 31, 3) := by decide +kernel
theorem qd_X_change_8 : decode qb_X_change 8 = .ok (.iload_n 2, 1) := by decide +kernel
theorem qd_X_change_9 : decode qb_X_change 9 = .ok (.invokestatic 52, 3) := by decide +kernel
theorem qd_X_change_12 : decode qb_X_change 12 = .ok (.ifCond .eq 24, 3) := by decide +kernel
theorem qd_X_change_15 : decode qb_X_change 15 = .ok (.iload_n 3, 1) := by decide +kernel
theorem qd_X_change_16 : decode qb_X_change 16 = .ok (.invokestatic 55, 3) := by decide +kernel
theorem qd_X_change_19 : decode qb_X_change 19 = .ok (.ifCond .eq 17, 3) := by decide +kernel
theorem qd_X_change_22 : decode qb_X_change 22 = .ok (.iload 4, 2) := by decide +kernel
theorem qd_X_change_24 : decode qb_X_change 24 = .ok (.iconst (-1), 1) := by decide +kernel
theorem qd_X_change_25 : decode qb_X_change 25 = .ok (.if_icmp .eq 13, 3) := by decide +kernel
theorem qd_X_change_28 : decode qb_X_change 28 = .ok (.iload 4, 2) := by decide +kernel
theorem qd_X_change_30 : decode qb_X_change 30 = .ok (.invokestatic 58, 3) := by decide +kernel
theorem qd_X_change_33 : decode qb_X_change 33 = .ok (.ifCond .ne 5, 3) := by decide +kernel
theorem qd_X_change_36 : decode qb_X_change 36 = .ok (.iconst (-1), 1) := by decide +kernel
theorem qd_X_change_37 : decode qb_X_change 37 = .ok (.ireturn, 1) := by decide +kernel
theorem qd_X_change_38 : decode qb_X_change 38 = .ok (.aload_n 0, 1) := by decide +kernel
theorem qd_X_change_39 : decode qb_X_change 39 = .ok (.iload_n 1, 1) := by decide +kernel
theorem qd_X_change_40 : decode qb_X_change 40 = .ok (.iload_n 3, 1) := by decide +kernel
theorem qd_X_change_41 : decode qb_X_change 41 = .ok (.invokevirtual 61, 3) := by decide +kernel
theorem qd_X_change_44 : decode qb_X_change 44 = .ok (.ifCond .eq 16, 3) := by decide +kernel
theorem qd_X_change_47 : decode qb_X_change 47 = .ok (.aload_n 0, 1) := by decide +kernel
theorem qd_X_change_48 : decode qb_X_change 48 = .ok (.dup, 1) := by decide +kernel
theorem qd_X_change_49 : decode qb_X_change 49 = .ok (.getfield 65, 3) := by decide +kernel
theorem qd_X_change_52 : decode qb_X_change 52 = .ok (.iconst 1, 1) := by decide +kernel
theorem qd_X_change_53 : decode qb_X_change 53 = .ok (.iadd, 1) := by decide +kernel
theorem qd_X_change_54 : decode qb_X_change 54 = .ok (.putfield 65, 3) := by decide +kernel
theorem qd_X_change_57 : decode qb_X_change 57 = .ok (.bipush (-4), 2) := by decide +kernel
theorem qd_X_change_59 : decode qb_X_change 59 = .ok (.ireturn, 1) := by decide +kernel
theorem qd_X_change_60 : decode qb_X_change 60 = .ok (.aload_n 0, 1) := by decide +kernel
theorem qd_X_change_61 : decode qb_X_change 61 = .ok (.getfield 19, 3) := by decide +kernel
theorem qd_X_change_64 : decode qb_X_change 64 = .ok (.invokevirtual 68, 3) := by decide +kernel
theorem qd_X_change_67 : decode qb_X_change 67 = .ok (.sipush 160, 3) := by decide +kernel
theorem qd_X_change_70 : decode qb_X_change 70 = .ok (.if_icmp .lt 6, 3) := by decide +kernel
theorem qd_X_change_73 : decode qb_X_change 73 = .ok (.bipush (-3), 2) := by decide +kernel
theorem qd_X_change_75 : decode qb_X_change 75 = .ok (.ireturn, 1) := by decide +kernel
theorem qd_X_change_76 : decode qb_X_change 76 = .ok (.aload_n 0, 1) := by decide +kernel
theorem qd_X_change_77 : decode qb_X_change 77 = .ok (.invokevirtual 72, 3) := by decide +kernel
theorem qd_X_change_80 : decode qb_X_change 80 = .ok (.iload_n 1, 1) := by decide +kernel
theorem qd_X_change_81 : decode qb_X_change 81 = .ok (.iload_n 2, 1) := by decide +kernel
theorem qd_X_change_82 : decode qb_X_change 82 = .ok (.invokestatic 75, 3) := by decide +kernel
theorem qd_X_change_85 : decode qb_X_change 85 = .ok (.istore 5, 2) := by decide +kernel
theorem qd_X_change_87 : decode qb_X_change 87 = .ok (.aload_n 0, 1) := by decide +kernel
theorem qd_X_change_88 : decode qb_X_change 88 = .ok (.getfield 19, 3) := by decide +kernel
theorem qd_X_change_91 : decode qb_X_change 91 = .ok (.iload 5, 2) := by decide +kernel
theorem qd_X_change_93 : decode qb_X_change 93 = .ok (.iload_n 3, 1) := by decide +kernel
theorem qd_X_change_94 : decode qb_X_change 94 = .ok (.iload 4, 2) := by decide +kernel
theorem qd_X_change_96 : decode qb_X_change 96 = .ok (.invokevirtual 79, 3) := by decide +kernel
theorem qd_X_change_99 : decode qb_X_change 99 = .ok (.aload_n 0, 1) := by decide +kernel
theorem qd_X_change_100 : decode qb_X_change 100 = .ok (.iload_n 2, 1) := by decide +kernel
theorem qd_X_change_101 : decode qb_X_change 101 = .ok (.invokevirtual 83, 3) := by decide +kernel
theorem qd_X_change_104 : decode qb_X_change 104 = .ok (.aload_n 0, 1) := by decide +kernel
theorem qd_X_change_105 : decode qb_X_change 105 = .ok (.getfield 19, 3) := by decide +kernel
theorem qd_X_change_108 : decode qb_X_change 108 = .ok (.iload 5, 2) := by decide +kernel
theorem qd_X_change_110 : decode qb_X_change 110 = .ok (.invokevirtual 87, 3) := by decide +kernel
theorem qd_X_change_113 : decode qb_X_change 113 = .ok (.ireturn, 1) := by decide +kernel
theorem qd_X_row_0 : decode qb_X_row 0 = .ok (.iload_n 1, 1) := by decide +kernel
theorem qd_X_row_1 : decode qb_X_row 1 = .ok (.invokestatic 52, 3) := by decide +kernel
theorem qd_X_row_4 : decode qb_X_row 4 = .ok (.ifCond .eq 24, 3) := by decide +kernel
theorem qd_X_row_7 : decode qb_X_row 7 = .ok (.iload_n 2, 1) := by decide +kernel
theorem qd_X_row_8 : decode qb_X_row 8 = .ok (.invokestatic 55, 3) := by decide +kernel
theorem qd_X_row_11 : decode qb_X_row 11 = .ok (.ifCond .eq 17, 3) := by decide +kernel
theorem qd_X_row_14 : decode qb_X_row 14 = .ok (.iload_n 3, 1) := by decide +kernel
theorem qd_X_row_15 : decode qb_X_row 15 = .ok (.invokestatic 58, 3) := by decide +kernel
theorem qd_X_row_18 : decode qb_X_row 18 = .ok (.ifCond .eq 10, 3) := by decide +kernel
theorem qd_X_row_21 : decode qb_X_row 21 = .ok (.aload_n 0, 1) := by decide +kernel
theorem qd_X_row_22 : decode qb_X_row 22 = .ok (.getfield 40, 3) := by decide +kernel
theorem qd_X_row_25 : decode qb_X_row 25 = .ok (.ifCond .ne 5, 3) := by decide +kernel
theorem qd_X_row_28 : decode qb_X_row 28 = .ok (.iconst (-1), 1) := by decide +kernel
theorem qd_X_row_29 : decode qb_X_row 29 = .ok (.ireturn, 1) := by decide +kernel
theorem qd_X_row_30 : decode qb_X_row 30 = .ok (.iload_n 2, 1) := by decide +kernel
theorem qd_X_row_31 : decode qb_X_row 31 = .ok (.aload_n 0, 1) := by decide +kernel
theorem qd_X_row_32 : decode qb_X_row 32 = .ok (.getfield 91, 3) := by decide +kernel
theorem qd_X_row_35 : decode qb_X_row 35 = .ok (.if_icmp .gt 16, 3) := by decide +kernel
theorem qd_X_row_38 : decode qb_X_row 38 = .ok (.aload_n 0, 1) := by decide +kernel
theorem qd_X_row_39 : decode qb_X_row 39 = .ok (.dup, 1) := by decide +kernel
theorem qd_X_row_40 : decode qb_X_row 40 = .ok (.getfield 65, 3) := by decide +kernel
theorem qd_X_row_43 : decode qb_X_row 43 = .ok (.iconst 1, 1) := by decide +kernel
theorem qd_X_row_44 : decode qb_X_row 44 = .ok (.iadd, 1) := by decide +kernel
theorem qd_X_row_45 : decode qb_X_row 45 = .ok (.putfield 65, 3) := by decide +kernel
theorem qd_X_row_48 : decode qb_X_row 48 = .ok (.bipush (-4), 2) := by decide +kernel
theorem qd_X_row_50 : decode qb_X_row 50 = .ok (.ireturn, 1) := by decide +kernel
theorem qd_X_row_51 : decode qb_X_row 51 = .ok (.aload_n 0, 1) := by decide +kernel
theorem qd_X_row_52 : decode qb_X_row 52 = .ok (.getfield 26, 3) := by decide +kernel
theorem qd_X_row_55 : decode qb_X_row 55 = .ok (.invokevirtual 94, 3) := by decide +kernel
theorem qd_X_row_58 : decode qb_X_row 58 = .ok (.bipush 96, 2) := by decide +kernel
theorem qd_X_row_60 : decode qb_X_row 60 = .ok (.if_icmp .ge 13, 3) := by decide +kernel
theorem qd_X_row_63 : decode qb_X_row 63 = .ok (.aload_n 0, 1) := by decide +kernel
theorem qd_X_row_64 : decode qb_X_row 64 = .ok (.getfield 95, 3) := by decide +kernel
theorem qd_X_row_67 : decode qb_X_row 67 = .ok (.sipush 30000, 3) := by decide +kernel
theorem qd_X_row_70 : decode qb_X_row 70 = .ok (.if_icmp .lt 6, 3) := by decide +kernel
theorem qd_X_row_73 : decode qb_X_row 73 = .ok (.bipush (-3), 2) := by decide +kernel
theorem qd_X_row_75 : decode qb_X_row 75 = .ok (.ireturn, 1) := by decide +kernel
theorem qd_X_row_76 : decode qb_X_row 76 = .ok (.aload_n 0, 1) := by decide +kernel
theorem qd_X_row_77 : decode qb_X_row 77 = .ok (.invokevirtual 72, 3) := by decide +kernel
theorem qd_X_row_80 : decode qb_X_row 80 = .ok (.aload_n 0, 1) := by decide +kernel
theorem qd_X_row_81 : decode qb_X_row 81 = .ok (.getfield 95, 3) := by decide +kernel
theorem qd_X_row_84 : decode qb_X_row 84 = .ok (.istore 4, 2) := by decide +kernel
theorem qd_X_row_86 : decode qb_X_row 86 = .ok (.aload_n 0, 1) := by decide +kernel
theorem qd_X_row_87 : decode qb_X_row 87 = .ok (.dup, 1) := by decide +kernel
theorem qd_X_row_88 : decode qb_X_row 88 = .ok (.getfield 95, 3) := by decide +kernel
theorem qd_X_row_91 : decode qb_X_row 91 = .ok (.iconst 1, 1) := by decide +kernel
theorem qd_X_row_92 : decode qb_X_row 92 = .ok (.iadd, 1) := by decide +kernel
theorem qd_X_row_93 : decode qb_X_row 93 = .ok (.putfield 95, 3) := by decide +kernel
theorem qd_X_row_96 : decode qb_X_row 96 = .ok (.aload_n 0, 1) := by decide +kernel
theorem qd_X_row_97 : decode qb_X_row 97 = .ok (.getfield 26, 3) := by decide +kernel
theorem qd_X_row_100 : decode qb_X_row 100 = .ok (.iload 4, 2) := by decide +kernel
theorem qd_X_row_102 : decode qb_X_row 102 = .ok (.iload_n 1, 1) := by decide +kernel
theorem qd_X_row_103 : decode qb_X_row 103 = .ok (.iload_n 2, 1) := by decide +kernel
theorem qd_X_row_104 : decode qb_X_row 104 = .ok (.iload_n 3, 1) := by decide +kernel
theorem qd_X_row_105 : decode qb_X_row 105 = .ok (.invokevirtual 98, 3) := by decide +kernel
theorem qd_X_row_108 : decode qb_X_row 108 = .ok (.aload_n 0, 1) := by decide +kernel
theorem qd_X_row_109 : decode qb_X_row 109 = .ok (.invokevirtual 102, 3) := by decide +kernel
theorem qd_X_row_112 : decode qb_X_row 112 = .ok (.iload 4, 2) := by decide +kernel
theorem qd_X_row_114 : decode qb_X_row 114 = .ok (.ireturn, 1) := by decide +kernel
theorem qd_X_mark_0 : decode qb_X_mark 0 = .ok (.iload_n 1, 1) := by decide +kernel
theorem qd_X_mark_1 : decode qb_X_mark 1 = .ok (.iconst (-1), 1) := by decide +kernel
theorem qd_X_mark_2 : decode qb_X_mark 2 = .ok (.if_icmp .eq 11, 3) := by decide +kernel
theorem qd_X_mark_5 : decode qb_X_mark 5 = .ok (.aload_n 0, 1) := by decide +kernel
theorem qd_X_mark_6 : decode qb_X_mark 6 = .ok (.iload_n 1, 1) := by decide +kernel
theorem qd_X_mark_7 : decode qb_X_mark 7 = .ok (.invokevirtual 48, 3) := by decide +kernel
theorem qd_X_mark_10 : decode qb_X_mark 10 = .ok (.ifCond .eq 13, 3) := by decide +kernel
theorem qd_X_mark_13 : decode qb_X_mark 13 = .ok (.iload_n 2, 1) := by decide +kernel
theorem qd_X_mark_14 : decode qb_X_mark 14 = .ok (.ifCond .lt 9, 3) := by decide +kernel
theorem qd_X_mark_17 : decode qb_X_mark 17 = .ok (.iload_n 2, 1) := by decide +kernel
theorem qd_X_mark_18 : decode qb_X_mark 18 = .ok (.ldc 105, 2) := by decide +kernel
theorem qd_X_mark_20 : decode qb_X_mark 20 = .ok (.if_icmp .le 5, 3) := by decide +kernel
theorem qd_X_mark_23 : decode qb_X_mark 23 = .ok (.iconst (-1), 1) := by decide +kernel
theorem qd_X_mark_24 : decode qb_X_mark 24 = .ok (.ireturn, 1) := by decide +kernel
theorem qd_X_mark_25 : decode qb_X_mark 25 = .ok (.aload_n 0, 1) := by decide +kernel
theorem qd_X_mark_26 : decode qb_X_mark 26 = .ok (.iload_n 1, 1) := by decide +kernel
theorem qd_X_mark_27 : decode qb_X_mark 27 = .ok (.invokevirtual 48, 3) := by decide +kernel
theorem qd_X_mark_30 : decode qb_X_mark 30 = .ok (.ifCond .eq 12, 3) := by decide +kernel
theorem qd_X_mark_33 : decode qb_X_mark 33 = .ok (.aload_n 0, 1) := by decide +kernel
theorem qd_X_mark_34 : decode qb_X_mark 34 = .ok (.getfield 13, 3) := by decide +kernel
theorem qd_X_mark_37 : decode qb_X_mark 37 = .ok (.iload_n 1, 1) := by decide +kernel
theorem qd_X_mark_38 : decode qb_X_mark 38 = .ok (.iaload, 1) := by decide +kernel
theorem qd_X_mark_39 : decode qb_X_mark 39 = .ok (.goto (7), 3) := by decide +kernel
theorem qd_X_mark_42 : decode qb_X_mark 42 = .ok (.aload_n 0, 1) := by decide +kernel
theorem qd_X_mark_43 : decode qb_X_mark 43 = .ok (.getfield 91, 3) := by decide +kernel
theorem qd_X_mark_46 : decode qb_X_mark 46 = .ok (.istore_n 3, 1) := by decide +kernel
theorem qd_X_mark_47 : decode qb_X_mark 47 = .ok (.iload_n 2, 1) := by decide +kernel
theorem qd_X_mark_48 : decode qb_X_mark 48 = .ok (.iload_n 3, 1) := by decide +kernel
theorem qd_X_mark_49 : decode qb_X_mark 49 = .ok (.if_icmp .gt 6, 3) := by decide +kernel
theorem qd_X_mark_52 : decode qb_X_mark 52 = .ok (.bipush (-2), 2) := by decide +kernel
theorem qd_X_mark_54 : decode qb_X_mark 54 = .ok (.ireturn, 1) := by decide +kernel
theorem qd_X_mark_55 : decode qb_X_mark 55 = .ok (.aload_n 0, 1) := by decide +kernel
theorem qd_X_mark_56 : decode qb_X_mark 56 = .ok (.invokevirtual 72, 3) := by decide +kernel
theorem qd_X_mark_59 : decode qb_X_mark 59 = .ok (.aload_n 0, 1) := by decide +kernel
theorem qd_X_mark_60 : decode qb_X_mark 60 = .ok (.iload_n 1, 1) := by decide +kernel
theorem qd_X_mark_61 : decode qb_X_mark 61 = .ok (.invokevirtual 48, 3) := by decide +kernel
theorem qd_X_mark_64 : decode qb_X_mark 64 = .ok (.ifCond .eq 13, 3) := by decide +kernel
theorem qd_X_mark_67 : decode qb_X_mark 67 = .ok (.aload_n 0, 1) := by decide +kernel
theorem qd_X_mark_68 : decode qb_X_mark 68 = .ok (.getfield 13, 3) := by decide +kernel
theorem qd_X_mark_71 : decode qb_X_mark 71 = .ok (.iload_n 1, 1) := by decide +kernel
theorem qd_X_mark_72 : decode qb_X_mark 72 = .ok (.iload_n 2, 1) := by decide +kernel
theorem qd_X_mark_73 : decode qb_X_mark 73 = .ok (.iastore, 1) := by decide +kernel
theorem qd_X_mark_74 : decode qb_X_mark 74 = .ok (.goto (8), 3) := by decide +kernel
theorem qd_X_mark_77 : decode qb_X_mark 77 = .ok (.aload_n 0, 1) := by decide +kernel
theorem qd_X_mark_78 : decode qb_X_mark 78 = .ok (.iload_n 2, 1) := by decide +kernel
theorem qd_X_mark_79 : decode qb_X_mark 79 = .ok (.putfield 91, 3) := by decide +kernel
theorem qd_X_mark_82 : decode qb_X_mark 82 = .ok (.aload_n 0, 1) := by decide +kernel
theorem qd_X_mark_83 : decode qb_X_mark 83 = .ok (.invokevirtual 102, 3) := by decide +kernel
theorem qd_X_mark_86 : decode qb_X_mark 86 = .ok (.aload_n 0, 1) := by decide +kernel
theorem qd_X_mark_87 : decode qb_X_mark 87 = .ok (.dup, 1) := by decide +kernel
theorem qd_X_mark_88 : decode qb_X_mark 88 = .ok (.getfield 106, 3) := by decide +kernel
theorem qd_X_mark_91 : decode qb_X_mark 91 = .ok (.aload_n 0, 1) := by decide +kernel
theorem qd_X_mark_92 : decode qb_X_mark 92 = .ok (.getfield 26, 3) := by decide +kernel
theorem qd_X_mark_95 : decode qb_X_mark 95 = .ok (.aload_n 0, 1) := by decide +kernel
theorem qd_X_mark_96 : decode qb_X_mark 96 = .ok (.invokevirtual 109, 3) := by decide +kernel
theorem qd_X_mark_99 : decode qb_X_mark 99 = .ok (.invokevirtual 112, 3) := by decide +kernel
theorem qd_X_mark_102 : decode qb_X_mark 102 = .ok (.iadd, 1) := by decide +kernel
theorem qd_X_mark_103 : decode qb_X_mark 103 = .ok (.putfield 106, 3) := by decide +kernel
theorem qd_X_mark_106 : decode qb_X_mark 106 = .ok (.aload_n 0, 1) := by decide +kernel
theorem qd_X_mark_107 : decode qb_X_mark 107 = .ok (.invokevirtual 115, 3) := by decide +kernel
theorem qd_X_mark_110 : decode qb_X_mark 110 = .ok (.iload_n 3, 1) := by decide +kernel
theorem qd_X_mark_111 : decode qb_X_mark 111 = .ok (.ireturn, 1) := by decide +kernel
theorem qd_X_out_0 : decode qb_X_out 0 = .ok (.iload_n 1, 1) := by decide +kernel
theorem qd_X_out_1 : decode qb_X_out 1 = .ok (.iconst (-1), 1) := by decide +kernel
theorem qd_X_out_2 : decode qb_X_out 2 = .ok (.if_icmp .ne 11, 3) := by decide +kernel
theorem qd_X_out_5 : decode qb_X_out 5 = .ok (.aload_n 0, 1) := by decide +kernel
theorem qd_X_out_6 : decode qb_X_out 6 = .ok (.getfield 33, 3) := by decide +kernel
theorem qd_X_out_9 : decode qb_X_out 9 = .ok (.invokevirtual 118, 3) := by decide +kernel
theorem qd_X_out_12 : decode qb_X_out 12 = .ok (.ireturn, 1) := by decide +kernel
theorem qd_X_out_13 : decode qb_X_out 13 = .ok (.iload_n 1, 1) := by decide +kernel
theorem qd_X_out_14 : decode qb_X_out 14 = .ok (.ifCond .lt 30, 3) := by decide +kernel
theorem qd_X_out_17 : decode qb_X_out 17 = .ok (.iload_n 1, 1) := by decide +kernel
theorem qd_X_out_18 : decode qb_X_out 18 = .ok (.aload_n 0, 1) := by decide +kernel
theorem qd_X_out_19 : decode qb_X_out 19 = .ok (.getfield 33, 3) := by decide +kernel
theorem qd_X_out_22 : decode qb_X_out 22 = .ok (.invokevirtual 118, 3) := by decide +kernel
theorem qd_X_out_25 : decode qb_X_out 25 = .ok (.if_icmp .ge 19, 3) := by decide +kernel
theorem qd_X_out_28 : decode qb_X_out 28 = .ok (.iload_n 2, 1) := by decide +kernel
theorem qd_X_out_29 : decode qb_X_out 29 = .ok (.ifCond .lt 15, 3) := by decide +kernel
theorem qd_X_out_32 : decode qb_X_out 32 = .ok (.iload_n 2, 1) := by decide +kernel
theorem qd_X_out_33 : decode qb_X_out 33 = .ok (.iconst 5, 1) := by decide +kernel
theorem qd_X_out_34 : decode qb_X_out 34 = .ok (.iconst 2, 1) := by decide +kernel
theorem qd_X_out_35 : decode qb_X_out 35 = .ok (.aload_n 0, 1) := by decide +kernel
theorem qd_X_out_36 : decode qb_X_out 36 = .ok (.getfield 40, 3) := by decide +kernel
theorem qd_X_out_39 : decode qb_X_out 39 = .ok (.imul, 1) := by decide +kernel
theorem qd_X_out_40 : decode qb_X_out 40 = .ok (.iadd, 1) := by decide +kernel
theorem qd_X_out_41 : decode qb_X_out 41 = .ok (.if_icmp .lt 5, 3) := by decide +kernel
theorem qd_X_out_44 : decode qb_X_out 44 = .ok (.iconst (-1), 1) := by decide +kernel
theorem qd_X_out_45 : decode qb_X_out 45 = .ok (.ireturn, 1) := by decide +kernel
theorem qd_X_out_46 : decode qb_X_out 46 = .ok (.aload_n 0, 1) := by decide +kernel
theorem qd_X_out_47 : decode qb_X_out 47 = .ok (.getfield 33, 3) := by decide +kernel
theorem qd_X_out_50 : decode qb_X_out 50 = .ok (.iload_n 1, 1) := by decide +kernel
theorem qd_X_out_51 : decode qb_X_out 51 = .ok (.iload_n 2, 1) := by decide +kernel
theorem qd_X_out_52 : decode qb_X_out 52 = .ok (.invokevirtual 119, 3) := by decide +kernel
theorem qd_X_out_55 : decode qb_X_out 55 = .ok (.ireturn, 1) := by decide +kernel
theorem qd_X_asOf_0 : decode qb_X_asOf 0 = .ok (.aload_n 0, 1) := by decide +kernel
theorem qd_X_asOf_1 : decode qb_X_asOf 1 = .ok (.iload_n 1, 1) := by decide +kernel
theorem qd_X_asOf_2 : decode qb_X_asOf 2 = .ok (.invokevirtual 48, 3) := by decide +kernel
theorem qd_X_asOf_5 : decode qb_X_asOf 5 = .ok (.ifCond .eq 17, 3) := by decide +kernel
theorem qd_X_asOf_8 : decode qb_X_asOf 8 = .ok (.iload_n 2, 1) := by decide +kernel
theorem qd_X_asOf_9 : decode qb_X_asOf 9 = .ok (.invokestatic 52, 3) := by decide +kernel
theorem qd_X_asOf_12 : decode qb_X_asOf 12 = .ok (.ifCond .eq 10, 3) := by decide +kernel
theorem qd_X_asOf_15 : decode qb_X_asOf 15 = .ok (.iload_n 3, 1) := by decide +kernel
theorem qd_X_asOf_16 : decode qb_X_asOf 16 = .ok (.invokestatic 55, 3) := by decide +kernel
theorem qd_X_asOf_19 : decode qb_X_asOf 19 = .ok (.ifCond .ne 5, 3) := by decide +kernel
theorem qd_X_asOf_22 : decode qb_X_asOf 22 = .ok (.iconst (-1), 1) := by decide +kernel
theorem qd_X_asOf_23 : decode qb_X_asOf 23 = .ok (.ireturn, 1) := by decide +kernel
theorem qd_X_asOf_24 : decode qb_X_asOf 24 = .ok (.aload_n 0, 1) := by decide +kernel
theorem qd_X_asOf_25 : decode qb_X_asOf 25 = .ok (.getfield 19, 3) := by decide +kernel
theorem qd_X_asOf_28 : decode qb_X_asOf 28 = .ok (.iload_n 1, 1) := by decide +kernel
theorem qd_X_asOf_29 : decode qb_X_asOf 29 = .ok (.iload_n 2, 1) := by decide +kernel
theorem qd_X_asOf_30 : decode qb_X_asOf 30 = .ok (.invokestatic 75, 3) := by decide +kernel
theorem qd_X_asOf_33 : decode qb_X_asOf 33 = .ok (.iload_n 3, 1) := by decide +kernel
theorem qd_X_asOf_34 : decode qb_X_asOf 34 = .ok (.aload_n 0, 1) := by decide +kernel
theorem qd_X_asOf_35 : decode qb_X_asOf 35 = .ok (.getfield 9, 3) := by decide +kernel
theorem qd_X_asOf_38 : decode qb_X_asOf 38 = .ok (.iconst 0, 1) := by decide +kernel
theorem qd_X_asOf_39 : decode qb_X_asOf 39 = .ok (.iaload, 1) := by decide +kernel
theorem qd_X_asOf_40 : decode qb_X_asOf 40 = .ok (.isub, 1) := by decide +kernel
theorem qd_X_asOf_41 : decode qb_X_asOf 41 = .ok (.invokevirtual 122, 3) := by decide +kernel
theorem qd_X_asOf_44 : decode qb_X_asOf 44 = .ok (.istore 4, 2) := by decide +kernel
theorem qd_X_asOf_46 : decode qb_X_asOf 46 = .ok (.iload 4, 2) := by decide +kernel
theorem qd_X_asOf_48 : decode qb_X_asOf 48 = .ok (.ifCond .ge 8, 3) := by decide +kernel
theorem qd_X_asOf_51 : decode qb_X_asOf 51 = .ok (.bipush (-2), 2) := by decide +kernel
theorem qd_X_asOf_53 : decode qb_X_asOf 53 = .ok (.goto (13), 3) := by decide +kernel
theorem qd_X_asOf_56 : decode qb_X_asOf 56 = .ok (.aload_n 0, 1) := by decide +kernel
theorem qd_X_asOf_57 : decode qb_X_asOf 57 = .ok (.getfield 19, 3) := by decide +kernel
theorem qd_X_asOf_60 : decode qb_X_asOf 60 = .ok (.iload 4, 2) := by decide +kernel
theorem qd_X_asOf_62 : decode qb_X_asOf 62 = .ok (.iconst 1, 1) := by decide +kernel
theorem qd_X_asOf_63 : decode qb_X_asOf 63 = .ok (.invokevirtual 125, 3) := by decide +kernel
theorem qd_X_asOf_66 : decode qb_X_asOf 66 = .ok (.ireturn, 1) := by decide +kernel
theorem qd_X_version_0 : decode qb_X_version 0 = .ok (.aload_n 0, 1) := by decide +kernel
theorem qd_X_version_1 : decode qb_X_version 1 = .ok (.iload_n 1, 1) := by decide +kernel
theorem qd_X_version_2 : decode qb_X_version 2 = .ok (.invokevirtual 48, 3) := by decide +kernel
theorem qd_X_version_5 : decode qb_X_version 5 = .ok (.ifCond .eq 21, 3) := by decide +kernel
theorem qd_X_version_8 : decode qb_X_version 8 = .ok (.iload_n 2, 1) := by decide +kernel
theorem qd_X_version_9 : decode qb_X_version 9 = .ok (.invokestatic 52, 3) := by decide +kernel
theorem qd_X_version_12 : decode qb_X_version 12 = .ok (.ifCond .eq 14, 3) := by decide +kernel
theorem qd_X_version_15 : decode qb_X_version 15 = .ok (.iload 4, 2) := by decide +kernel
theorem qd_X_version_17 : decode qb_X_version 17 = .ok (.ifCond .eq 11, 3) := by decide +kernel
theorem qd_X_version_20 : decode qb_X_version 20 = .ok (.iload 4, 2) := by decide +kernel
theorem qd_X_version_22 : decode qb_X_version 22 = .ok (.iconst 1, 1) := by decide +kernel
theorem qd_X_version_23 : decode qb_X_version 23 = .ok (.if_icmp .eq 5, 3) := by decide +kernel
theorem qd_X_version_26 : decode qb_X_version 26 = .ok (.iconst (-1), 1) := by decide +kernel
theorem qd_X_version_27 : decode qb_X_version 27 = .ok (.ireturn, 1) := by decide +kernel
theorem qd_X_version_28 : decode qb_X_version 28 = .ok (.iload_n 1, 1) := by decide +kernel
theorem qd_X_version_29 : decode qb_X_version 29 = .ok (.iload_n 2, 1) := by decide +kernel
theorem qd_X_version_30 : decode qb_X_version 30 = .ok (.invokestatic 75, 3) := by decide +kernel
theorem qd_X_version_33 : decode qb_X_version 33 = .ok (.istore 5, 2) := by decide +kernel
theorem qd_X_version_35 : decode qb_X_version 35 = .ok (.iload_n 3, 1) := by decide +kernel
theorem qd_X_version_36 : decode qb_X_version 36 = .ok (.ifCond .lt 16, 3) := by decide +kernel
theorem qd_X_version_39 : decode qb_X_version 39 = .ok (.iload_n 3, 1) := by decide +kernel
theorem qd_X_version_40 : decode qb_X_version 40 = .ok (.aload_n 0, 1) := by decide +kernel
theorem qd_X_version_41 : decode qb_X_version 41 = .ok (.getfield 19, 3) := by decide +kernel
theorem qd_X_version_44 : decode qb_X_version 44 = .ok (.iload 5, 2) := by decide +kernel
theorem qd_X_version_46 : decode qb_X_version 46 = .ok (.invokevirtual 87, 3) := by decide +kernel
theorem qd_X_version_49 : decode qb_X_version 49 = .ok (.if_icmp .lt 5, 3) := by decide +kernel
theorem qd_X_version_52 : decode qb_X_version 52 = .ok (.iconst (-1), 1) := by decide +kernel
theorem qd_X_version_53 : decode qb_X_version 53 = .ok (.ireturn, 1) := by decide +kernel
theorem qd_X_version_54 : decode qb_X_version 54 = .ok (.aload_n 0, 1) := by decide +kernel
theorem qd_X_version_55 : decode qb_X_version 55 = .ok (.getfield 19, 3) := by decide +kernel
theorem qd_X_version_58 : decode qb_X_version 58 = .ok (.aload_n 0, 1) := by decide +kernel
theorem qd_X_version_59 : decode qb_X_version 59 = .ok (.getfield 19, 3) := by decide +kernel
theorem qd_X_version_62 : decode qb_X_version 62 = .ok (.iload 5, 2) := by decide +kernel
theorem qd_X_version_64 : decode qb_X_version 64 = .ok (.invokevirtual 126, 3) := by decide +kernel
theorem qd_X_version_67 : decode qb_X_version 67 = .ok (.iload_n 3, 1) := by decide +kernel
theorem qd_X_version_68 : decode qb_X_version 68 = .ok (.iadd, 1) := by decide +kernel
theorem qd_X_version_69 : decode qb_X_version 69 = .ok (.iload 4, 2) := by decide +kernel
theorem qd_X_version_71 : decode qb_X_version 71 = .ok (.invokevirtual 125, 3) := by decide +kernel
theorem qd_X_version_74 : decode qb_X_version 74 = .ok (.ireturn, 1) := by decide +kernel
theorem qd_X_there_0 : decode qb_X_there 0 = .ok (.iload_n 1, 1) := by decide +kernel
theorem qd_X_there_1 : decode qb_X_there 1 = .ok (.ifCond .lt 24, 3) := by decide +kernel
theorem qd_X_there_4 : decode qb_X_there 4 = .ok (.iload_n 1, 1) := by decide +kernel
theorem qd_X_there_5 : decode qb_X_there 5 = .ok (.aload_n 0, 1) := by decide +kernel
theorem qd_X_there_6 : decode qb_X_there 6 = .ok (.getfield 26, 3) := by decide +kernel
theorem qd_X_there_9 : decode qb_X_there 9 = .ok (.invokevirtual 94, 3) := by decide +kernel
theorem qd_X_there_12 : decode qb_X_there 12 = .ok (.if_icmp .ge 13, 3) := by decide +kernel
theorem qd_X_there_15 : decode qb_X_there 15 = .ok (.iload_n 2, 1) := by decide +kernel
theorem qd_X_there_16 : decode qb_X_there 16 = .ok (.ifCond .lt 9, 3) := by decide +kernel
theorem qd_X_there_19 : decode qb_X_there 19 = .ok (.iload_n 2, 1) := by decide +kernel
theorem qd_X_there_20 : decode qb_X_there 20 = .ok (.bipush 6, 2) := by decide +kernel
theorem qd_X_there_22 : decode qb_X_there 22 = .ok (.if_icmp .lt 5, 3) := by decide +kernel
theorem qd_X_there_25 : decode qb_X_there 25 = .ok (.iconst (-1), 1) := by decide +kernel
theorem qd_X_there_26 : decode qb_X_there 26 = .ok (.ireturn, 1) := by decide +kernel
theorem qd_X_there_27 : decode qb_X_there 27 = .ok (.aload_n 0, 1) := by decide +kernel
theorem qd_X_there_28 : decode qb_X_there 28 = .ok (.getfield 26, 3) := by decide +kernel
theorem qd_X_there_31 : decode qb_X_there 31 = .ok (.iload_n 1, 1) := by decide +kernel
theorem qd_X_there_32 : decode qb_X_there 32 = .ok (.iload_n 2, 1) := by decide +kernel
theorem qd_X_there_33 : decode qb_X_there 33 = .ok (.invokevirtual 129, 3) := by decide +kernel
theorem qd_X_there_36 : decode qb_X_there 36 = .ok (.ireturn, 1) := by decide +kernel
theorem qd_X_count_0 : decode qb_X_count 0 = .ok (.iload_n 1, 1) := by decide +kernel
theorem qd_X_count_1 : decode qb_X_count 1 = .ok (.tableswitch 203 0 17 #[87, 92, 100, 108, 116, 121, 129, 137, 142, 147, 152, 157, 163, 169, 175, 182, 189, 196], 87) := by decide +kernel
theorem qd_X_count_88 : decode qb_X_count 88 = .ok (.aload_n 0, 1) := by decide +kernel
theorem qd_X_count_89 : decode qb_X_count 89 = .ok (.getfield 40, 3) := by decide +kernel
theorem qd_X_count_92 : decode qb_X_count 92 = .ok (.ireturn, 1) := by decide +kernel
theorem qd_X_count_93 : decode qb_X_count 93 = .ok (.aload_n 0, 1) := by decide +kernel
theorem qd_X_count_94 : decode qb_X_count 94 = .ok (.getfield 19, 3) := by decide +kernel
theorem qd_X_count_97 : decode qb_X_count 97 = .ok (.invokevirtual 68, 3) := by decide +kernel
theorem qd_X_count_100 : decode qb_X_count 100 = .ok (.ireturn, 1) := by decide +kernel
theorem qd_X_count_101 : decode qb_X_count 101 = .ok (.aload_n 0, 1) := by decide +kernel
theorem qd_X_count_102 : decode qb_X_count 102 = .ok (.getfield 26, 3) := by decide +kernel
theorem qd_X_count_105 : decode qb_X_count 105 = .ok (.invokevirtual 94, 3) := by decide +kernel
theorem qd_X_count_108 : decode qb_X_count 108 = .ok (.ireturn, 1) := by decide +kernel
theorem qd_X_count_109 : decode qb_X_count 109 = .ok (.aload_n 0, 1) := by decide +kernel
theorem qd_X_count_110 : decode qb_X_count 110 = .ok (.getfield 26, 3) := by decide +kernel
theorem qd_X_count_113 : decode qb_X_count 113 = .ok (.invokevirtual 130, 3) := by decide +kernel
theorem qd_X_count_116 : decode qb_X_count 116 = .ok (.ireturn, 1) := by decide +kernel
theorem qd_X_count_117 : decode qb_X_count 117 = .ok (.aload_n 0, 1) := by decide +kernel
theorem qd_X_count_118 : decode qb_X_count 118 = .ok (.getfield 95, 3) := by decide +kernel
theorem qd_X_count_121 : decode qb_X_count 121 = .ok (.ireturn, 1) := by decide +kernel
theorem qd_X_count_122 : decode qb_X_count 122 = .ok (.aload_n 0, 1) := by decide +kernel
theorem qd_X_count_123 : decode qb_X_count 123 = .ok (.getfield 33, 3) := by decide +kernel
theorem qd_X_count_126 : decode qb_X_count 126 = .ok (.getfield 133, 3) := by decide +kernel
theorem qd_X_count_129 : decode qb_X_count 129 = .ok (.ireturn, 1) := by decide +kernel
theorem qd_X_count_130 : decode qb_X_count 130 = .ok (.aload_n 0, 1) := by decide +kernel
theorem qd_X_count_131 : decode qb_X_count 131 = .ok (.getfield 33, 3) := by decide +kernel
theorem qd_X_count_134 : decode qb_X_count 134 = .ok (.getfield 136, 3) := by decide +kernel
theorem qd_X_count_137 : decode qb_X_count 137 = .ok (.ireturn, 1) := by decide +kernel
theorem qd_X_count_138 : decode qb_X_count 138 = .ok (.aload_n 0, 1) := by decide +kernel
theorem qd_X_count_139 : decode qb_X_count 139 = .ok (.getfield 106, 3) := by decide +kernel
theorem qd_X_count_142 : decode qb_X_count 142 = .ok (.ireturn, 1) := by decide +kernel
theorem qd_X_count_143 : decode qb_X_count 143 = .ok (.aload_n 0, 1) := by decide +kernel
theorem qd_X_count_144 : decode qb_X_count 144 = .ok (.getfield 139, 3) := by decide +kernel
theorem qd_X_count_147 : decode qb_X_count 147 = .ok (.ireturn, 1) := by decide +kernel
theorem qd_X_count_148 : decode qb_X_count 148 = .ok (.aload_n 0, 1) := by decide +kernel
theorem qd_X_count_149 : decode qb_X_count 149 = .ok (.getfield 65, 3) := by decide +kernel
theorem qd_X_count_152 : decode qb_X_count 152 = .ok (.ireturn, 1) := by decide +kernel
theorem qd_X_count_153 : decode qb_X_count 153 = .ok (.aload_n 0, 1) := by decide +kernel
theorem qd_X_count_154 : decode qb_X_count 154 = .ok (.getfield 91, 3) := by decide +kernel
theorem qd_X_count_157 : decode qb_X_count 157 = .ok (.ireturn, 1) := by decide +kernel
theorem qd_X_count_158 : decode qb_X_count 158 = .ok (.aload_n 0, 1) := by decide +kernel
theorem qd_X_count_159 : decode qb_X_count 159 = .ok (.iconst 0, 1) := by decide +kernel
theorem qd_X_count_160 : decode qb_X_count 160 = .ok (.invokevirtual 142, 3) := by decide +kernel
theorem qd_X_count_163 : decode qb_X_count 163 = .ok (.ireturn, 1) := by decide +kernel
theorem qd_X_count_164 : decode qb_X_count 164 = .ok (.aload_n 0, 1) := by decide +kernel
theorem qd_X_count_165 : decode qb_X_count 165 = .ok (.iconst 1, 1) := by decide +kernel
theorem qd_X_count_166 : decode qb_X_count 166 = .ok (.invokevirtual 142, 3) := by decide +kernel
theorem qd_X_count_169 : decode qb_X_count 169 = .ok (.ireturn, 1) := by decide +kernel
theorem qd_X_count_170 : decode qb_X_count 170 = .ok (.aload_n 0, 1) := by decide +kernel
theorem qd_X_count_171 : decode qb_X_count 171 = .ok (.iconst 2, 1) := by decide +kernel
theorem qd_X_count_172 : decode qb_X_count 172 = .ok (.invokevirtual 142, 3) := by decide +kernel
theorem qd_X_count_175 : decode qb_X_count 175 = .ok (.ireturn, 1) := by decide +kernel
theorem qd_X_count_176 : decode qb_X_count 176 = .ok (.aload_n 0, 1) := by decide +kernel
theorem qd_X_count_177 : decode qb_X_count 177 = .ok (.getfield 9, 3) := by decide +kernel
theorem qd_X_count_180 : decode qb_X_count 180 = .ok (.iconst 0, 1) := by decide +kernel
theorem qd_X_count_181 : decode qb_X_count 181 = .ok (.iaload, 1) := by decide +kernel
theorem qd_X_count_182 : decode qb_X_count 182 = .ok (.ireturn, 1) := by decide +kernel
theorem qd_X_count_183 : decode qb_X_count 183 = .ok (.aload_n 0, 1) := by decide +kernel
theorem qd_X_count_184 : decode qb_X_count 184 = .ok (.getfield 9, 3) := by decide +kernel
theorem qd_X_count_187 : decode qb_X_count 187 = .ok (.iconst 1, 1) := by decide +kernel
theorem qd_X_count_188 : decode qb_X_count 188 = .ok (.iaload, 1) := by decide +kernel
theorem qd_X_count_189 : decode qb_X_count 189 = .ok (.ireturn, 1) := by decide +kernel
theorem qd_X_count_190 : decode qb_X_count 190 = .ok (.aload_n 0, 1) := by decide +kernel
theorem qd_X_count_191 : decode qb_X_count 191 = .ok (.getfield 9, 3) := by decide +kernel
theorem qd_X_count_194 : decode qb_X_count 194 = .ok (.iconst 2, 1) := by decide +kernel
theorem qd_X_count_195 : decode qb_X_count 195 = .ok (.iaload, 1) := by decide +kernel
theorem qd_X_count_196 : decode qb_X_count 196 = .ok (.ireturn, 1) := by decide +kernel
theorem qd_X_count_197 : decode qb_X_count 197 = .ok (.aload_n 0, 1) := by decide +kernel
theorem qd_X_count_198 : decode qb_X_count 198 = .ok (.getfield 9, 3) := by decide +kernel
theorem qd_X_count_201 : decode qb_X_count 201 = .ok (.iconst 3, 1) := by decide +kernel
theorem qd_X_count_202 : decode qb_X_count 202 = .ok (.iaload, 1) := by decide +kernel
theorem qd_X_count_203 : decode qb_X_count 203 = .ok (.ireturn, 1) := by decide +kernel
theorem qd_X_count_204 : decode qb_X_count 204 = .ok (.iconst (-1), 1) := by decide +kernel
theorem qd_X_count_205 : decode qb_X_count 205 = .ok (.ireturn, 1) := by decide +kernel
theorem qd_X_isTable_0 : decode qb_X_isTable 0 = .ok (.iload_n 1, 1) := by decide +kernel
theorem qd_X_isTable_1 : decode qb_X_isTable 1 = .ok (.ifCond .lt 20, 3) := by decide +kernel
theorem qd_X_isTable_4 : decode qb_X_isTable 4 = .ok (.iload_n 1, 1) := by decide +kernel
theorem qd_X_isTable_5 : decode qb_X_isTable 5 = .ok (.aload_n 0, 1) := by decide +kernel
theorem qd_X_isTable_6 : decode qb_X_isTable 6 = .ok (.getfield 40, 3) := by decide +kernel
theorem qd_X_isTable_9 : decode qb_X_isTable 9 = .ok (.if_icmp .ge 12, 3) := by decide +kernel
theorem qd_X_isTable_12 : decode qb_X_isTable 12 = .ok (.iload_n 1, 1) := by decide +kernel
theorem qd_X_isTable_13 : decode qb_X_isTable 13 = .ok (.iconst 3, 1) := by decide +kernel
theorem qd_X_isTable_14 : decode qb_X_isTable 14 = .ok (.if_icmp .ge 7, 3) := by decide +kernel
theorem qd_X_isTable_17 : decode qb_X_isTable 17 = .ok (.iconst 1, 1) := by decide +kernel
theorem qd_X_isTable_18 : decode qb_X_isTable 18 = .ok (.goto (4), 3) := by decide +kernel
theorem qd_X_isTable_21 : decode qb_X_isTable 21 = .ok (.iconst 0, 1) := by decide +kernel
theorem qd_X_isTable_22 : decode qb_X_isTable 22 = .ok (.ireturn, 1) := by decide +kernel
theorem qd_X_isKey_0 : decode qb_X_isKey 0 = .ok (.iload_n 0, 1) := by decide +kernel
theorem qd_X_isKey_1 : decode qb_X_isKey 1 = .ok (.ifCond .lt 13, 3) := by decide +kernel
theorem qd_X_isKey_4 : decode qb_X_isKey 4 = .ok (.iload_n 0, 1) := by decide +kernel
theorem qd_X_isKey_5 : decode qb_X_isKey 5 = .ok (.bipush 16, 2) := by decide +kernel
theorem qd_X_isKey_7 : decode qb_X_isKey 7 = .ok (.if_icmp .ge 7, 3) := by decide +kernel
theorem qd_X_isKey_10 : decode qb_X_isKey 10 = .ok (.iconst 1, 1) := by decide +kernel
theorem qd_X_isKey_11 : decode qb_X_isKey 11 = .ok (.goto (4), 3) := by decide +kernel
theorem qd_X_isKey_14 : decode qb_X_isKey 14 = .ok (.iconst 0, 1) := by decide +kernel
theorem qd_X_isKey_15 : decode qb_X_isKey 15 = .ok (.ireturn, 1) := by decide +kernel
theorem qd_X_isTime_0 : decode qb_X_isTime 0 = .ok (.iload_n 0, 1) := by decide +kernel
theorem qd_X_isTime_1 : decode qb_X_isTime 1 = .ok (.iconst 1, 1) := by decide +kernel
theorem qd_X_isTime_2 : decode qb_X_isTime 2 = .ok (.if_icmp .lt 13, 3) := by decide +kernel
theorem qd_X_isTime_5 : decode qb_X_isTime 5 = .ok (.iload_n 0, 1) := by decide +kernel
theorem qd_X_isTime_6 : decode qb_X_isTime 6 = .ok (.ldc 105, 2) := by decide +kernel
theorem qd_X_isTime_8 : decode qb_X_isTime 8 = .ok (.if_icmp .gt 7, 3) := by decide +kernel
theorem qd_X_isTime_11 : decode qb_X_isTime 11 = .ok (.iconst 1, 1) := by decide +kernel
theorem qd_X_isTime_12 : decode qb_X_isTime 12 = .ok (.goto (4), 3) := by decide +kernel
theorem qd_X_isTime_15 : decode qb_X_isTime 15 = .ok (.iconst 0, 1) := by decide +kernel
theorem qd_X_isTime_16 : decode qb_X_isTime 16 = .ok (.ireturn, 1) := by decide +kernel
theorem qd_X_isValue_0 : decode qb_X_isValue 0 = .ok (.iload_n 0, 1) := by decide +kernel
theorem qd_X_isValue_1 : decode qb_X_isValue 1 = .ok (.ifCond .lt 14, 3) := by decide +kernel
theorem qd_X_isValue_4 : decode qb_X_isValue 4 = .ok (.iload_n 0, 1) := by decide +kernel
theorem qd_X_isValue_5 : decode qb_X_isValue 5 = .ok (.sipush 1000, 3) := by decide +kernel
theorem qd_X_isValue_8 : decode qb_X_isValue 8 = .ok (.if_icmp .gt 7, 3) := by decide +kernel
theorem qd_X_isValue_11 : decode qb_X_isValue 11 = .ok (.iconst 1, 1) := by decide +kernel
theorem qd_X_isValue_12 : decode qb_X_isValue 12 = .ok (.goto (4), 3) := by decide +kernel
theorem qd_X_isValue_15 : decode qb_X_isValue 15 = .ok (.iconst 0, 1) := by decide +kernel
theorem qd_X_isValue_16 : decode qb_X_isValue 16 = .ok (.ireturn, 1) := by decide +kernel
theorem qd_X_placeOf_0 : decode qb_X_placeOf 0 = .ok (.iload_n 0, 1) := by decide +kernel
theorem qd_X_placeOf_1 : decode qb_X_placeOf 1 = .ok (.bipush 16, 2) := by decide +kernel
theorem qd_X_placeOf_3 : decode qb_X_placeOf 3 = .ok (.imul, 1) := by decide +kernel
theorem qd_X_placeOf_4 : decode qb_X_placeOf 4 = .ok (.iload_n 1, 1) := by decide +kernel
theorem qd_X_placeOf_5 : decode qb_X_placeOf 5 = .ok (.iadd, 1) := by decide +kernel
theorem qd_X_placeOf_6 : decode qb_X_placeOf 6 = .ok (.ireturn, 1) := by decide +kernel
theorem qd_X_markOrNone_0 : decode qb_X_markOrNone 0 = .ok (.aload_n 0, 1) := by decide +kernel
theorem qd_X_markOrNone_1 : decode qb_X_markOrNone 1 = .ok (.iload_n 1, 1) := by decide +kernel
theorem qd_X_markOrNone_2 : decode qb_X_markOrNone 2 = .ok (.invokevirtual 48, 3) := by decide +kernel
theorem qd_X_markOrNone_5 : decode qb_X_markOrNone 5 = .ok (.ifCond .eq 12, 3) := by decide +kernel
theorem qd_X_markOrNone_8 : decode qb_X_markOrNone 8 = .ok (.aload_n 0, 1) := by decide +kernel
theorem qd_X_markOrNone_9 : decode qb_X_markOrNone 9 = .ok (.getfield 13, 3) := by decide +kernel
theorem qd_X_markOrNone_12 : decode qb_X_markOrNone 12 = .ok (.iload_n 1, 1) := by decide +kernel
theorem qd_X_markOrNone_13 : decode qb_X_markOrNone 13 = .ok (.iaload, 1) := by decide +kernel
theorem qd_X_markOrNone_14 : decode qb_X_markOrNone 14 = .ok (.goto (5), 3) := by decide +kernel
theorem qd_X_markOrNone_17 : decode qb_X_markOrNone 17 = .ok (.bipush (-2), 2) := by decide +kernel
theorem qd_X_markOrNone_19 : decode qb_X_markOrNone 19 = .ok (.ireturn, 1) := by decide +kernel
theorem qd_X_horizon_0 : decode qb_X_horizon 0 = .ok (.aload_n 0, 1) := by decide +kernel
theorem qd_X_horizon_1 : decode qb_X_horizon 1 = .ok (.getfield 91, 3) := by decide +kernel
theorem qd_X_horizon_4 : decode qb_X_horizon 4 = .ok (.aload_n 0, 1) := by decide +kernel
theorem qd_X_horizon_5 : decode qb_X_horizon 5 = .ok (.getfield 9, 3) := by decide +kernel
theorem qd_X_horizon_8 : decode qb_X_horizon 8 = .ok (.iconst 3, 1) := by decide +kernel
theorem qd_X_horizon_9 : decode qb_X_horizon 9 = .ok (.iaload, 1) := by decide +kernel
theorem qd_X_horizon_10 : decode qb_X_horizon 10 = .ok (.isub, 1) := by decide +kernel
theorem qd_X_horizon_11 : decode qb_X_horizon 11 = .ok (.ireturn, 1) := by decide +kernel
theorem qd_X_isLateChange_0 : decode qb_X_isLateChange 0 = .ok (.aload_n 0, 1) := by decide +kernel
theorem qd_X_isLateChange_1 : decode qb_X_isLateChange 1 = .ok (.iload_n 1, 1) := by decide +kernel
theorem qd_X_isLateChange_2 : decode qb_X_isLateChange 2 = .ok (.invokevirtual 48, 3) := by decide +kernel
theorem qd_X_isLateChange_5 : decode qb_X_isLateChange 5 = .ok (.ifCond .eq 13, 3) := by decide +kernel
theorem qd_X_isLateChange_8 : decode qb_X_isLateChange 8 = .ok (.iload_n 2, 1) := by decide +kernel
theorem qd_X_isLateChange_9 : decode qb_X_isLateChange 9 = .ok (.aload_n 0, 1) := by decide +kernel
theorem qd_X_isLateChange_10 : decode qb_X_isLateChange 10 = .ok (.getfield 13, 3) := by decide +kernel
theorem qd_X_isLateChange_13 : decode qb_X_isLateChange 13 = .ok (.iload_n 1, 1) := by decide +kernel
theorem qd_X_isLateChange_14 : decode qb_X_isLateChange 14 = .ok (.iaload, 1) := by decide +kernel
theorem qd_X_isLateChange_15 : decode qb_X_isLateChange 15 = .ok (.if_icmp .le 5, 3) := by decide +kernel
theorem qd_X_isLateChange_18 : decode qb_X_isLateChange 18 = .ok (.iconst 0, 1) := by decide +kernel
theorem qd_X_isLateChange_19 : decode qb_X_isLateChange 19 = .ok (.ireturn, 1) := by decide +kernel
theorem qd_X_isLateChange_20 : decode qb_X_isLateChange 20 = .ok (.aload_n 0, 1) := by decide +kernel
theorem qd_X_isLateChange_21 : decode qb_X_isLateChange 21 = .ok (.getfield 9, 3) := by decide +kernel
theorem qd_X_isLateChange_24 : decode qb_X_isLateChange 24 = .ok (.iconst 1, 1) := by decide +kernel
theorem qd_X_isLateChange_25 : decode qb_X_isLateChange 25 = .ok (.iaload, 1) := by decide +kernel
theorem qd_X_isLateChange_26 : decode qb_X_isLateChange 26 = .ok (.ifCond .eq 11, 3) := by decide +kernel
theorem qd_X_isLateChange_29 : decode qb_X_isLateChange 29 = .ok (.iload_n 2, 1) := by decide +kernel
theorem qd_X_isLateChange_30 : decode qb_X_isLateChange 30 = .ok (.aload_n 0, 1) := by decide +kernel
