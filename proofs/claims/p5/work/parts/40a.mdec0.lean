theorem qd_M_in_0 : decode qb_M_in 0 = .ok (.lload_n 0, 1) := by decide +kernel
theorem qd_M_in_1 : decode qb_M_in 1 = .ok (.lload_n 2, 1) := by decide +kernel
theorem qd_M_in_2 : decode qb_M_in 2 = .ok (.lcmp, 1) := by decide +kernel
theorem qd_M_in_3 : decode qb_M_in 3 = .ok (.ifCond .lt 14, 3) := by decide +kernel
theorem qd_M_in_6 : decode qb_M_in 6 = .ok (.lload_n 0, 1) := by decide +kernel
theorem qd_M_in_7 : decode qb_M_in 7 = .ok (.lload 4, 2) := by decide +kernel
theorem qd_M_in_9 : decode qb_M_in 9 = .ok (.lcmp, 1) := by decide +kernel
theorem qd_M_in_10 : decode qb_M_in 10 = .ok (.ifCond .gt 7, 3) := by decide +kernel
theorem qd_M_in_13 : decode qb_M_in 13 = .ok (.iconst 1, 1) := by decide +kernel
theorem qd_M_in_14 : decode qb_M_in 14 = .ok (.goto (4), 3) := by decide +kernel
theorem qd_M_in_17 : decode qb_M_in 17 = .ok (.iconst 0, 1) := by decide +kernel
theorem qd_M_in_18 : decode qb_M_in 18 = .ok (.ireturn, 1) := by decide +kernel
theorem qd_M_init_0 : decode qb_M_init 0 = .ok (.aload_n 0, 1) := by decide +kernel
theorem qd_M_init_1 : decode qb_M_init 1 = .ok (.invokespecial 7, 3) := by decide +kernel
theorem qd_M_init_4 : decode qb_M_init 4 = .ok (.aload_n 0, 1) := by decide +kernel
theorem qd_M_init_5 : decode qb_M_init 5 = .ok (.iconst 3, 1) := by decide +kernel
theorem qd_M_init_6 : decode qb_M_init 6 = .ok (.newarray .int, 2) := by decide +kernel
theorem qd_M_init_8 : decode qb_M_init 8 = .ok (.putfield 13, 3) := by decide +kernel
theorem qd_M_init_11 : decode qb_M_init 11 = .ok (.aload_n 0, 1) := by decide +kernel
theorem qd_M_init_12 : decode qb_M_init 12 = .ok (.sipush 640, 3) := by decide +kernel
theorem qd_M_init_15 : decode qb_M_init 15 = .ok (.newarray .int, 2) := by decide +kernel
theorem qd_M_init_17 : decode qb_M_init 17 = .ok (.putfield 17, 3) := by decide +kernel
theorem qd_M_init_20 : decode qb_M_init 20 = .ok (.aload_n 0, 1) := by decide +kernel
theorem qd_M_init_21 : decode qb_M_init 21 = .ok (.sipush 576, 3) := by decide +kernel
theorem qd_M_init_24 : decode qb_M_init 24 = .ok (.newarray .int, 2) := by decide +kernel
theorem qd_M_init_26 : decode qb_M_init 26 = .ok (.putfield 20, 3) := by decide +kernel
theorem qd_M_init_29 : decode qb_M_init 29 = .ok (.aload_n 0, 1) := by decide +kernel
theorem qd_M_init_30 : decode qb_M_init 30 = .ok (.sipush 576, 3) := by decide +kernel
theorem qd_M_init_33 : decode qb_M_init 33 = .ok (.newarray .int, 2) := by decide +kernel
theorem qd_M_init_35 : decode qb_M_init 35 = .ok (.putfield 23, 3) := by decide +kernel
theorem qd_M_init_38 : decode qb_M_init 38 = .ok (.aload_n 0, 1) := by decide +kernel
theorem qd_M_init_39 : decode qb_M_init 39 = .ok (.sipush 2200, 3) := by decide +kernel
theorem qd_M_init_42 : decode qb_M_init 42 = .ok (.newarray .int, 2) := by decide +kernel
theorem qd_M_init_44 : decode qb_M_init 44 = .ok (.putfield 26, 3) := by decide +kernel
theorem qd_M_init_47 : decode qb_M_init 47 = .ok (.aload_n 0, 1) := by decide +kernel
theorem qd_M_init_48 : decode qb_M_init 48 = .ok (.bipush 6, 2) := by decide +kernel
theorem qd_M_init_50 : decode qb_M_init 50 = .ok (.newarray .int, 2) := by decide +kernel
theorem qd_M_init_52 : decode qb_M_init 52 = .ok (.putfield 29, 3) := by decide +kernel
theorem qd_M_init_55 : decode qb_M_init 55 = .ok (.aload_n 0, 1) := by decide +kernel
theorem qd_M_init_56 : decode qb_M_init 56 = .ok (.sipush 160, 3) := by decide +kernel
theorem qd_M_init_59 : decode qb_M_init 59 = .ok (.newarray .boolean, 2) := by decide +kernel
theorem qd_M_init_61 : decode qb_M_init 61 = .ok (.putfield 32, 3) := by decide +kernel
theorem qd_M_init_64 : decode qb_M_init 64 = .ok (.aload_n 0, 1) := by decide +kernel
theorem qd_M_init_65 : decode qb_M_init 65 = .ok (.iconst 0, 1) := by decide +kernel
theorem qd_M_init_66 : decode qb_M_init 66 = .ok (.putfield 1, 3) := by decide +kernel
theorem qd_M_init_69 : decode qb_M_init 69 = .ok (.return_, 1) := by decide +kernel
theorem qd_M_horizon_0 : decode qb_M_horizon 0 = .ok (.aload_n 0, 1) := by decide +kernel
theorem qd_M_horizon_1 : decode qb_M_horizon 1 = .ok (.getfield 36, 3) := by decide +kernel
theorem qd_M_horizon_4 : decode qb_M_horizon 4 = .ok (.aload_n 0, 1) := by decide +kernel
theorem qd_M_horizon_5 : decode qb_M_horizon 5 = .ok (.getfield 39, 3) := by decide +kernel
theorem qd_M_horizon_8 : decode qb_M_horizon 8 = .ok (.isub, 1) := by decide +kernel
theorem qd_M_horizon_9 : decode qb_M_horizon 9 = .ok (.ireturn, 1) := by decide +kernel
theorem qd_M_table_0 : decode qb_M_table 0 = .ok (.aload_n 0, 1) := by decide +kernel
theorem qd_M_table_1 : decode qb_M_table 1 = .ok (.iconst 0, 1) := by decide +kernel
theorem qd_M_table_2 : decode qb_M_table 2 = .ok (.putfield 1, 3) := by decide +kernel
theorem qd_M_table_5 : decode qb_M_table 5 = .ok (.aload_n 0, 1) := by decide +kernel
theorem qd_M_table_6 : decode qb_M_table 6 = .ok (.getfield 42, 3) := by decide +kernel
theorem qd_M_table_9 : decode qb_M_table 9 = .ok (.iconst 3, 1) := by decide +kernel
theorem qd_M_table_10 : decode qb_M_table 10 = .ok (.if_icmp .ne 6, 3) := by decide +kernel
theorem qd_M_table_13 : decode qb_M_table 13 = .ok (.bipush (-3), 2) := by decide +kernel
theorem qd_M_table_15 : decode qb_M_table 15 = .ok (.ireturn, 1) := by decide +kernel
theorem qd_M_table_16 : decode qb_M_table 16 = .ok (.aload_n 0, 1) := by decide +kernel
theorem qd_M_table_17 : decode qb_M_table 17 = .ok (.getfield 45, 3) := by decide +kernel
theorem qd_M_table_20 : decode qb_M_table 20 = .ok (.ifCond .eq 6, 3) := by decide +kernel
theorem qd_M_table_23 : decode qb_M_table 23 = .ok (.bipush (-5), 2) := by decide +kernel
theorem qd_M_table_25 : decode qb_M_table 25 = .ok (.ireturn, 1) := by decide +kernel
theorem qd_M_table_26 : decode qb_M_table 26 = .ok (.aload_n 0, 1) := by decide +kernel
theorem qd_M_table_27 : decode qb_M_table 27 = .ok (.dup, 1) := by decide +kernel
theorem qd_M_table_28 : decode qb_M_table 28 = .ok (.getfield 42, 3) := by decide +kernel
theorem qd_M_table_31 : decode qb_M_table 31 = .ok (.iconst 1, 1) := by decide +kernel
theorem qd_M_table_32 : decode qb_M_table 32 = .ok (.iadd, 1) := by decide +kernel
theorem qd_M_table_33 : decode qb_M_table 33 = .ok (.putfield 42, 3) := by decide +kernel
theorem qd_M_table_36 : decode qb_M_table 36 = .ok (.aload_n 0, 1) := by decide +kernel
theorem qd_M_table_37 : decode qb_M_table 37 = .ok (.getfield 42, 3) := by decide +kernel
theorem qd_M_table_40 : decode qb_M_table 40 = .ok (.iconst 1, 1) := by decide +kernel
theorem qd_M_table_41 : decode qb_M_table 41 = .ok (.isub, 1) := by decide +kernel
theorem qd_M_table_42 : decode qb_M_table 42 = .ok (.ireturn, 1) := by decide +kernel
theorem qd_M_rule_0 : decode qb_M_rule 0 = .ok (.aload_n 0, 1) := by decide +kernel
theorem qd_M_rule_1 : decode qb_M_rule 1 = .ok (.iconst 0, 1) := by decide +kernel
theorem qd_M_rule_2 : decode qb_M_rule 2 = .ok (.putfield 1, 3) := by decide +kernel
theorem qd_M_rule_5 : decode qb_M_rule 5 = .ok (.iload_n 1, 1) := by decide +kernel
theorem qd_M_rule_6 : decode qb_M_rule 6 = .ok (.i2l, 1) := by decide +kernel
theorem qd_M_rule_7 : decode qb_M_rule 7 = .ok (.lconst 0, 1) := by decide +kernel
theorem qd_M_rule_8 : decode qb_M_rule 8 = .ok (.ldc2_w 49, 3) := by decide +kernel
theorem qd_M_rule_11 : decode qb_M_rule 11 = .ok (.invokestatic 51, 3) := by decide +kernel
theorem qd_M_rule_14 : decode qb_M_rule 14 = .ok (.ifCond .eq 24, 3) := by decide +kernel
theorem qd_M_rule_17 : decode qb_M_rule 17 = .ok (.iload_n 2, 1) := by decide +kernel
theorem qd_M_rule_18 : decode qb_M_rule 18 = .ok (.i2l, 1) := by decide +kernel
theorem qd_M_rule_19 : decode qb_M_rule 19 = .ok (.lconst 0, 1) := by decide +kernel
theorem qd_M_rule_20 : decode qb_M_rule 20 = .ok (.iload_n 1, 1) := by decide +kernel
theorem qd_M_rule_21 : decode qb_M_rule 21 = .ok (.iconst 3, 1) := by decide +kernel
theorem qd_M_rule_22 : decode qb_M_rule 22 = .ok (.if_icmp .ne 9, 3) := by decide +kernel
theorem qd_M_rule_25 : decode qb_M_rule 25 = .ok (.ldc2_w 55, 3) := by decide +kernel
theorem qd_M_rule_28 : decode qb_M_rule 28 = .ok (.goto (4), 3) := by decide +kernel
theorem qd_M_rule_31 : decode qb_M_rule 31 = .ok (.lconst 1, 1) := by decide +kernel
theorem qd_M_rule_32 : decode qb_M_rule 32 = .ok (.invokestatic 51, 3) := by decide +kernel
theorem qd_M_rule_35 : decode qb_M_rule 35 = .ok (.ifCond .ne 5, 3) := by decide +kernel
theorem qd_M_rule_38 : decode qb_M_rule 38 = .ok (.iconst (-1), 1) := by decide +kernel
theorem qd_M_rule_39 : decode qb_M_rule 39 = .ok (.ireturn, 1) := by decide +kernel
theorem qd_M_rule_40 : decode qb_M_rule 40 = .ok (.aload_n 0, 1) := by decide +kernel
theorem qd_M_rule_41 : decode qb_M_rule 41 = .ok (.getfield 45, 3) := by decide +kernel
theorem qd_M_rule_44 : decode qb_M_rule 44 = .ok (.ifCond .eq 6, 3) := by decide +kernel
theorem qd_M_rule_47 : decode qb_M_rule 47 = .ok (.bipush (-5), 2) := by decide +kernel
theorem qd_M_rule_49 : decode qb_M_rule 49 = .ok (.ireturn, 1) := by decide +kernel
theorem qd_M_rule_50 : decode qb_M_rule 50 = .ok (.iload_n 1, 1) := by decide +kernel
theorem qd_M_rule_51 : decode qb_M_rule 51 = .ok (.ifCond .ne 10, 3) := by decide +kernel
theorem qd_M_rule_54 : decode qb_M_rule 54 = .ok (.aload_n 0, 1) := by decide +kernel
theorem qd_M_rule_55 : decode qb_M_rule 55 = .ok (.getfield 57, 3) := by decide +kernel
theorem qd_M_rule_58 : decode qb_M_rule 58 = .ok (.goto (31), 3) := by decide +kernel
theorem qd_M_rule_61 : decode qb_M_rule 61 = .ok (.iload_n 1, 1) := by decide +kernel
theorem qd_M_rule_62 : decode qb_M_rule 62 = .ok (.iconst 1, 1) := by decide +kernel
theorem qd_M_rule_63 : decode qb_M_rule 63 = .ok (.if_icmp .ne 10, 3) := by decide +kernel
theorem qd_M_rule_66 : decode qb_M_rule 66 = .ok (.aload_n 0, 1) := by decide +kernel
theorem qd_M_rule_67 : decode qb_M_rule 67 = .ok (.getfield 60, 3) := by decide +kernel
theorem qd_M_rule_70 : decode qb_M_rule 70 = .ok (.goto (19), 3) := by decide +kernel
theorem qd_M_rule_73 : decode qb_M_rule 73 = .ok (.iload_n 1, 1) := by decide +kernel
theorem qd_M_rule_74 : decode qb_M_rule 74 = .ok (.iconst 2, 1) := by decide +kernel
theorem qd_M_rule_75 : decode qb_M_rule 75 = .ok (.if_icmp .ne 10, 3) := by decide +kernel
theorem qd_M_rule_78 : decode qb_M_rule 78 = .ok (.aload_n 0, 1) := by decide +kernel
theorem qd_M_rule_79 : decode qb_M_rule 79 = .ok (.getfield 63, 3) := by decide +kernel
theorem qd_M_rule_82 : decode qb_M_rule 82 = .ok (.goto (7), 3) := by decide +kernel
theorem qd_M_rule_85 : decode qb_M_rule 85 = .ok (.aload_n 0, 1) := by decide +kernel
theorem qd_M_rule_86 : decode qb_M_rule 86 = .ok (.getfield 39, 3) := by decide +kernel
theorem qd_M_rule_89 : decode qb_M_rule 89 = .ok (.istore_n 3, 1) := by decide +kernel
theorem qd_M_rule_90 : decode qb_M_rule 90 = .ok (.aload_n 0, 1) := by decide +kernel
theorem qd_M_rule_91 : decode qb_M_rule 91 = .ok (.iload_n 1, 1) := by decide +kernel
theorem qd_M_rule_92 : decode qb_M_rule 92 = .ok (.ifCond .ne 7, 3) := by decide +kernel
theorem qd_M_rule_95 : decode qb_M_rule 95 = .ok (.iload_n 2, 1) := by decide +kernel
theorem qd_M_rule_96 : decode qb_M_rule 96 = .ok (.goto (7), 3) := by decide +kernel
theorem qd_M_rule_99 : decode qb_M_rule 99 = .ok (.aload_n 0, 1) := by decide +kernel
theorem qd_M_rule_100 : decode qb_M_rule 100 = .ok (.getfield 57, 3) := by decide +kernel
theorem qd_M_rule_103 : decode qb_M_rule 103 = .ok (.putfield 57, 3) := by decide +kernel
theorem qd_M_rule_106 : decode qb_M_rule 106 = .ok (.aload_n 0, 1) := by decide +kernel
theorem qd_M_rule_107 : decode qb_M_rule 107 = .ok (.iload_n 1, 1) := by decide +kernel
theorem qd_M_rule_108 : decode qb_M_rule 108 = .ok (.iconst 1, 1) := by decide +kernel
theorem qd_M_rule_109 : decode qb_M_rule 109 = .ok (.if_icmp .ne 7, 3) := by decide +kernel
theorem qd_M_rule_112 : decode qb_M_rule 112 = .ok (.iload_n 2, 1) := by decide +kernel
theorem qd_M_rule_113 : decode qb_M_rule 113 = .ok (.goto (7), 3) := by decide +kernel
theorem qd_M_rule_116 : decode qb_M_rule 116 = .ok (.aload_n 0, 1) := by decide +kernel
theorem qd_M_rule_117 : decode qb_M_rule 117 = .ok (.getfield 60, 3) := by decide +kernel
theorem qd_M_rule_120 : decode qb_M_rule 120 = .ok (.putfield 60, 3) := by decide +kernel
theorem qd_M_rule_123 : decode qb_M_rule 123 = .ok (.aload_n 0, 1) := by decide +kernel
theorem qd_M_rule_124 : decode qb_M_rule 124 = .ok (.iload_n 1, 1) := by decide +kernel
theorem qd_M_rule_125 : decode qb_M_rule 125 = .ok (.iconst 2, 1) := by decide +kernel
theorem qd_M_rule_126 : decode qb_M_rule 126 = .ok (.if_icmp .ne 7, 3) := by decide +kernel
theorem qd_M_rule_129 : decode qb_M_rule 129 = .ok (.iload_n 2, 1) := by decide +kernel
theorem qd_M_rule_130 : decode qb_M_rule 130 = .ok (.goto (7), 3) := by decide +kernel
theorem qd_M_rule_133 : decode qb_M_rule 133 = .ok (.aload_n 0, 1) := by decide +kernel
theorem qd_M_rule_134 : decode qb_M_rule 134 = .ok (.getfield 63, 3) := by decide +kernel
theorem qd_M_rule_137 : decode qb_M_rule 137 = .ok (.putfield 63, 3) := by decide +kernel
theorem qd_M_rule_140 : decode qb_M_rule 140 = .ok (.aload_n 0, 1) := by decide +kernel
theorem qd_M_rule_141 : decode qb_M_rule 141 = .ok (.iload_n 1, 1) := by decide +kernel
theorem qd_M_rule_142 : decode qb_M_rule 142 = .ok (.iconst 3, 1) := by decide +kernel
theorem qd_M_rule_143 : decode qb_M_rule 143 = .ok (.if_icmp .ne 7, 3) := by decide +kernel
theorem qd_M_rule_146 : decode qb_M_rule 146 = .ok (.iload_n 2, 1) := by decide +kernel
theorem qd_M_rule_147 : decode qb_M_rule 147 = .ok (.goto (7), 3) := by decide +kernel
theorem qd_M_rule_150 : decode qb_M_rule 150 = .ok (.aload_n 0, 1) := by decide +kernel
theorem qd_M_rule_151 : decode qb_M_rule 151 = .ok (.getfield 39, 3) := by decide +kernel
theorem qd_M_rule_154 : decode qb_M_rule 154 = .ok (.putfield 39, 3) := by decide +kernel
theorem qd_M_rule_157 : decode qb_M_rule 157 = .ok (.iload_n 3, 1) := by decide +kernel
theorem qd_M_rule_158 : decode qb_M_rule 158 = .ok (.ireturn, 1) := by decide +kernel
theorem qd_M_isOf_0 : decode qb_M_isOf 0 = .ok (.aload_n 0, 1) := by decide +kernel
theorem qd_M_isOf_1 : decode qb_M_isOf 1 = .ok (.getfield 17, 3) := by decide +kernel
theorem qd_M_isOf_4 : decode qb_M_isOf 4 = .ok (.iconst 4, 1) := by decide +kernel
theorem qd_M_isOf_5 : decode qb_M_isOf 5 = .ok (.iload_n 1, 1) := by decide +kernel
theorem qd_M_isOf_6 : decode qb_M_isOf 6 = .ok (.imul, 1) := by decide +kernel
theorem qd_M_isOf_7 : decode qb_M_isOf 7 = .ok (.iaload, 1) := by decide +kernel
theorem qd_M_isOf_8 : decode qb_M_isOf 8 = .ok (.iload_n 2, 1) := by decide +kernel
theorem qd_M_isOf_9 : decode qb_M_isOf 9 = .ok (.if_icmp .ne 21, 3) := by decide +kernel
theorem qd_M_isOf_12 : decode qb_M_isOf 12 = .ok (.aload_n 0, 1) := by decide +kernel
theorem qd_M_isOf_13 : decode qb_M_isOf 13 = .ok (.getfield 17, 3) := by decide +kernel
theorem qd_M_isOf_16 : decode qb_M_isOf 16 = .ok (.iconst 4, 1) := by decide +kernel
theorem qd_M_isOf_17 : decode qb_M_isOf 17 = .ok (.iload_n 1, 1) := by decide +kernel
theorem qd_M_isOf_18 : decode qb_M_isOf 18 = .ok (.imul, 1) := by decide +kernel
theorem qd_M_isOf_19 : decode qb_M_isOf 19 = .ok (.iconst 1, 1) := by decide +kernel
theorem qd_M_isOf_20 : decode qb_M_isOf 20 = .ok (.iadd, 1) := by decide +kernel
theorem qd_M_isOf_21 : decode qb_M_isOf 21 = .ok (.iaload, 1) := by decide +kernel
theorem qd_M_isOf_22 : decode qb_M_isOf 22 = .ok (.iload_n 3, 1) := by decide +kernel
theorem qd_M_isOf_23 : decode qb_M_isOf 23 = .ok (.if_icmp .ne 7, 3) := by decide +kernel
theorem qd_M_isOf_26 : decode qb_M_isOf 26 = .ok (.iconst 1, 1) := by decide +kernel
theorem qd_M_isOf_27 : decode qb_M_isOf 27 = .ok (.goto (4), 3) := by decide +kernel
theorem qd_M_isOf_30 : decode qb_M_isOf 30 = .ok (.iconst 0, 1) := by decide +kernel
theorem qd_M_isOf_31 : decode qb_M_isOf 31 = .ok (.ireturn, 1) := by decide +kernel
theorem qd_M_reaches_0 : decode qb_M_reaches 0 = .ok (.aload_n 0, 1) := by decide +kernel
theorem qd_M_reaches_1 : decode qb_M_reaches 1 = .ok (.getfield 57, 3) := by decide +kernel
theorem qd_M_reaches_4 : decode qb_M_reaches 4 = .ok (.ifCond .ne 16, 3) := by decide +kernel
theorem qd_M_reaches_7 : decode qb_M_reaches 7 = .ok (.iload_n 1, 1) := by decide +kernel
theorem qd_M_reaches_8 : decode qb_M_reaches 8 = .ok (.iload_n 2, 1) := by decide +kernel
theorem qd_M_reaches_9 : decode qb_M_reaches 9 = .ok (.if_icmp .gt 7, 3) := by decide +kernel
theorem qd_M_reaches_12 : decode qb_M_reaches 12 = .ok (.iconst 1, 1) := by decide +kernel
theorem qd_M_reaches_13 : decode qb_M_reaches 13 = .ok (.goto (17), 3) := by decide +kernel
theorem qd_M_reaches_16 : decode qb_M_reaches 16 = .ok (.iconst 0, 1) := by decide +kernel
theorem qd_M_reaches_17 : decode qb_M_reaches 17 = .ok (.goto (13), 3) := by decide +kernel
theorem qd_M_reaches_20 : decode qb_M_reaches 20 = .ok (.iload_n 1, 1) := by decide +kernel
theorem qd_M_reaches_21 : decode qb_M_reaches 21 = .ok (.iload_n 2, 1) := by decide +kernel
theorem qd_M_reaches_22 : decode qb_M_reaches 22 = .ok (.if_icmp .ge 7, 3) := by decide +kernel
theorem qd_M_reaches_25 : decode qb_M_reaches 25 = .ok (.iconst 1, 1) := by decide +kernel
theorem qd_M_reaches_26 : decode qb_M_reaches 26 = .ok (.goto (4), 3) := by decide +kernel
theorem qd_M_reaches_29 : decode qb_M_reaches 29 = .ok (.iconst 0, 1) := by decide +kernel
theorem qd_M_reaches_30 : decode qb_M_reaches 30 = .ok (.ireturn, 1) := by decide +kernel
theorem qd_M_latest_0 : decode qb_M_latest 0 = .ok (.bipush (-2), 2) := by decide +kernel
theorem qd_M_latest_2 : decode qb_M_latest 2 = .ok (.istore 4, 2) := by decide +kernel
theorem qd_M_latest_4 : decode qb_M_latest 4 = .ok (.iconst 0, 1) := by decide +kernel
theorem qd_M_latest_5 : decode qb_M_latest 5 = .ok (.istore 5, 2) := by decide +kernel
theorem qd_M_latest_7 : decode qb_M_latest 7 = .ok (.iload 5, 2) := by decide +kernel
theorem qd_M_latest_9 : decode qb_M_latest 9 = .ok (.aload_n 0, 1) := by decide +kernel
theorem qd_M_latest_10 : decode qb_M_latest 10 = .ok (.getfield 66, 3) := by decide +kernel
theorem qd_M_latest_13 : decode qb_M_latest 13 = .ok (.if_icmp .ge 78, 3) := by decide +kernel
theorem qd_M_latest_16 : decode qb_M_latest 16 = .ok (.aload_n 0, 1) := by decide +kernel
theorem qd_M_latest_17 : decode qb_M_latest 17 = .ok (.iload 5, 2) := by decide +kernel
theorem qd_M_latest_19 : decode qb_M_latest 19 = .ok (.iload_n 1, 1) := by decide +kernel
theorem qd_M_latest_20 : decode qb_M_latest 20 = .ok (.iload_n 2, 1) := by decide +kernel
theorem qd_M_latest_21 : decode qb_M_latest 21 = .ok (.invokevirtual 69, 3) := by decide +kernel
theorem qd_M_latest_24 : decode qb_M_latest 24 = .ok (.ifCond .eq 61, 3) := by decide +kernel
theorem qd_M_latest_27 : decode qb_M_latest 27 = .ok (.aload_n 0, 1) := by decide +kernel
theorem qd_M_latest_28 : decode qb_M_latest 28 = .ok (.aload_n 0, 1) := by decide +kernel
theorem qd_M_latest_29 : decode qb_M_latest 29 = .ok (.getfield 17, 3) := by decide +kernel
theorem qd_M_latest_32 : decode qb_M_latest 32 = .ok (.iconst 4, 1) := by decide +kernel
theorem qd_M_latest_33 : decode qb_M_latest 33 = .ok (.iload 5, 2) := by decide +kernel
theorem qd_M_latest_35 : decode qb_M_latest 35 = .ok (.imul, 1) := by decide +kernel
theorem qd_M_latest_36 : decode qb_M_latest 36 = .ok (.iconst 2, 1) := by decide +kernel
theorem qd_M_latest_37 : decode qb_M_latest 37 = .ok (.iadd, 1) := by decide +kernel
theorem qd_M_latest_38 : decode qb_M_latest 38 = .ok (.iaload, 1) := by decide +kernel
theorem qd_M_latest_39 : decode qb_M_latest 39 = .ok (.iload_n 3, 1) := by decide +kernel
theorem qd_M_latest_40 : decode qb_M_latest 40 = .ok (.invokevirtual 73, 3) := by decide +kernel
theorem qd_M_latest_43 : decode qb_M_latest 43 = .ok (.ifCond .eq 42, 3) := by decide +kernel
theorem qd_M_latest_46 : decode qb_M_latest 46 = .ok (.iload 4, 2) := by decide +kernel
theorem qd_M_latest_48 : decode qb_M_latest 48 = .ok (.ifCond .lt 28, 3) := by decide +kernel
theorem qd_M_latest_51 : decode qb_M_latest 51 = .ok (.aload_n 0, 1) := by decide +kernel
theorem qd_M_latest_52 : decode qb_M_latest 52 = .ok (.getfield 17, 3) := by decide +kernel
theorem qd_M_latest_55 : decode qb_M_latest 55 = .ok (.iconst 4, 1) := by decide +kernel
theorem qd_M_latest_56 : decode qb_M_latest 56 = .ok (.iload 5, 2) := by decide +kernel
theorem qd_M_latest_58 : decode qb_M_latest 58 = .ok (.imul, 1) := by decide +kernel
theorem qd_M_latest_59 : decode qb_M_latest 59 = .ok (.iconst 2, 1) := by decide +kernel
theorem qd_M_latest_60 : decode qb_M_latest 60 = .ok (.iadd, 1) := by decide +kernel
theorem qd_M_latest_61 : decode qb_M_latest 61 = .ok (.iaload, 1) := by decide +kernel
theorem qd_M_latest_62 : decode qb_M_latest 62 = .ok (.aload_n 0, 1) := by decide +kernel
theorem qd_M_latest_63 : decode qb_M_latest 63 = .ok (.getfield 17, 3) := by decide +kernel
theorem qd_M_latest_66 : decode qb_M_latest 66 = .ok (.iconst 4, 1) := by decide +kernel
theorem qd_M_latest_67 : decode qb_M_latest 67 = .ok (.iload 4, 2) := by decide +kernel
theorem qd_M_latest_69 : decode qb_M_latest 69 = .ok (.imul, 1) := by decide +kernel
theorem qd_M_latest_70 : decode qb_M_latest 70 = .ok (.iconst 2, 1) := by decide +kernel
theorem qd_M_latest_71 : decode qb_M_latest 71 = .ok (.iadd, 1) := by decide +kernel
theorem qd_M_latest_72 : decode qb_M_latest 72 = .ok (.iaload, 1) := by decide +kernel
theorem qd_M_latest_73 : decode qb_M_latest 73 = .ok (.if_icmp .le 8, 3) := by decide +kernel
theorem qd_M_latest_76 : decode qb_M_latest 76 = .ok (.iload 5, 2) := by decide +kernel
theorem qd_M_latest_78 : decode qb_M_latest 78 = .ok (.goto (5), 3) := by decide +kernel
theorem qd_M_latest_81 : decode qb_M_latest 81 = .ok (.iload 4, 2) := by decide +kernel
theorem qd_M_latest_83 : decode qb_M_latest 83 = .ok (.istore 4, 2) := by decide +kernel
theorem qd_M_latest_85 : decode qb_M_latest 85 = .ok (.iinc 5 (1), 3) := by decide +kernel
theorem qd_M_latest_88 : decode qb_M_latest 88 = .ok (.goto (-81), 3) := by decide +kernel
theorem qd_M_latest_91 : decode qb_M_latest 91 = .ok (.iload 4, 2) := by decide +kernel
theorem qd_M_latest_93 : decode qb_M_latest 93 = .ok (.ireturn, 1) := by decide +kernel
theorem qd_M_versionAt_0 : decode qb_M_versionAt 0 = .ok (.iconst 0, 1) := by decide +kernel
theorem qd_M_versionAt_1 : decode qb_M_versionAt 1 = .ok (.istore 4, 2) := by decide +kernel
theorem qd_M_versionAt_3 : decode qb_M_versionAt 3 = .ok (.iload 4, 2) := by decide +kernel
theorem qd_M_versionAt_5 : decode qb_M_versionAt 5 = .ok (.aload_n 0, 1) := by decide +kernel
theorem qd_M_versionAt_6 : decode qb_M_versionAt 6 = .ok (.getfield 66, 3) := by decide +kernel
theorem qd_M_versionAt_9 : decode qb_M_versionAt 9 = .ok (.if_icmp .ge 38, 3) := by decide +kernel
theorem qd_M_versionAt_12 : decode qb_M_versionAt 12 = .ok (.aload_n 0, 1) := by decide +kernel
theorem qd_M_versionAt_13 : decode qb_M_versionAt 13 = .ok (.iload 4, 2) := by decide +kernel
theorem qd_M_versionAt_15 : decode qb_M_versionAt 15 = .ok (.iload_n 1, 1) := by decide +kernel
theorem qd_M_versionAt_16 : decode qb_M_versionAt 16 = .ok (.iload_n 2, 1) := by decide +kernel
theorem qd_M_versionAt_17 : decode qb_M_versionAt 17 = .ok (.invokevirtual 69, 3) := by decide +kernel
theorem qd_M_versionAt_20 : decode qb_M_versionAt 20 = .ok (.ifCond .eq 21, 3) := by decide +kernel
theorem qd_M_versionAt_23 : decode qb_M_versionAt 23 = .ok (.aload_n 0, 1) := by decide +kernel
theorem qd_M_versionAt_24 : decode qb_M_versionAt 24 = .ok (.getfield 17, 3) := by decide +kernel
theorem qd_M_versionAt_27 : decode qb_M_versionAt 27 = .ok (.iconst 4, 1) := by decide +kernel
theorem qd_M_versionAt_28 : decode qb_M_versionAt 28 = .ok (.iload 4, 2) := by decide +kernel
theorem qd_M_versionAt_30 : decode qb_M_versionAt 30 = .ok (.imul, 1) := by decide +kernel
theorem qd_M_versionAt_31 : decode qb_M_versionAt 31 = .ok (.iconst 2, 1) := by decide +kernel
theorem qd_M_versionAt_32 : decode qb_M_versionAt 32 = .ok (.iadd, 1) := by decide +kernel
theorem qd_M_versionAt_33 : decode qb_M_versionAt 33 = .ok (.iaload, 1) := by decide +kernel
theorem qd_M_versionAt_34 : decode qb_M_versionAt 34 = .ok (.iload_n 3, 1) := by decide +kernel
theorem qd_M_versionAt_35 : decode qb_M_versionAt 35 = .ok (.if_icmp .ne 6, 3) := by decide +kernel
theorem qd_M_versionAt_38 : decode qb_M_versionAt 38 = .ok (.iload 4, 2) := by decide +kernel
theorem qd_M_versionAt_40 : decode qb_M_versionAt 40 = .ok (.ireturn, 1) := by decide +kernel
theorem qd_M_versionAt_41 : decode qb_M_versionAt 41 = .ok (.iinc 4 (1), 3) := by decide +kernel
theorem qd_M_versionAt_44 : decode qb_M_versionAt 44 = .ok (.goto (-41), 3) := by decide +kernel
theorem qd_M_versionAt_47 : decode qb_M_versionAt 47 = .ok (.bipush (-2), 2) := by decide +kernel
theorem qd_M_versionAt_49 : decode qb_M_versionAt 49 = .ok (.ireturn, 1) := by decide +kernel
theorem qd_M_manyOf_0 : decode qb_M_manyOf 0 = .ok (.iconst 0, 1) := by decide +kernel
theorem qd_M_manyOf_1 : decode qb_M_manyOf 1 = .ok (.istore_n 3, 1) := by decide +kernel
theorem qd_M_manyOf_2 : decode qb_M_manyOf 2 = .ok (.iconst 0, 1) := by decide +kernel
theorem qd_M_manyOf_3 : decode qb_M_manyOf 3 = .ok (.istore 4, 2) := by decide +kernel
theorem qd_M_manyOf_5 : decode qb_M_manyOf 5 = .ok (.iload 4, 2) := by decide +kernel
theorem qd_M_manyOf_7 : decode qb_M_manyOf 7 = .ok (.aload_n 0, 1) := by decide +kernel
theorem qd_M_manyOf_8 : decode qb_M_manyOf 8 = .ok (.getfield 66, 3) := by decide +kernel
theorem qd_M_manyOf_11 : decode qb_M_manyOf 11 = .ok (.if_icmp .ge 28, 3) := by decide +kernel
theorem qd_M_manyOf_14 : decode qb_M_manyOf 14 = .ok (.aload_n 0, 1) := by decide +kernel
theorem qd_M_manyOf_15 : decode qb_M_manyOf 15 = .ok (.iload 4, 2) := by decide +kernel
theorem qd_M_manyOf_17 : decode qb_M_manyOf 17 = .ok (.iload_n 1, 1) := by decide +kernel
theorem qd_M_manyOf_18 : decode qb_M_manyOf 18 = .ok (.iload_n 2, 1) := by decide +kernel
theorem qd_M_manyOf_19 : decode qb_M_manyOf 19 = .ok (.invokevirtual 69, 3) := by decide +kernel
theorem qd_M_manyOf_22 : decode qb_M_manyOf 22 = .ok (.ifCond .eq 9, 3) := by decide +kernel
theorem qd_M_manyOf_25 : decode qb_M_manyOf 25 = .ok (.iload_n 3, 1) := by decide +kernel
theorem qd_M_manyOf_26 : decode qb_M_manyOf 26 = .ok (.iconst 1, 1) := by decide +kernel
theorem qd_M_manyOf_27 : decode qb_M_manyOf 27 = .ok (.iadd, 1) := by decide +kernel
theorem qd_M_manyOf_28 : decode qb_M_manyOf 28 = .ok (.goto (4), 3) := by decide +kernel
theorem qd_M_manyOf_31 : decode qb_M_manyOf 31 = .ok (.iload_n 3, 1) := by decide +kernel
theorem qd_M_manyOf_32 : decode qb_M_manyOf 32 = .ok (.istore_n 3, 1) := by decide +kernel
theorem qd_M_manyOf_33 : decode qb_M_manyOf 33 = .ok (.iinc 4 (1), 3) := by decide +kernel
theorem qd_M_manyOf_36 : decode qb_M_manyOf 36 = .ok (.goto (-31), 3) := by decide +kernel
theorem qd_M_manyOf_39 : decode qb_M_manyOf 39 = .ok (.iload_n 3, 1) := by decide +kernel
theorem qd_M_manyOf_40 : decode qb_M_manyOf 40 = .ok (.ireturn, 1) := by decide +kernel
theorem qd_M_versionBy_0 : decode qb_M_versionBy 0 = .ok (.iconst 0, 1) := by decide +kernel
theorem qd_M_versionBy_1 : decode qb_M_versionBy 1 = .ok (.istore 4, 2) := by decide +kernel
theorem qd_M_versionBy_3 : decode qb_M_versionBy 3 = .ok (.iload 4, 2) := by decide +kernel
theorem qd_M_versionBy_5 : decode qb_M_versionBy 5 = .ok (.aload_n 0, 1) := by decide +kernel
theorem qd_M_versionBy_6 : decode qb_M_versionBy 6 = .ok (.getfield 66, 3) := by decide +kernel
theorem qd_M_versionBy_9 : decode qb_M_versionBy 9 = .ok (.if_icmp .ge 97, 3) := by decide +kernel
theorem qd_M_versionBy_12 : decode qb_M_versionBy 12 = .ok (.iconst 0, 1) := by decide +kernel
theorem qd_M_versionBy_13 : decode qb_M_versionBy 13 = .ok (.istore 5, 2) := by decide +kernel
theorem qd_M_versionBy_15 : decode qb_M_versionBy 15 = .ok (.iconst 0, 1) := by decide +kernel
theorem qd_M_versionBy_16 : decode qb_M_versionBy 16 = .ok (.istore 6, 2) := by decide +kernel
theorem qd_M_versionBy_18 : decode qb_M_versionBy 18 = .ok (.iload 6, 2) := by decide +kernel
theorem qd_M_versionBy_20 : decode qb_M_versionBy 20 = .ok (.aload_n 0, 1) := by decide +kernel
theorem qd_M_versionBy_21 : decode qb_M_versionBy 21 = .ok (.getfield 66, 3) := by decide +kernel
theorem qd_M_versionBy_24 : decode qb_M_versionBy 24 = .ok (.if_icmp .ge 56, 3) := by decide +kernel
theorem qd_M_versionBy_27 : decode qb_M_versionBy 27 = .ok (.aload_n 0, 1) := by decide +kernel
theorem qd_M_versionBy_28 : decode qb_M_versionBy 28 = .ok (.iload 6, 2) := by decide +kernel
theorem qd_M_versionBy_30 : decode qb_M_versionBy 30 = .ok (.iload_n 1, 1) := by decide +kernel
theorem qd_M_versionBy_31 : decode qb_M_versionBy 31 = .ok (.iload_n 2, 1) := by decide +kernel
theorem qd_M_versionBy_32 : decode qb_M_versionBy 32 = .ok (.invokevirtual 69, 3) := by decide +kernel
theorem qd_M_versionBy_35 : decode qb_M_versionBy 35 = .ok (.ifCond .eq 35, 3) := by decide +kernel
theorem qd_M_versionBy_38 : decode qb_M_versionBy 38 = .ok (.aload_n 0, 1) := by decide +kernel
theorem qd_M_versionBy_39 : decode qb_M_versionBy 39 = .ok (.getfield 17, 3) := by decide +kernel
theorem qd_M_versionBy_42 : decode qb_M_versionBy 42 = .ok (.iconst 4, 1) := by decide +kernel
theorem qd_M_versionBy_43 : decode qb_M_versionBy 43 = .ok (.iload 6, 2) := by decide +kernel
theorem qd_M_versionBy_45 : decode qb_M_versionBy 45 = .ok (.imul, 1) := by decide +kernel
theorem qd_M_versionBy_46 : decode qb_M_versionBy 46 = .ok (.iconst 2, 1) := by decide +kernel
theorem qd_M_versionBy_47 : decode qb_M_versionBy 47 = .ok (.iadd, 1) := by decide +kernel
theorem qd_M_versionBy_48 : decode qb_M_versionBy 48 = .ok (.iaload, 1) := by decide +kernel
theorem qd_M_versionBy_49 : decode qb_M_versionBy 49 = .ok (.aload_n 0, 1) := by decide +kernel
theorem qd_M_versionBy_50 : decode qb_M_versionBy 50 = .ok (.getfield 17, 3) := by decide +kernel
theorem qd_M_versionBy_53 : decode qb_M_versionBy 53 = .ok (.iconst 4, 1) := by decide +kernel
theorem qd_M_versionBy_54 : decode qb_M_versionBy 54 = .ok (.iload 4, 2) := by decide +kernel
theorem qd_M_versionBy_56 : decode qb_M_versionBy 56 = .ok (.imul, 1) := by decide +kernel
theorem qd_M_versionBy_57 : decode qb_M_versionBy 57 = .ok (.iconst 2, 1) := by decide +kernel
theorem qd_M_versionBy_58 : decode qb_M_versionBy 58 = .ok (.iadd, 1) := by decide +kernel
theorem qd_M_versionBy_59 : decode qb_M_versionBy 59 = .ok (.iaload, 1) := by decide +kernel
theorem qd_M_versionBy_60 : decode qb_M_versionBy 60 = .ok (.if_icmp .ge 10, 3) := by decide +kernel
theorem qd_M_versionBy_63 : decode qb_M_versionBy 63 = .ok (.iload 5, 2) := by decide +kernel
theorem qd_M_versionBy_65 : decode qb_M_versionBy 65 = .ok (.iconst 1, 1) := by decide +kernel
theorem qd_M_versionBy_66 : decode qb_M_versionBy 66 = .ok (.iadd, 1) := by decide +kernel
theorem qd_M_versionBy_67 : decode qb_M_versionBy 67 = .ok (.goto (5), 3) := by decide +kernel
theorem qd_M_versionBy_70 : decode qb_M_versionBy 70 = .ok (.iload 5, 2) := by decide +kernel
theorem qd_M_versionBy_72 : decode qb_M_versionBy 72 = .ok (.istore 5, 2) := by decide +kernel
theorem qd_M_versionBy_74 : decode qb_M_versionBy 74 = .ok (.iinc 6 (1), 3) := by decide +kernel
theorem qd_M_versionBy_77 : decode qb_M_versionBy 77 = .ok (.goto (-59), 3) := by decide +kernel
theorem qd_M_versionBy_80 : decode qb_M_versionBy 80 = .ok (.aload_n 0, 1) := by decide +kernel
theorem qd_M_versionBy_81 : decode qb_M_versionBy 81 = .ok (.iload 4, 2) := by decide +kernel
theorem qd_M_versionBy_83 : decode qb_M_versionBy 83 = .ok (.iload_n 1, 1) := by decide +kernel
theorem qd_M_versionBy_84 : decode qb_M_versionBy 84 = .ok (.iload_n 2, 1) := by decide +kernel
theorem qd_M_versionBy_85 : decode qb_M_versionBy 85 = .ok (.invokevirtual 69, 3) := by decide +kernel
theorem qd_M_versionBy_88 : decode qb_M_versionBy 88 = .ok (.ifCond .eq 12, 3) := by decide +kernel
theorem qd_M_versionBy_91 : decode qb_M_versionBy 91 = .ok (.iload 5, 2) := by decide +kernel
theorem qd_M_versionBy_93 : decode qb_M_versionBy 93 = .ok (.iload_n 3, 1) := by decide +kernel
theorem qd_M_versionBy_94 : decode qb_M_versionBy 94 = .ok (.if_icmp .ne 6, 3) := by decide +kernel
theorem qd_M_versionBy_97 : decode qb_M_versionBy 97 = .ok (.iload 4, 2) := by decide +kernel
theorem qd_M_versionBy_99 : decode qb_M_versionBy 99 = .ok (.ireturn, 1) := by decide +kernel
theorem qd_M_versionBy_100 : decode qb_M_versionBy 100 = .ok (.iinc 4 (1), 3) := by decide +kernel
theorem qd_M_versionBy_103 : decode qb_M_versionBy 103 = .ok (.goto (-100), 3) := by decide +kernel
theorem qd_M_versionBy_106 : decode qb_M_versionBy 106 = .ok (.bipush (-2), 2) := by decide +kernel
theorem qd_M_versionBy_108 : decode qb_M_versionBy 108 = .ok (.ireturn, 1) := by decide +kernel
theorem qd_M_find_0 : decode qb_M_find 0 = .ok (.iconst 0, 1) := by decide +kernel
theorem qd_M_find_1 : decode qb_M_find 1 = .ok (.istore_n 2, 1) := by decide +kernel
theorem qd_M_find_2 : decode qb_M_find 2 = .ok (.iload_n 2, 1) := by decide +kernel
theorem qd_M_find_3 : decode qb_M_find 3 = .ok (.iconst 3, 1) := by decide +kernel
theorem qd_M_find_4 : decode qb_M_find 4 = .ok (.if_icmp .ge 132, 3) := by decide +kernel
theorem qd_M_find_7 : decode qb_M_find 7 = .ok (.iload_n 2, 1) := by decide +kernel
theorem qd_M_find_8 : decode qb_M_find 8 = .ok (.aload_n 0, 1) := by decide +kernel
theorem qd_M_find_9 : decode qb_M_find 9 = .ok (.getfield 42, 3) := by decide +kernel
theorem qd_M_find_12 : decode qb_M_find 12 = .ok (.if_icmp .ge 33, 3) := by decide +kernel
theorem qd_M_find_15 : decode qb_M_find 15 = .ok (.aload_n 0, 1) := by decide +kernel
theorem qd_M_find_16 : decode qb_M_find 16 = .ok (.iload_n 2, 1) := by decide +kernel
theorem qd_M_find_17 : decode qb_M_find 17 = .ok (.aload_n 0, 1) := by decide +kernel
theorem qd_M_find_18 : decode qb_M_find 18 = .ok (.getfield 20, 3) := by decide +kernel
theorem qd_M_find_21 : decode qb_M_find 21 = .ok (.bipush 6, 2) := by decide +kernel
theorem qd_M_find_23 : decode qb_M_find 23 = .ok (.iload_n 1, 1) := by decide +kernel
theorem qd_M_find_24 : decode qb_M_find 24 = .ok (.imul, 1) := by decide +kernel
theorem qd_M_find_25 : decode qb_M_find 25 = .ok (.iconst 1, 1) := by decide +kernel
theorem qd_M_find_26 : decode qb_M_find 26 = .ok (.iadd, 1) := by decide +kernel
theorem qd_M_find_27 : decode qb_M_find 27 = .ok (.iaload, 1) := by decide +kernel
theorem qd_M_find_28 : decode qb_M_find 28 = .ok (.aload_n 0, 1) := by decide +kernel
theorem qd_M_find_29 : decode qb_M_find 29 = .ok (.getfield 20, 3) := by decide +kernel
theorem qd_M_find_32 : decode qb_M_find 32 = .ok (.bipush 6, 2) := by decide +kernel
theorem qd_M_find_34 : decode qb_M_find 34 = .ok (.iload_n 1, 1) := by decide +kernel
theorem qd_M_find_35 : decode qb_M_find 35 = .ok (.imul, 1) := by decide +kernel
theorem qd_M_find_36 : decode qb_M_find 36 = .ok (.iconst 2, 1) := by decide +kernel
theorem qd_M_find_37 : decode qb_M_find 37 = .ok (.iadd, 1) := by decide +kernel
theorem qd_M_find_38 : decode qb_M_find 38 = .ok (.iaload, 1) := by decide +kernel
theorem qd_M_find_39 : decode qb_M_find 39 = .ok (.invokevirtual 77, 3) := by decide +kernel
theorem qd_M_find_42 : decode qb_M_find 42 = .ok (.goto (5), 3) := by decide +kernel
theorem qd_M_find_45 : decode qb_M_find 45 = .ok (.bipush (-2), 2) := by decide +kernel
theorem qd_M_find_47 : decode qb_M_find 47 = .ok (.istore_n 3, 1) := by decide +kernel
theorem qd_M_find_48 : decode qb_M_find 48 = .ok (.iload_n 3, 1) := by decide +kernel
theorem qd_M_find_49 : decode qb_M_find 49 = .ok (.ifCond .lt 20, 3) := by decide +kernel
theorem qd_M_find_52 : decode qb_M_find 52 = .ok (.aload_n 0, 1) := by decide +kernel
theorem qd_M_find_53 : decode qb_M_find 53 = .ok (.getfield 17, 3) := by decide +kernel
theorem qd_M_find_56 : decode qb_M_find 56 = .ok (.iconst 4, 1) := by decide +kernel
theorem qd_M_find_57 : decode qb_M_find 57 = .ok (.iload_n 3, 1) := by decide +kernel
theorem qd_M_find_58 : decode qb_M_find 58 = .ok (.imul, 1) := by decide +kernel
theorem qd_M_find_59 : decode qb_M_find 59 = .ok (.iconst 3, 1) := by decide +kernel
theorem qd_M_find_60 : decode qb_M_find 60 = .ok (.iadd, 1) := by decide +kernel
theorem qd_M_find_61 : decode qb_M_find 61 = .ok (.iaload, 1) := by decide +kernel
theorem qd_M_find_62 : decode qb_M_find 62 = .ok (.ifCond .lt 7, 3) := by decide +kernel
theorem qd_M_find_65 : decode qb_M_find 65 = .ok (.iconst 1, 1) := by decide +kernel
theorem qd_M_find_66 : decode qb_M_find 66 = .ok (.goto (4), 3) := by decide +kernel
theorem qd_M_find_69 : decode qb_M_find 69 = .ok (.iconst 0, 1) := by decide +kernel
theorem qd_M_find_70 : decode qb_M_find 70 = .ok (.istore 4, 2) := by decide +kernel
theorem qd_M_find_72 : decode qb_M_find 72 = .ok (.aload_n 0, 1) := by decide +kernel
theorem qd_M_find_73 : decode qb_M_find 73 = .ok (.getfield 29, 3) := by decide +kernel
theorem qd_M_find_76 : decode qb_M_find 76 = .ok (.iconst 2, 1) := by decide +kernel
theorem qd_M_find_77 : decode qb_M_find 77 = .ok (.iload_n 2, 1) := by decide +kernel
theorem qd_M_find_78 : decode qb_M_find 78 = .ok (.imul, 1) := by decide +kernel
theorem qd_M_find_79 : decode qb_M_find 79 = .ok (.iload 4, 2) := by decide +kernel
theorem qd_M_find_81 : decode qb_M_find 81 = .ok (.ifCond .eq 16, 3) := by decide +kernel
theorem qd_M_find_84 : decode qb_M_find 84 = .ok (.aload_n 0, 1) := by decide +kernel
theorem qd_M_find_85 : decode qb_M_find 85 = .ok (.getfield 17, 3) := by decide +kernel
theorem qd_M_find_88 : decode qb_M_find 88 = .ok (.iconst 4, 1) := by decide +kernel
theorem qd_M_find_89 : decode qb_M_find 89 = .ok (.iload_n 3, 1) := by decide +kernel
theorem qd_M_find_90 : decode qb_M_find 90 = .ok (.imul, 1) := by decide +kernel
theorem qd_M_find_91 : decode qb_M_find 91 = .ok (.iconst 2, 1) := by decide +kernel
theorem qd_M_find_92 : decode qb_M_find 92 = .ok (.iadd, 1) := by decide +kernel
theorem qd_M_find_93 : decode qb_M_find 93 = .ok (.iaload, 1) := by decide +kernel
theorem qd_M_find_94 : decode qb_M_find 94 = .ok (.goto (5), 3) := by decide +kernel
theorem qd_M_find_97 : decode qb_M_find 97 = .ok (.bipush (-2), 2) := by decide +kernel
theorem qd_M_find_99 : decode qb_M_find 99 = .ok (.iastore, 1) := by decide +kernel
theorem qd_M_find_100 : decode qb_M_find 100 = .ok (.aload_n 0, 1) := by decide +kernel
theorem qd_M_find_101 : decode qb_M_find 101 = .ok (.getfield 29, 3) := by decide +kernel
theorem qd_M_find_104 : decode qb_M_find 104 = .ok (.iconst 2, 1) := by decide +kernel
theorem qd_M_find_105 : decode qb_M_find 105 = .ok (.iload_n 2, 1) := by decide +kernel
theorem qd_M_find_106 : decode qb_M_find 106 = .ok (.imul, 1) := by decide +kernel
theorem qd_M_find_107 : decode qb_M_find 107 = .ok (.iconst 1, 1) := by decide +kernel
theorem qd_M_find_108 : decode qb_M_find 108 = .ok (.iadd, 1) := by decide +kernel
theorem qd_M_find_109 : decode qb_M_find 109 = .ok (.iload 4, 2) := by decide +kernel
theorem qd_M_find_111 : decode qb_M_find 111 = .ok (.ifCond .eq 16, 3) := by decide +kernel
theorem qd_M_find_114 : decode qb_M_find 114 = .ok (.aload_n 0, 1) := by decide +kernel
theorem qd_M_find_115 : decode qb_M_find 115 = .ok (.getfield 17, 3) := by decide +kernel
theorem qd_M_find_118 : decode qb_M_find 118 = .ok (.iconst 4, 1) := by decide +kernel
theorem qd_M_find_119 : decode qb_M_find 119 = .ok (.iload_n 3, 1) := by decide +kernel
theorem qd_M_find_120 : decode qb_M_find 120 = .ok (.imul, 1) := by decide +kernel
theorem qd_M_find_121 : decode qb_M_find 121 = .ok (.iconst 3, 1) := by decide +kernel
theorem qd_M_find_122 : decode qb_M_find 122 = .ok (.iadd, 1) := by decide +kernel
theorem qd_M_find_123 : decode qb_M_find 123 = .ok (.iaload, 1) := by decide +kernel
theorem qd_M_find_124 : decode qb_M_find 124 = .ok (.goto (5), 3) := by decide +kernel
theorem qd_M_find_127 : decode qb_M_find 127 = .ok (.bipush (-2), 2) := by decide +kernel
theorem qd_M_find_129 : decode qb_M_find 129 = .ok (.iastore, 1) := by decide +kernel
theorem qd_M_find_130 : decode qb_M_find 130 = .ok (.iinc 2 (1), 3) := by decide +kernel
theorem qd_M_find_133 : decode qb_M_find 133 = .ok (.goto (-131), 3) := by decide +kernel
theorem qd_M_find_136 : decode qb_M_find 136 = .ok (.return_, 1) := by decide +kernel
theorem qd_M_isGiven_0 : decode qb_M_isGiven 0 = .ok (.iconst 1, 1) := by decide +kernel
theorem qd_M_isGiven_1 : decode qb_M_isGiven 1 = .ok (.istore_n 1, 1) := by decide +kernel
theorem qd_M_isGiven_2 : decode qb_M_isGiven 2 = .ok (.iconst 0, 1) := by decide +kernel
theorem qd_M_isGiven_3 : decode qb_M_isGiven 3 = .ok (.istore_n 2, 1) := by decide +kernel
theorem qd_M_isGiven_4 : decode qb_M_isGiven 4 = .ok (.iload_n 2, 1) := by decide +kernel
theorem qd_M_isGiven_5 : decode qb_M_isGiven 5 = .ok (.aload_n 0, 1) := by decide +kernel
theorem qd_M_isGiven_6 : decode qb_M_isGiven 6 = .ok (.getfield 42, 3) := by decide +kernel
theorem qd_M_isGiven_9 : decode qb_M_isGiven 9 = .ok (.if_icmp .ge 32, 3) := by decide +kernel
theorem qd_M_isGiven_12 : decode qb_M_isGiven 12 = .ok (.iload_n 1, 1) := by decide +kernel
theorem qd_M_isGiven_13 : decode qb_M_isGiven 13 = .ok (.ifCond .eq 20, 3) := by decide +kernel
theorem qd_M_isGiven_16 : decode qb_M_isGiven 16 = .ok (.aload_n 0, 1) := by decide +kernel
theorem qd_M_isGiven_17 : decode qb_M_isGiven 17 = .ok (.getfield 29, 3) := by decide +kernel
theorem qd_M_isGiven_20 : decode qb_M_isGiven 20 = .ok (.iconst 2, 1) := by decide +kernel
theorem qd_M_isGiven_21 : decode qb_M_isGiven 21 = .ok (.iload_n 2, 1) := by decide +kernel
theorem qd_M_isGiven_22 : decode qb_M_isGiven 22 = .ok (.imul, 1) := by decide +kernel
theorem qd_M_isGiven_23 : decode qb_M_isGiven 23 = .ok (.iaload, 1) := by decide +kernel
theorem qd_M_isGiven_24 : decode qb_M_isGiven 24 = .ok (.bipush (-2), 2) := by decide +kernel
theorem qd_M_isGiven_26 : decode qb_M_isGiven 26 = .ok (.if_icmp .eq 7, 3) := by decide +kernel
theorem qd_M_isGiven_29 : decode qb_M_isGiven 29 = .ok (.iconst 1, 1) := by decide +kernel
theorem qd_M_isGiven_30 : decode qb_M_isGiven 30 = .ok (.goto (4), 3) := by decide +kernel
theorem qd_M_isGiven_33 : decode qb_M_isGiven 33 = .ok (.iconst 0, 1) := by decide +kernel
theorem qd_M_isGiven_34 : decode qb_M_isGiven 34 = .ok (.istore_n 1, 1) := by decide +kernel
theorem qd_M_isGiven_35 : decode qb_M_isGiven 35 = .ok (.iinc 2 (1), 3) := by decide +kernel
theorem qd_M_isGiven_38 : decode qb_M_isGiven 38 = .ok (.goto (-34), 3) := by decide +kernel
theorem qd_M_isGiven_41 : decode qb_M_isGiven 41 = .ok (.aload_n 0, 1) := by decide +kernel
theorem qd_M_isGiven_42 : decode qb_M_isGiven 42 = .ok (.getfield 63, 3) := by decide +kernel
theorem qd_M_isGiven_45 : decode qb_M_isGiven 45 = .ok (.ifCond .eq 7, 3) := by decide +kernel
theorem qd_M_isGiven_48 : decode qb_M_isGiven 48 = .ok (.iload_n 1, 1) := by decide +kernel
theorem qd_M_isGiven_49 : decode qb_M_isGiven 49 = .ok (.ifCond .eq 7, 3) := by decide +kernel
theorem qd_M_isGiven_52 : decode qb_M_isGiven 52 = .ok (.iconst 1, 1) := by decide +kernel
theorem qd_M_isGiven_53 : decode qb_M_isGiven 53 = .ok (.goto (4), 3) := by decide +kernel
theorem qd_M_isGiven_56 : decode qb_M_isGiven 56 = .ok (.iconst 0, 1) := by decide +kernel
theorem qd_M_isGiven_57 : decode qb_M_isGiven 57 = .ok (.ireturn, 1) := by decide +kernel
theorem qd_M_tell_0 : decode qb_M_tell 0 = .ok (.bipush 11, 2) := by decide +kernel
theorem qd_M_tell_2 : decode qb_M_tell 2 = .ok (.aload_n 0, 1) := by decide +kernel
theorem qd_M_tell_3 : decode qb_M_tell 3 = .ok (.getfield 81, 3) := by decide +kernel
theorem qd_M_tell_6 : decode qb_M_tell 6 = .ok (.imul, 1) := by decide +kernel
theorem qd_M_tell_7 : decode qb_M_tell 7 = .ok (.istore_n 3, 1) := by decide +kernel
theorem qd_M_tell_8 : decode qb_M_tell 8 = .ok (.aload_n 0, 1) := by decide +kernel
theorem qd_M_tell_9 : decode qb_M_tell 9 = .ok (.getfield 26, 3) := by decide +kernel
theorem qd_M_tell_12 : decode qb_M_tell 12 = .ok (.iload_n 3, 1) := by decide +kernel
theorem qd_M_tell_13 : decode qb_M_tell 13 = .ok (.iload_n 2, 1) := by decide +kernel
theorem qd_M_tell_14 : decode qb_M_tell 14 = .ok (.iastore, 1) := by decide +kernel
theorem qd_M_tell_15 : decode qb_M_tell 15 = .ok (.iconst 0, 1) := by decide +kernel
theorem qd_M_tell_16 : decode qb_M_tell 16 = .ok (.istore 4, 2) := by decide +kernel
theorem qd_M_tell_18 : decode qb_M_tell 18 = .ok (.iload 4, 2) := by decide +kernel
theorem qd_M_tell_20 : decode qb_M_tell 20 = .ok (.iconst 4, 1) := by decide +kernel
theorem qd_M_tell_21 : decode qb_M_tell 21 = .ok (.if_icmp .ge 32, 3) := by decide +kernel
theorem qd_M_tell_24 : decode qb_M_tell 24 = .ok (.aload_n 0, 1) := by decide +kernel
theorem qd_M_tell_25 : decode qb_M_tell 25 = .ok (.getfield 26, 3) := by decide +kernel
theorem qd_M_tell_28 : decode qb_M_tell 28 = .ok (.iload_n 3, 1) := by decide +kernel
theorem qd_M_tell_29 : decode qb_M_tell 29 = .ok (.iconst 1, 1) := by decide +kernel
theorem qd_M_tell_30 : decode qb_M_tell 30 = .ok (.iadd, 1) := by decide +kernel
theorem qd_M_tell_31 : decode qb_M_tell 31 = .ok (.iload 4, 2) := by decide +kernel
theorem qd_M_tell_33 : decode qb_M_tell 33 = .ok (.iadd, 1) := by decide +kernel
theorem qd_M_tell_34 : decode qb_M_tell 34 = .ok (.aload_n 0, 1) := by decide +kernel
theorem qd_M_tell_35 : decode qb_M_tell 35 = .ok (.getfield 20, 3) := by decide +kernel
theorem qd_M_tell_38 : decode qb_M_tell 38 = .ok (.bipush 6, 2) := by decide +kernel
theorem qd_M_tell_40 : decode qb_M_tell 40 = .ok (.iload_n 1, 1) := by decide +kernel
theorem qd_M_tell_41 : decode qb_M_tell 41 = .ok (.imul, 1) := by decide +kernel
theorem qd_M_tell_42 : decode qb_M_tell 42 = .ok (.iload 4, 2) := by decide +kernel
theorem qd_M_tell_44 : decode qb_M_tell 44 = .ok (.iadd, 1) := by decide +kernel
theorem qd_M_tell_45 : decode qb_M_tell 45 = .ok (.iaload, 1) := by decide +kernel
theorem qd_M_tell_46 : decode qb_M_tell 46 = .ok (.iastore, 1) := by decide +kernel
theorem qd_M_tell_47 : decode qb_M_tell 47 = .ok (.iinc 4 (1), 3) := by decide +kernel
theorem qd_M_tell_50 : decode qb_M_tell 50 = .ok (.goto (-32), 3) := by decide +kernel
theorem qd_M_tell_53 : decode qb_M_tell 53 = .ok (.iconst 0, 1) := by decide +kernel
theorem qd_M_tell_54 : decode qb_M_tell 54 = .ok (.istore 4, 2) := by decide +kernel
theorem qd_M_tell_56 : decode qb_M_tell 56 = .ok (.iload 4, 2) := by decide +kernel
theorem qd_M_tell_58 : decode qb_M_tell 58 = .ok (.bipush 6, 2) := by decide +kernel
theorem qd_M_tell_60 : decode qb_M_tell 60 = .ok (.if_icmp .ge 32, 3) := by decide +kernel
theorem qd_M_tell_63 : decode qb_M_tell 63 = .ok (.aload_n 0, 1) := by decide +kernel
theorem qd_M_tell_64 : decode qb_M_tell 64 = .ok (.getfield 26, 3) := by decide +kernel
theorem qd_M_tell_67 : decode qb_M_tell 67 = .ok (.iload_n 3, 1) := by decide +kernel
theorem qd_M_tell_68 : decode qb_M_tell 68 = .ok (.iconst 5, 1) := by decide +kernel
theorem qd_M_tell_69 : decode qb_M_tell 69 = .ok (.iadd, 1) := by decide +kernel
theorem qd_M_tell_70 : decode qb_M_tell 70 = .ok (.iload 4, 2) := by decide +kernel
theorem qd_M_tell_72 : decode qb_M_tell 72 = .ok (.iadd, 1) := by decide +kernel
theorem qd_M_tell_73 : decode qb_M_tell 73 = .ok (.aload_n 0, 1) := by decide +kernel
theorem qd_M_tell_74 : decode qb_M_tell 74 = .ok (.getfield 23, 3) := by decide +kernel
theorem qd_M_tell_77 : decode qb_M_tell 77 = .ok (.bipush 6, 2) := by decide +kernel
theorem qd_M_tell_79 : decode qb_M_tell 79 = .ok (.iload_n 1, 1) := by decide +kernel
theorem qd_M_tell_80 : decode qb_M_tell 80 = .ok (.imul, 1) := by decide +kernel
theorem qd_M_tell_81 : decode qb_M_tell 81 = .ok (.iload 4, 2) := by decide +kernel
theorem qd_M_tell_83 : decode qb_M_tell 83 = .ok (.iadd, 1) := by decide +kernel
theorem qd_M_tell_84 : decode qb_M_tell 84 = .ok (.iaload, 1) := by decide +kernel
theorem qd_M_tell_85 : decode qb_M_tell 85 = .ok (.iastore, 1) := by decide +kernel
theorem qd_M_tell_86 : decode qb_M_tell 86 = .ok (.iinc 4 (1), 3) := by decide +kernel
theorem qd_M_tell_89 : decode qb_M_tell 89 = .ok (.goto (-33), 3) := by decide +kernel
theorem qd_M_tell_92 : decode qb_M_tell 92 = .ok (.aload_n 0, 1) := by decide +kernel
theorem qd_M_tell_93 : decode qb_M_tell 93 = .ok (.dup, 1) := by decide +kernel
theorem qd_M_tell_94 : decode qb_M_tell 94 = .ok (.getfield 81, 3) := by decide +kernel
theorem qd_M_tell_97 : decode qb_M_tell 97 = .ok (.iconst 1, 1) := by decide +kernel
theorem qd_M_tell_98 : decode qb_M_tell 98 = .ok (.iadd, 1) := by decide +kernel
theorem qd_M_tell_99 : decode qb_M_tell 99 = .ok (.putfield 81, 3) := by decide +kernel
theorem qd_M_tell_102 : decode qb_M_tell 102 = .ok (.aload_n 0, 1) := by decide +kernel
theorem qd_M_tell_103 : decode qb_M_tell 103 = .ok (.iload_n 2, 1) := by decide +kernel
theorem qd_M_tell_104 : decode qb_M_tell 104 = .ok (.iconst 1, 1) := by decide +kernel
theorem qd_M_tell_105 : decode qb_M_tell 105 = .ok (.if_icmp .ne 12, 3) := by decide +kernel
theorem qd_M_tell_108 : decode qb_M_tell 108 = .ok (.aload_n 0, 1) := by decide +kernel
theorem qd_M_tell_109 : decode qb_M_tell 109 = .ok (.getfield 84, 3) := by decide +kernel
theorem qd_M_tell_112 : decode qb_M_tell 112 = .ok (.iconst 1, 1) := by decide +kernel
theorem qd_M_tell_113 : decode qb_M_tell 113 = .ok (.iadd, 1) := by decide +kernel
theorem qd_M_tell_114 : decode qb_M_tell 114 = .ok (.goto (7), 3) := by decide +kernel
theorem qd_M_tell_117 : decode qb_M_tell 117 = .ok (.aload_n 0, 1) := by decide +kernel
theorem qd_M_tell_118 : decode qb_M_tell 118 = .ok (.getfield 84, 3) := by decide +kernel
theorem qd_M_tell_121 : decode qb_M_tell 121 = .ok (.putfield 84, 3) := by decide +kernel
theorem qd_M_tell_124 : decode qb_M_tell 124 = .ok (.aload_n 0, 1) := by decide +kernel
theorem qd_M_tell_125 : decode qb_M_tell 125 = .ok (.iload_n 2, 1) := by decide +kernel
theorem qd_M_tell_126 : decode qb_M_tell 126 = .ok (.iconst 1, 1) := by decide +kernel
theorem qd_M_tell_127 : decode qb_M_tell 127 = .ok (.if_icmp .ne 10, 3) := by decide +kernel
theorem qd_M_tell_130 : decode qb_M_tell 130 = .ok (.aload_n 0, 1) := by decide +kernel
theorem qd_M_tell_131 : decode qb_M_tell 131 = .ok (.getfield 87, 3) := by decide +kernel
theorem qd_M_tell_134 : decode qb_M_tell 134 = .ok (.goto (9), 3) := by decide +kernel
theorem qd_M_tell_137 : decode qb_M_tell 137 = .ok (.aload_n 0, 1) := by decide +kernel
theorem qd_M_tell_138 : decode qb_M_tell 138 = .ok (.getfield 87, 3) := by decide +kernel
theorem qd_M_tell_141 : decode qb_M_tell 141 = .ok (.iconst 1, 1) := by decide +kernel
theorem qd_M_tell_142 : decode qb_M_tell 142 = .ok (.iadd, 1) := by decide +kernel
theorem qd_M_tell_143 : decode qb_M_tell 143 = .ok (.putfield 87, 3) := by decide +kernel
theorem qd_M_tell_146 : decode qb_M_tell 146 = .ok (.return_, 1) := by decide +kernel
theorem qd_M_take_0 : decode qb_M_take 0 = .ok (.iconst 0, 1) := by decide +kernel
theorem qd_M_take_1 : decode qb_M_take 1 = .ok (.istore_n 2, 1) := by decide +kernel
theorem qd_M_take_2 : decode qb_M_take 2 = .ok (.iload_n 2, 1) := by decide +kernel
theorem qd_M_take_3 : decode qb_M_take 3 = .ok (.bipush 6, 2) := by decide +kernel
theorem qd_M_take_5 : decode qb_M_take 5 = .ok (.if_icmp .ge 26, 3) := by decide +kernel
theorem qd_M_take_8 : decode qb_M_take 8 = .ok (.aload_n 0, 1) := by decide +kernel
theorem qd_M_take_9 : decode qb_M_take 9 = .ok (.getfield 23, 3) := by decide +kernel
theorem qd_M_take_12 : decode qb_M_take 12 = .ok (.bipush 6, 2) := by decide +kernel
theorem qd_M_take_14 : decode qb_M_take 14 = .ok (.iload_n 1, 1) := by decide +kernel
theorem qd_M_take_15 : decode qb_M_take 15 = .ok (.imul, 1) := by decide +kernel
theorem qd_M_take_16 : decode qb_M_take 16 = .ok (.iload_n 2, 1) := by decide +kernel
theorem qd_M_take_17 : decode qb_M_take 17 = .ok (.iadd, 1) := by decide +kernel
theorem qd_M_take_18 : decode qb_M_take 18 = .ok (.aload_n 0, 1) := by decide +kernel
theorem qd_M_take_19 : decode qb_M_take 19 = .ok (.getfield 29, 3) := by decide +kernel
theorem qd_M_take_22 : decode qb_M_take 22 = .ok (.iload_n 2, 1) := by decide +kernel
theorem qd_M_take_23 : decode qb_M_take 23 = .ok (.iaload, 1) := by decide +kernel
theorem qd_M_take_24 : decode qb_M_take 24 = .ok (.iastore, 1) := by decide +kernel
theorem qd_M_take_25 : decode qb_M_take 25 = .ok (.iinc 2 (1), 3) := by decide +kernel
theorem qd_M_take_28 : decode qb_M_take 28 = .ok (.goto (-26), 3) := by decide +kernel
theorem qd_M_take_31 : decode qb_M_take 31 = .ok (.aload_n 0, 1) := by decide +kernel
theorem qd_M_take_32 : decode qb_M_take 32 = .ok (.getfield 20, 3) := by decide +kernel
theorem qd_M_take_35 : decode qb_M_take 35 = .ok (.bipush 6, 2) := by decide +kernel
theorem qd_M_take_37 : decode qb_M_take 37 = .ok (.iload_n 1, 1) := by decide +kernel
theorem qd_M_take_38 : decode qb_M_take 38 = .ok (.imul, 1) := by decide +kernel
theorem qd_M_take_39 : decode qb_M_take 39 = .ok (.iconst 4, 1) := by decide +kernel
theorem qd_M_take_40 : decode qb_M_take 40 = .ok (.iadd, 1) := by decide +kernel
theorem qd_M_take_41 : decode qb_M_take 41 = .ok (.iconst 0, 1) := by decide +kernel
theorem qd_M_take_42 : decode qb_M_take 42 = .ok (.iastore, 1) := by decide +kernel
