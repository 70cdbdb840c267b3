theorem qd_R_setJoin_16 : decode qb_R_setJoin 16 = .ok (.getfield 16, 3) := by decide +kernel
theorem qd_R_setJoin_19 : decode qb_R_setJoin 19 = .ok (.iload_n 1, 1) := by decide +kernel
theorem qd_R_setJoin_20 : decode qb_R_setJoin 20 = .ok (.iconst 5, 1) := by decide +kernel
theorem qd_R_setJoin_21 : decode qb_R_setJoin 21 = .ok (.iload_n 3, 1) := by decide +kernel
theorem qd_R_setJoin_22 : decode qb_R_setJoin 22 = .ok (.ifCond .eq 7, 3) := by decide +kernel
theorem qd_R_setJoin_25 : decode qb_R_setJoin 25 = .ok (.iconst 1, 1) := by decide +kernel
theorem qd_R_setJoin_26 : decode qb_R_setJoin 26 = .ok (.goto (4), 3) := by decide +kernel
theorem qd_R_setJoin_29 : decode qb_R_setJoin 29 = .ok (.iconst 0, 1) := by decide +kernel
theorem qd_R_setJoin_30 : decode qb_R_setJoin 30 = .ok (.invokevirtual 32, 3) := by decide +kernel
theorem qd_R_setJoin_33 : decode qb_R_setJoin 33 = .ok (.iconst 0, 1) := by decide +kernel
theorem qd_R_setJoin_34 : decode qb_R_setJoin 34 = .ok (.istore 4, 2) := by decide +kernel
theorem qd_R_setJoin_36 : decode qb_R_setJoin 36 = .ok (.iload 4, 2) := by decide +kernel
theorem qd_R_setJoin_38 : decode qb_R_setJoin 38 = .ok (.bipush 6, 2) := by decide +kernel
theorem qd_R_setJoin_40 : decode qb_R_setJoin 40 = .ok (.if_icmp .ge 33, 3) := by decide +kernel
theorem qd_R_setJoin_43 : decode qb_R_setJoin 43 = .ok (.iload 4, 2) := by decide +kernel
theorem qd_R_setJoin_45 : decode qb_R_setJoin 45 = .ok (.aload_n 2, 1) := by decide +kernel
theorem qd_R_setJoin_46 : decode qb_R_setJoin 46 = .ok (.arraylength, 1) := by decide +kernel
theorem qd_R_setJoin_47 : decode qb_R_setJoin 47 = .ok (.if_icmp .ge 26, 3) := by decide +kernel
theorem qd_R_setJoin_50 : decode qb_R_setJoin 50 = .ok (.aload_n 0, 1) := by decide +kernel
theorem qd_R_setJoin_51 : decode qb_R_setJoin 51 = .ok (.getfield 16, 3) := by decide +kernel
theorem qd_R_setJoin_54 : decode qb_R_setJoin 54 = .ok (.iload_n 1, 1) := by decide +kernel
theorem qd_R_setJoin_55 : decode qb_R_setJoin 55 = .ok (.bipush 6, 2) := by decide +kernel
theorem qd_R_setJoin_57 : decode qb_R_setJoin 57 = .ok (.iload 4, 2) := by decide +kernel
theorem qd_R_setJoin_59 : decode qb_R_setJoin 59 = .ok (.iadd, 1) := by decide +kernel
theorem qd_R_setJoin_60 : decode qb_R_setJoin 60 = .ok (.aload_n 2, 1) := by decide +kernel
theorem qd_R_setJoin_61 : decode qb_R_setJoin 61 = .ok (.iload 4, 2) := by decide +kernel
theorem qd_R_setJoin_63 : decode qb_R_setJoin 63 = .ok (.iaload, 1) := by decide +kernel
theorem qd_R_setJoin_64 : decode qb_R_setJoin 64 = .ok (.invokevirtual 32, 3) := by decide +kernel
theorem qd_R_setJoin_67 : decode qb_R_setJoin 67 = .ok (.iinc 4 (1), 3) := by decide +kernel
theorem qd_R_setJoin_70 : decode qb_R_setJoin 70 = .ok (.goto (-34), 3) := by decide +kernel
theorem qd_R_setJoin_73 : decode qb_R_setJoin 73 = .ok (.return_, 1) := by decide +kernel
theorem qd_R_hasJoin_0 : decode qb_R_hasJoin 0 = .ok (.aload_n 2, 1) := by decide +kernel
theorem qd_R_hasJoin_1 : decode qb_R_hasJoin 1 = .ok (.ifnonnull 5, 3) := by decide +kernel
theorem qd_R_hasJoin_4 : decode qb_R_hasJoin 4 = .ok (.iconst 0, 1) := by decide +kernel
theorem qd_R_hasJoin_5 : decode qb_R_hasJoin 5 = .ok (.ireturn, 1) := by decide +kernel
theorem qd_R_hasJoin_6 : decode qb_R_hasJoin 6 = .ok (.iconst 0, 1) := by decide +kernel
theorem qd_R_hasJoin_7 : decode qb_R_hasJoin 7 = .ok (.istore_n 3, 1) := by decide +kernel
theorem qd_R_hasJoin_8 : decode qb_R_hasJoin 8 = .ok (.iload_n 3, 1) := by decide +kernel
theorem qd_R_hasJoin_9 : decode qb_R_hasJoin 9 = .ok (.bipush 6, 2) := by decide +kernel
theorem qd_R_hasJoin_11 : decode qb_R_hasJoin 11 = .ok (.if_icmp .ge 35, 3) := by decide +kernel
theorem qd_R_hasJoin_14 : decode qb_R_hasJoin 14 = .ok (.iload_n 3, 1) := by decide +kernel
theorem qd_R_hasJoin_15 : decode qb_R_hasJoin 15 = .ok (.aload_n 2, 1) := by decide +kernel
theorem qd_R_hasJoin_16 : decode qb_R_hasJoin 16 = .ok (.arraylength, 1) := by decide +kernel
theorem qd_R_hasJoin_17 : decode qb_R_hasJoin 17 = .ok (.if_icmp .ge 29, 3) := by decide +kernel
theorem qd_R_hasJoin_20 : decode qb_R_hasJoin 20 = .ok (.aload_n 0, 1) := by decide +kernel
theorem qd_R_hasJoin_21 : decode qb_R_hasJoin 21 = .ok (.getfield 16, 3) := by decide +kernel
theorem qd_R_hasJoin_24 : decode qb_R_hasJoin 24 = .ok (.iload_n 1, 1) := by decide +kernel
theorem qd_R_hasJoin_25 : decode qb_R_hasJoin 25 = .ok (.bipush 6, 2) := by decide +kernel
theorem qd_R_hasJoin_27 : decode qb_R_hasJoin 27 = .ok (.iload_n 3, 1) := by decide +kernel
theorem qd_R_hasJoin_28 : decode qb_R_hasJoin 28 = .ok (.iadd, 1) := by decide +kernel
theorem qd_R_hasJoin_29 : decode qb_R_hasJoin 29 = .ok (.invokevirtual 24, 3) := by decide +kernel
theorem qd_R_hasJoin_32 : decode qb_R_hasJoin 32 = .ok (.aload_n 2, 1) := by decide +kernel
theorem qd_R_hasJoin_33 : decode qb_R_hasJoin 33 = .ok (.iload_n 3, 1) := by decide +kernel
theorem qd_R_hasJoin_34 : decode qb_R_hasJoin 34 = .ok (.iaload, 1) := by decide +kernel
theorem qd_R_hasJoin_35 : decode qb_R_hasJoin 35 = .ok (.if_icmp .eq 5, 3) := by decide +kernel
theorem qd_R_hasJoin_38 : decode qb_R_hasJoin 38 = .ok (.iconst 0, 1) := by decide +kernel
theorem qd_R_hasJoin_39 : decode qb_R_hasJoin 39 = .ok (.ireturn, 1) := by decide +kernel
theorem qd_R_hasJoin_40 : decode qb_R_hasJoin 40 = .ok (.iinc 3 (1), 3) := by decide +kernel
theorem qd_R_hasJoin_43 : decode qb_R_hasJoin 43 = .ok (.goto (-35), 3) := by decide +kernel
theorem qd_R_hasJoin_46 : decode qb_R_hasJoin 46 = .ok (.iconst 1, 1) := by decide +kernel
theorem qd_R_hasJoin_47 : decode qb_R_hasJoin 47 = .ok (.ireturn, 1) := by decide +kernel
theorem qd_R_waiting_0 : decode qb_R_waiting 0 = .ok (.iconst 0, 1) := by decide +kernel
theorem qd_R_waiting_1 : decode qb_R_waiting 1 = .ok (.istore_n 1, 1) := by decide +kernel
theorem qd_R_waiting_2 : decode qb_R_waiting 2 = .ok (.iconst 0, 1) := by decide +kernel
theorem qd_R_waiting_3 : decode qb_R_waiting 3 = .ok (.istore_n 2, 1) := by decide +kernel
theorem qd_R_waiting_4 : decode qb_R_waiting 4 = .ok (.iload_n 2, 1) := by decide +kernel
theorem qd_R_waiting_5 : decode qb_R_waiting 5 = .ok (.aload_n 0, 1) := by decide +kernel
theorem qd_R_waiting_6 : decode qb_R_waiting 6 = .ok (.getfield 16, 3) := by decide +kernel
theorem qd_R_waiting_9 : decode qb_R_waiting 9 = .ok (.invokevirtual 20, 3) := by decide +kernel
theorem qd_R_waiting_12 : decode qb_R_waiting 12 = .ok (.if_icmp .ge 21, 3) := by decide +kernel
theorem qd_R_waiting_15 : decode qb_R_waiting 15 = .ok (.iload_n 1, 1) := by decide +kernel
theorem qd_R_waiting_16 : decode qb_R_waiting 16 = .ok (.aload_n 0, 1) := by decide +kernel
theorem qd_R_waiting_17 : decode qb_R_waiting 17 = .ok (.getfield 16, 3) := by decide +kernel
theorem qd_R_waiting_20 : decode qb_R_waiting 20 = .ok (.iload_n 2, 1) := by decide +kernel
theorem qd_R_waiting_21 : decode qb_R_waiting 21 = .ok (.iconst 4, 1) := by decide +kernel
theorem qd_R_waiting_22 : decode qb_R_waiting 22 = .ok (.invokevirtual 24, 3) := by decide +kernel
theorem qd_R_waiting_25 : decode qb_R_waiting 25 = .ok (.iadd, 1) := by decide +kernel
theorem qd_R_waiting_26 : decode qb_R_waiting 26 = .ok (.istore_n 1, 1) := by decide +kernel
theorem qd_R_waiting_27 : decode qb_R_waiting 27 = .ok (.iinc 2 (1), 3) := by decide +kernel
theorem qd_R_waiting_30 : decode qb_R_waiting 30 = .ok (.goto (-26), 3) := by decide +kernel
theorem qd_R_waiting_33 : decode qb_R_waiting 33 = .ok (.iload_n 1, 1) := by decide +kernel
theorem qd_R_waiting_34 : decode qb_R_waiting 34 = .ok (.ireturn, 1) := by decide +kernel
theorem qd_R_anyWaits_0 : decode qb_R_anyWaits 0 = .ok (.iconst 0, 1) := by decide +kernel
theorem qd_R_anyWaits_1 : decode qb_R_anyWaits 1 = .ok (.istore 4, 2) := by decide +kernel
theorem qd_R_anyWaits_3 : decode qb_R_anyWaits 3 = .ok (.iload 4, 2) := by decide +kernel
theorem qd_R_anyWaits_5 : decode qb_R_anyWaits 5 = .ok (.aload_n 0, 1) := by decide +kernel
theorem qd_R_anyWaits_6 : decode qb_R_anyWaits 6 = .ok (.getfield 16, 3) := by decide +kernel
theorem qd_R_anyWaits_9 : decode qb_R_anyWaits 9 = .ok (.invokevirtual 20, 3) := by decide +kernel
theorem qd_R_anyWaits_12 : decode qb_R_anyWaits 12 = .ok (.if_icmp .ge 58, 3) := by decide +kernel
theorem qd_R_anyWaits_15 : decode qb_R_anyWaits 15 = .ok (.aload_n 0, 1) := by decide +kernel
theorem qd_R_anyWaits_16 : decode qb_R_anyWaits 16 = .ok (.getfield 16, 3) := by decide +kernel
theorem qd_R_anyWaits_19 : decode qb_R_anyWaits 19 = .ok (.iload 4, 2) := by decide +kernel
theorem qd_R_anyWaits_21 : decode qb_R_anyWaits 21 = .ok (.iconst 2, 1) := by decide +kernel
theorem qd_R_anyWaits_22 : decode qb_R_anyWaits 22 = .ok (.invokevirtual 24, 3) := by decide +kernel
theorem qd_R_anyWaits_25 : decode qb_R_anyWaits 25 = .ok (.istore 5, 2) := by decide +kernel
theorem qd_R_anyWaits_27 : decode qb_R_anyWaits 27 = .ok (.aload_n 0, 1) := by decide +kernel
theorem qd_R_anyWaits_28 : decode qb_R_anyWaits 28 = .ok (.iload 4, 2) := by decide +kernel
theorem qd_R_anyWaits_30 : decode qb_R_anyWaits 30 = .ok (.invokevirtual 36, 3) := by decide +kernel
theorem qd_R_anyWaits_33 : decode qb_R_anyWaits 33 = .ok (.ifCond .eq 31, 3) := by decide +kernel
theorem qd_R_anyWaits_36 : decode qb_R_anyWaits 36 = .ok (.aload_n 0, 1) := by decide +kernel
theorem qd_R_anyWaits_37 : decode qb_R_anyWaits 37 = .ok (.getfield 16, 3) := by decide +kernel
theorem qd_R_anyWaits_40 : decode qb_R_anyWaits 40 = .ok (.iload 4, 2) := by decide +kernel
theorem qd_R_anyWaits_42 : decode qb_R_anyWaits 42 = .ok (.iconst 1, 1) := by decide +kernel
theorem qd_R_anyWaits_43 : decode qb_R_anyWaits 43 = .ok (.invokevirtual 24, 3) := by decide +kernel
theorem qd_R_anyWaits_46 : decode qb_R_anyWaits 46 = .ok (.iload_n 1, 1) := by decide +kernel
theorem qd_R_anyWaits_47 : decode qb_R_anyWaits 47 = .ok (.if_icmp .ne 17, 3) := by decide +kernel
theorem qd_R_anyWaits_50 : decode qb_R_anyWaits 50 = .ok (.iload 5, 2) := by decide +kernel
theorem qd_R_anyWaits_52 : decode qb_R_anyWaits 52 = .ok (.iload_n 2, 1) := by decide +kernel
theorem qd_R_anyWaits_53 : decode qb_R_anyWaits 53 = .ok (.if_icmp .lt 11, 3) := by decide +kernel
theorem qd_R_anyWaits_56 : decode qb_R_anyWaits 56 = .ok (.iload 5, 2) := by decide +kernel
theorem qd_R_anyWaits_58 : decode qb_R_anyWaits 58 = .ok (.iload_n 3, 1) := by decide +kernel
theorem qd_R_anyWaits_59 : decode qb_R_anyWaits 59 = .ok (.if_icmp .gt 5, 3) := by decide +kernel
theorem qd_R_anyWaits_62 : decode qb_R_anyWaits 62 = .ok (.iconst 1, 1) := by decide +kernel
theorem qd_R_anyWaits_63 : decode qb_R_anyWaits 63 = .ok (.ireturn, 1) := by decide +kernel
theorem qd_R_anyWaits_64 : decode qb_R_anyWaits 64 = .ok (.iinc 4 (1), 3) := by decide +kernel
theorem qd_R_anyWaits_67 : decode qb_R_anyWaits 67 = .ok (.goto (-64), 3) := by decide +kernel
theorem qd_R_anyWaits_70 : decode qb_R_anyWaits 70 = .ok (.iconst 0, 1) := by decide +kernel
theorem qd_R_anyWaits_71 : decode qb_R_anyWaits 71 = .ok (.ireturn, 1) := by decide +kernel
theorem qd_R_dropJoined_0 : decode qb_R_dropJoined 0 = .ok (.aload_n 0, 1) := by decide +kernel
theorem qd_R_dropJoined_1 : decode qb_R_dropJoined 1 = .ok (.getfield 16, 3) := by decide +kernel
theorem qd_R_dropJoined_4 : decode qb_R_dropJoined 4 = .ok (.invokevirtual 20, 3) := by decide +kernel
theorem qd_R_dropJoined_7 : decode qb_R_dropJoined 7 = .ok (.istore_n 2, 1) := by decide +kernel
theorem qd_R_dropJoined_8 : decode qb_R_dropJoined 8 = .ok (.iload_n 2, 1) := by decide +kernel
theorem qd_R_dropJoined_9 : decode qb_R_dropJoined 9 = .ok (.iconst 1, 1) := by decide +kernel
theorem qd_R_dropJoined_10 : decode qb_R_dropJoined 10 = .ok (.isub, 1) := by decide +kernel
theorem qd_R_dropJoined_11 : decode qb_R_dropJoined 11 = .ok (.istore_n 3, 1) := by decide +kernel
theorem qd_R_dropJoined_12 : decode qb_R_dropJoined 12 = .ok (.iload_n 3, 1) := by decide +kernel
theorem qd_R_dropJoined_13 : decode qb_R_dropJoined 13 = .ok (.ifCond .lt 38, 3) := by decide +kernel
theorem qd_R_dropJoined_16 : decode qb_R_dropJoined 16 = .ok (.aload_n 0, 1) := by decide +kernel
theorem qd_R_dropJoined_17 : decode qb_R_dropJoined 17 = .ok (.iload_n 3, 1) := by decide +kernel
theorem qd_R_dropJoined_18 : decode qb_R_dropJoined 18 = .ok (.invokevirtual 36, 3) := by decide +kernel
theorem qd_R_dropJoined_21 : decode qb_R_dropJoined 21 = .ok (.ifCond .ne 24, 3) := by decide +kernel
theorem qd_R_dropJoined_24 : decode qb_R_dropJoined 24 = .ok (.aload_n 0, 1) := by decide +kernel
theorem qd_R_dropJoined_25 : decode qb_R_dropJoined 25 = .ok (.getfield 16, 3) := by decide +kernel
theorem qd_R_dropJoined_28 : decode qb_R_dropJoined 28 = .ok (.iload_n 3, 1) := by decide +kernel
theorem qd_R_dropJoined_29 : decode qb_R_dropJoined 29 = .ok (.iconst 2, 1) := by decide +kernel
theorem qd_R_dropJoined_30 : decode qb_R_dropJoined 30 = .ok (.invokevirtual 24, 3) := by decide +kernel
theorem qd_R_dropJoined_33 : decode qb_R_dropJoined 33 = .ok (.iload_n 1, 1) := by decide +kernel
theorem qd_R_dropJoined_34 : decode qb_R_dropJoined 34 = .ok (.if_icmp .gt 11, 3) := by decide +kernel
theorem qd_R_dropJoined_37 : decode qb_R_dropJoined 37 = .ok (.aload_n 0, 1) := by decide +kernel
theorem qd_R_dropJoined_38 : decode qb_R_dropJoined 38 = .ok (.getfield 16, 3) := by decide +kernel
theorem qd_R_dropJoined_41 : decode qb_R_dropJoined 41 = .ok (.iload_n 3, 1) := by decide +kernel
theorem qd_R_dropJoined_42 : decode qb_R_dropJoined 42 = .ok (.invokevirtual 39, 3) := by decide +kernel
theorem qd_R_dropJoined_45 : decode qb_R_dropJoined 45 = .ok (.iinc 3 (-1), 3) := by decide +kernel
theorem qd_R_dropJoined_48 : decode qb_R_dropJoined 48 = .ok (.goto (-36), 3) := by decide +kernel
theorem qd_R_dropJoined_51 : decode qb_R_dropJoined 51 = .ok (.iload_n 2, 1) := by decide +kernel
theorem qd_R_dropJoined_52 : decode qb_R_dropJoined 52 = .ok (.aload_n 0, 1) := by decide +kernel
theorem qd_R_dropJoined_53 : decode qb_R_dropJoined 53 = .ok (.getfield 16, 3) := by decide +kernel
theorem qd_R_dropJoined_56 : decode qb_R_dropJoined 56 = .ok (.invokevirtual 20, 3) := by decide +kernel
theorem qd_R_dropJoined_59 : decode qb_R_dropJoined 59 = .ok (.isub, 1) := by decide +kernel
theorem qd_R_dropJoined_60 : decode qb_R_dropJoined 60 = .ok (.ireturn, 1) := by decide +kernel
theorem qd_S_init_0 : decode qb_S_init 0 = .ok (.aload_n 0, 1) := by decide +kernel
theorem qd_S_init_1 : decode qb_S_init 1 = .ok (.invokespecial 3, 3) := by decide +kernel
theorem qd_S_init_4 : decode qb_S_init 4 = .ok (.aload_n 0, 1) := by decide +kernel
theorem qd_S_init_5 : decode qb_S_init 5 = .ok (.iconst 1, 1) := by decide +kernel
theorem qd_S_init_6 : decode qb_S_init 6 = .ok (.iload_n 1, 1) := by decide +kernel
theorem qd_S_init_7 : decode qb_S_init 7 = .ok (.invokestatic 9, 3) := by decide +kernel
theorem qd_S_init_10 : decode qb_S_init 10 = .ok (.putfield 15, 3) := by decide +kernel
theorem qd_S_init_13 : decode qb_S_init 13 = .ok (.aload_n 0, 1) := by decide +kernel
theorem qd_S_init_14 : decode qb_S_init 14 = .ok (.iconst 0, 1) := by decide +kernel
theorem qd_S_init_15 : decode qb_S_init 15 = .ok (.iload_n 2, 1) := by decide +kernel
theorem qd_S_init_16 : decode qb_S_init 16 = .ok (.invokestatic 9, 3) := by decide +kernel
theorem qd_S_init_19 : decode qb_S_init 19 = .ok (.putfield 21, 3) := by decide +kernel
theorem qd_S_init_22 : decode qb_S_init 22 = .ok (.aload_n 0, 1) := by decide +kernel
theorem qd_S_init_23 : decode qb_S_init 23 = .ok (.aload_n 0, 1) := by decide +kernel
theorem qd_S_init_24 : decode qb_S_init 24 = .ok (.getfield 15, 3) := by decide +kernel
theorem qd_S_init_27 : decode qb_S_init 27 = .ok (.aload_n 0, 1) := by decide +kernel
theorem qd_S_init_28 : decode qb_S_init 28 = .ok (.getfield 21, 3) := by decide +kernel
theorem qd_S_init_31 : decode qb_S_init 31 = .ok (.imul, 1) := by decide +kernel
theorem qd_S_init_32 : decode qb_S_init 32 = .ok (.newarray .int, 2) := by decide +kernel
theorem qd_S_init_34 : decode qb_S_init 34 = .ok (.putfield 24, 3) := by decide +kernel
theorem qd_S_init_37 : decode qb_S_init 37 = .ok (.return_, 1) := by decide +kernel
theorem qd_S_size_0 : decode qb_S_size 0 = .ok (.aload_n 0, 1) := by decide +kernel
theorem qd_S_size_1 : decode qb_S_size 1 = .ok (.getfield 28, 3) := by decide +kernel
theorem qd_S_size_4 : decode qb_S_size 4 = .ok (.ireturn, 1) := by decide +kernel
theorem qd_S_get_0 : decode qb_S_get 0 = .ok (.iload_n 1, 1) := by decide +kernel
theorem qd_S_get_1 : decode qb_S_get 1 = .ok (.ifCond .lt 23, 3) := by decide +kernel
theorem qd_S_get_4 : decode qb_S_get 4 = .ok (.iload_n 1, 1) := by decide +kernel
theorem qd_S_get_5 : decode qb_S_get 5 = .ok (.aload_n 0, 1) := by decide +kernel
theorem qd_S_get_6 : decode qb_S_get 6 = .ok (.getfield 28, 3) := by decide +kernel
theorem qd_S_get_9 : decode qb_S_get 9 = .ok (.if_icmp .ge 15, 3) := by decide +kernel
theorem qd_S_get_12 : decode qb_S_get 12 = .ok (.iload_n 2, 1) := by decide +kernel
theorem qd_S_get_13 : decode qb_S_get 13 = .ok (.ifCond .lt 11, 3) := by decide +kernel
theorem qd_S_get_16 : decode qb_S_get 16 = .ok (.iload_n 2, 1) := by decide +kernel
theorem qd_S_get_17 : decode qb_S_get 17 = .ok (.aload_n 0, 1) := by decide +kernel
theorem qd_S_get_18 : decode qb_S_get 18 = .ok (.getfield 15, 3) := by decide +kernel
theorem qd_S_get_21 : decode qb_S_get 21 = .ok (.if_icmp .lt 6, 3) := by decide +kernel
theorem qd_S_get_24 : decode qb_S_get 24 = .ok (.bipush (-2), 2) := by decide +kernel
theorem qd_S_get_26 : decode qb_S_get 26 = .ok (.ireturn, 1) := by decide +kernel
theorem qd_S_get_27 : decode qb_S_get 27 = .ok (.aload_n 0, 1) := by decide +kernel
theorem qd_S_get_28 : decode qb_S_get 28 = .ok (.getfield 24, 3) := by decide +kernel
theorem qd_S_get_31 : decode qb_S_get 31 = .ok (.iload_n 1, 1) := by decide +kernel
theorem qd_S_get_32 : decode qb_S_get 32 = .ok (.aload_n 0, 1) := by decide +kernel
theorem qd_S_get_33 : decode qb_S_get 33 = .ok (.getfield 15, 3) := by decide +kernel
theorem qd_S_get_36 : decode qb_S_get 36 = .ok (.imul, 1) := by decide +kernel
theorem qd_S_get_37 : decode qb_S_get 37 = .ok (.iload_n 2, 1) := by decide +kernel
theorem qd_S_get_38 : decode qb_S_get 38 = .ok (.iadd, 1) := by decide +kernel
theorem qd_S_get_39 : decode qb_S_get 39 = .ok (.iaload, 1) := by decide +kernel
theorem qd_S_get_40 : decode qb_S_get 40 = .ok (.ireturn, 1) := by decide +kernel
theorem qd_S_set_0 : decode qb_S_set 0 = .ok (.iload_n 1, 1) := by decide +kernel
theorem qd_S_set_1 : decode qb_S_set 1 = .ok (.ifCond .lt 23, 3) := by decide +kernel
theorem qd_S_set_4 : decode qb_S_set 4 = .ok (.iload_n 1, 1) := by decide +kernel
theorem qd_S_set_5 : decode qb_S_set 5 = .ok (.aload_n 0, 1) := by decide +kernel
theorem qd_S_set_6 : decode qb_S_set 6 = .ok (.getfield 28, 3) := by decide +kernel
theorem qd_S_set_9 : decode qb_S_set 9 = .ok (.if_icmp .ge 15, 3) := by decide +kernel
theorem qd_S_set_12 : decode qb_S_set 12 = .ok (.iload_n 2, 1) := by decide +kernel
theorem qd_S_set_13 : decode qb_S_set 13 = .ok (.ifCond .lt 11, 3) := by decide +kernel
theorem qd_S_set_16 : decode qb_S_set 16 = .ok (.iload_n 2, 1) := by decide +kernel
theorem qd_S_set_17 : decode qb_S_set 17 = .ok (.aload_n 0, 1) := by decide +kernel
theorem qd_S_set_18 : decode qb_S_set 18 = .ok (.getfield 15, 3) := by decide +kernel
theorem qd_S_set_21 : decode qb_S_set 21 = .ok (.if_icmp .lt 4, 3) := by decide +kernel
theorem qd_S_set_24 : decode qb_S_set 24 = .ok (.return_, 1) := by decide +kernel
theorem qd_S_set_25 : decode qb_S_set 25 = .ok (.aload_n 0, 1) := by decide +kernel
theorem qd_S_set_26 : decode qb_S_set 26 = .ok (.getfield 24, 3) := by decide +kernel
theorem qd_S_set_29 : decode qb_S_set 29 = .ok (.iload_n 1, 1) := by decide +kernel
theorem qd_S_set_30 : decode qb_S_set 30 = .ok (.aload_n 0, 1) := by decide +kernel
theorem qd_S_set_31 : decode qb_S_set 31 = .ok (.getfield 15, 3) := by decide +kernel
theorem qd_S_set_34 : decode qb_S_set 34 = .ok (.imul, 1) := by decide +kernel
theorem qd_S_set_35 : decode qb_S_set 35 = .ok (.iload_n 2, 1) := by decide +kernel
theorem qd_S_set_36 : decode qb_S_set 36 = .ok (.iadd, 1) := by decide +kernel
theorem qd_S_set_37 : decode qb_S_set 37 = .ok (.iload_n 3, 1) := by decide +kernel
theorem qd_S_set_38 : decode qb_S_set 38 = .ok (.iastore, 1) := by decide +kernel
theorem qd_S_set_39 : decode qb_S_set 39 = .ok (.return_, 1) := by decide +kernel
theorem qd_S_open_0 : decode qb_S_open 0 = .ok (.iload_n 1, 1) := by decide +kernel
theorem qd_S_open_1 : decode qb_S_open 1 = .ok (.ifCond .lt 22, 3) := by decide +kernel
theorem qd_S_open_4 : decode qb_S_open 4 = .ok (.iload_n 1, 1) := by decide +kernel
theorem qd_S_open_5 : decode qb_S_open 5 = .ok (.aload_n 0, 1) := by decide +kernel
theorem qd_S_open_6 : decode qb_S_open 6 = .ok (.getfield 28, 3) := by decide +kernel
theorem qd_S_open_9 : decode qb_S_open 9 = .ok (.if_icmp .gt 14, 3) := by decide +kernel
theorem qd_S_open_12 : decode qb_S_open 12 = .ok (.aload_n 0, 1) := by decide +kernel
theorem qd_S_open_13 : decode qb_S_open 13 = .ok (.getfield 28, 3) := by decide +kernel
theorem qd_S_open_16 : decode qb_S_open 16 = .ok (.aload_n 0, 1) := by decide +kernel
theorem qd_S_open_17 : decode qb_S_open 17 = .ok (.getfield 21, 3) := by decide +kernel
theorem qd_S_open_20 : decode qb_S_open 20 = .ok (.if_icmp .lt 5, 3) := by decide +kernel
theorem qd_S_open_23 : decode qb_S_open 23 = .ok (.iconst 0, 1) := by decide +kernel
theorem qd_S_open_24 : decode qb_S_open 24 = .ok (.ireturn, 1) := by decide +kernel
theorem qd_S_open_25 : decode qb_S_open 25 = .ok (.iload_n 1, 1) := by decide +kernel
theorem qd_S_open_26 : decode qb_S_open 26 = .ok (.aload_n 0, 1) := by decide +kernel
theorem qd_S_open_27 : decode qb_S_open 27 = .ok (.getfield 15, 3) := by decide +kernel
theorem qd_S_open_30 : decode qb_S_open 30 = .ok (.imul, 1) := by decide +kernel
theorem qd_S_open_31 : decode qb_S_open 31 = .ok (.istore_n 2, 1) := by decide +kernel
theorem qd_S_open_32 : decode qb_S_open 32 = .ok (.aload_n 0, 1) := by decide +kernel
theorem qd_S_open_33 : decode qb_S_open 33 = .ok (.getfield 24, 3) := by decide +kernel
theorem qd_S_open_36 : decode qb_S_open 36 = .ok (.iload_n 2, 1) := by decide +kernel
theorem qd_S_open_37 : decode qb_S_open 37 = .ok (.aload_n 0, 1) := by decide +kernel
theorem qd_S_open_38 : decode qb_S_open 38 = .ok (.getfield 24, 3) := by decide +kernel
theorem qd_S_open_41 : decode qb_S_open 41 = .ok (.iload_n 2, 1) := by decide +kernel
theorem qd_S_open_42 : decode qb_S_open 42 = .ok (.aload_n 0, 1) := by decide +kernel
theorem qd_S_open_43 : decode qb_S_open 43 = .ok (.getfield 15, 3) := by decide +kernel
theorem qd_S_open_46 : decode qb_S_open 46 = .ok (.iadd, 1) := by decide +kernel
theorem qd_S_open_47 : decode qb_S_open 47 = .ok (.aload_n 0, 1) := by decide +kernel
theorem qd_S_open_48 : decode qb_S_open 48 = .ok (.getfield 28, 3) := by decide +kernel
theorem qd_S_open_51 : decode qb_S_open 51 = .ok (.iload_n 1, 1) := by decide +kernel
theorem qd_S_open_52 : decode qb_S_open 52 = .ok (.isub, 1) := by decide +kernel
theorem qd_S_open_53 : decode qb_S_open 53 = .ok (.aload_n 0, 1) := by decide +kernel
theorem qd_S_open_54 : decode qb_S_open 54 = .ok (.getfield 15, 3) := by decide +kernel
theorem qd_S_open_57 : decode qb_S_open 57 = .ok (.imul, 1) := by decide +kernel
theorem qd_S_open_58 : decode qb_S_open 58 = .ok (.invokestatic 31, 3) := by decide +kernel
theorem qd_S_open_61 : decode qb_S_open 61 = .ok (.aload_n 0, 1) := by decide +kernel
theorem qd_S_open_62 : decode qb_S_open 62 = .ok (.dup, 1) := by decide +kernel
theorem qd_S_open_63 : decode qb_S_open 63 = .ok (.getfield 28, 3) := by decide +kernel
theorem qd_S_open_66 : decode qb_S_open 66 = .ok (.iconst 1, 1) := by decide +kernel
theorem qd_S_open_67 : decode qb_S_open 67 = .ok (.iadd, 1) := by decide +kernel
theorem qd_S_open_68 : decode qb_S_open 68 = .ok (.putfield 28, 3) := by decide +kernel
theorem qd_S_open_71 : decode qb_S_open 71 = .ok (.iconst 1, 1) := by decide +kernel
theorem qd_S_open_72 : decode qb_S_open 72 = .ok (.ireturn, 1) := by decide +kernel
theorem qd_S_drop_0 : decode qb_S_drop 0 = .ok (.iload_n 1, 1) := by decide +kernel
theorem qd_S_drop_1 : decode qb_S_drop 1 = .ok (.ifCond .lt 11, 3) := by decide +kernel
theorem qd_S_drop_4 : decode qb_S_drop 4 = .ok (.iload_n 1, 1) := by decide +kernel
theorem qd_S_drop_5 : decode qb_S_drop 5 = .ok (.aload_n 0, 1) := by decide +kernel
theorem qd_S_drop_6 : decode qb_S_drop 6 = .ok (.getfield 28, 3) := by decide +kernel
theorem qd_S_drop_9 : decode qb_S_drop 9 = .ok (.if_icmp .lt 4, 3) := by decide +kernel
theorem qd_S_drop_12 : decode qb_S_drop 12 = .ok (.return_, 1) := by decide +kernel
theorem qd_S_drop_13 : decode qb_S_drop 13 = .ok (.iload_n 1, 1) := by decide +kernel
theorem qd_S_drop_14 : decode qb_S_drop 14 = .ok (.iconst 1, 1) := by decide +kernel
theorem qd_S_drop_15 : decode qb_S_drop 15 = .ok (.iadd, 1) := by decide +kernel
theorem qd_S_drop_16 : decode qb_S_drop 16 = .ok (.aload_n 0, 1) := by decide +kernel
theorem qd_S_drop_17 : decode qb_S_drop 17 = .ok (.getfield 15, 3) := by decide +kernel
theorem qd_S_drop_20 : decode qb_S_drop 20 = .ok (.imul, 1) := by decide +kernel
theorem qd_S_drop_21 : decode qb_S_drop 21 = .ok (.istore_n 2, 1) := by decide +kernel
theorem qd_S_drop_22 : decode qb_S_drop 22 = .ok (.aload_n 0, 1) := by decide +kernel
theorem qd_S_drop_23 : decode qb_S_drop 23 = .ok (.getfield 24, 3) := by decide +kernel
theorem qd_S_drop_26 : decode qb_S_drop 26 = .ok (.iload_n 2, 1) := by decide +kernel
theorem qd_S_drop_27 : decode qb_S_drop 27 = .ok (.aload_n 0, 1) := by decide +kernel
theorem qd_S_drop_28 : decode qb_S_drop 28 = .ok (.getfield 24, 3) := by decide +kernel
theorem qd_S_drop_31 : decode qb_S_drop 31 = .ok (.iload_n 2, 1) := by decide +kernel
theorem qd_S_drop_32 : decode qb_S_drop 32 = .ok (.aload_n 0, 1) := by decide +kernel
theorem qd_S_drop_33 : decode qb_S_drop 33 = .ok (.getfield 15, 3) := by decide +kernel
theorem qd_S_drop_36 : decode qb_S_drop 36 = .ok (.isub, 1) := by decide +kernel
theorem qd_S_drop_37 : decode qb_S_drop 37 = .ok (.aload_n 0, 1) := by decide +kernel
theorem qd_S_drop_38 : decode qb_S_drop 38 = .ok (.getfield 28, 3) := by decide +kernel
theorem qd_S_drop_41 : decode qb_S_drop 41 = .ok (.aload_n 0, 1) := by decide +kernel
theorem qd_S_drop_42 : decode qb_S_drop 42 = .ok (.getfield 15, 3) := by decide +kernel
theorem qd_S_drop_45 : decode qb_S_drop 45 = .ok (.imul, 1) := by decide +kernel
theorem qd_S_drop_46 : decode qb_S_drop 46 = .ok (.iload_n 2, 1) := by decide +kernel
theorem qd_S_drop_47 : decode qb_S_drop 47 = .ok (.isub, 1) := by decide +kernel
theorem qd_S_drop_48 : decode qb_S_drop 48 = .ok (.invokestatic 31, 3) := by decide +kernel
theorem qd_S_drop_51 : decode qb_S_drop 51 = .ok (.aload_n 0, 1) := by decide +kernel
theorem qd_S_drop_52 : decode qb_S_drop 52 = .ok (.dup, 1) := by decide +kernel
theorem qd_S_drop_53 : decode qb_S_drop 53 = .ok (.getfield 28, 3) := by decide +kernel
theorem qd_S_drop_56 : decode qb_S_drop 56 = .ok (.iconst 1, 1) := by decide +kernel
theorem qd_S_drop_57 : decode qb_S_drop 57 = .ok (.isub, 1) := by decide +kernel
theorem qd_S_drop_58 : decode qb_S_drop 58 = .ok (.putfield 28, 3) := by decide +kernel
theorem qd_S_drop_61 : decode qb_S_drop 61 = .ok (.return_, 1) := by decide +kernel
theorem qd_S_clear_0 : decode qb_S_clear 0 = .ok (.aload_n 0, 1) := by decide +kernel
theorem qd_S_clear_1 : decode qb_S_clear 1 = .ok (.iconst 0, 1) := by decide +kernel
theorem qd_S_clear_2 : decode qb_S_clear 2 = .ok (.putfield 28, 3) := by decide +kernel
theorem qd_S_clear_5 : decode qb_S_clear 5 = .ok (.return_, 1) := by decide +kernel
theorem qd_V_init_0 : decode qb_V_init 0 = .ok (.aload_n 0, 1) := by decide +kernel
theorem qd_V_init_1 : decode qb_V_init 1 = .ok (.invokespecial 3, 3) := by decide +kernel
theorem qd_V_init_4 : decode qb_V_init 4 = .ok (.aload_n 0, 1) := by decide +kernel
theorem qd_V_init_5 : decode qb_V_init 5 = .ok (.new 9, 3) := by decide +kernel
theorem qd_V_init_8 : decode qb_V_init 8 = .ok (.dup, 1) := by decide +kernel
theorem qd_V_init_9 : decode qb_V_init 9 = .ok (.iconst 3, 1) := by decide +kernel
theorem qd_V_init_10 : decode qb_V_init 10 = .ok (.sipush 160, 3) := by decide +kernel
theorem qd_V_init_13 : decode qb_V_init 13 = .ok (.invokespecial 13, 3) := by decide +kernel
theorem qd_V_init_16 : decode qb_V_init 16 = .ok (.putfield 16, 3) := by decide +kernel
theorem qd_V_init_19 : decode qb_V_init 19 = .ok (.return_, 1) := by decide +kernel
theorem qd_V_size_0 : decode qb_V_size 0 = .ok (.aload_n 0, 1) := by decide +kernel
theorem qd_V_size_1 : decode qb_V_size 1 = .ok (.getfield 16, 3) := by decide +kernel
theorem qd_V_size_4 : decode qb_V_size 4 = .ok (.invokevirtual 20, 3) := by decide +kernel
theorem qd_V_size_7 : decode qb_V_size 7 = .ok (.ireturn, 1) := by decide +kernel
theorem qd_V_get_0 : decode qb_V_get 0 = .ok (.aload_n 0, 1) := by decide +kernel
theorem qd_V_get_1 : decode qb_V_get 1 = .ok (.getfield 16, 3) := by decide +kernel
theorem qd_V_get_4 : decode qb_V_get 4 = .ok (.iload_n 1, 1) := by decide +kernel
theorem qd_V_get_5 : decode qb_V_get 5 = .ok (.iload_n 2, 1) := by decide +kernel
theorem qd_V_get_6 : decode qb_V_get 6 = .ok (.invokevirtual 24, 3) := by decide +kernel
theorem qd_V_get_9 : decode qb_V_get 9 = .ok (.ireturn, 1) := by decide +kernel
theorem qd_V_drop_0 : decode qb_V_drop 0 = .ok (.aload_n 0, 1) := by decide +kernel
theorem qd_V_drop_1 : decode qb_V_drop 1 = .ok (.getfield 16, 3) := by decide +kernel
theorem qd_V_drop_4 : decode qb_V_drop 4 = .ok (.iload_n 1, 1) := by decide +kernel
theorem qd_V_drop_5 : decode qb_V_drop 5 = .ok (.invokevirtual 28, 3) := by decide +kernel
theorem qd_V_drop_8 : decode qb_V_drop 8 = .ok (.return_, 1) := by decide +kernel
theorem qd_V_startOf_0 : decode qb_V_startOf 0 = .ok (.aload_n 0, 1) := by decide +kernel
theorem qd_V_startOf_1 : decode qb_V_startOf 1 = .ok (.iload_n 1, 1) := by decide +kernel
theorem qd_V_startOf_2 : decode qb_V_startOf 2 = .ok (.iconst 0, 1) := by decide +kernel
theorem qd_V_startOf_3 : decode qb_V_startOf 3 = .ok (.invokevirtual 32, 3) := by decide +kernel
theorem qd_V_startOf_6 : decode qb_V_startOf 6 = .ok (.ireturn, 1) := by decide +kernel
theorem qd_V_sizeAt_0 : decode qb_V_sizeAt 0 = .ok (.aload_n 0, 1) := by decide +kernel
theorem qd_V_sizeAt_1 : decode qb_V_sizeAt 1 = .ok (.iload_n 1, 1) := by decide +kernel
theorem qd_V_sizeAt_2 : decode qb_V_sizeAt 2 = .ok (.ldc 35, 2) := by decide +kernel
theorem qd_V_sizeAt_4 : decode qb_V_sizeAt 4 = .ok (.invokevirtual 32, 3) := by decide +kernel
theorem qd_V_sizeAt_7 : decode qb_V_sizeAt 7 = .ok (.aload_n 0, 1) := by decide +kernel
theorem qd_V_sizeAt_8 : decode qb_V_sizeAt 8 = .ok (.iload_n 1, 1) := by decide +kernel
theorem qd_V_sizeAt_9 : decode qb_V_sizeAt 9 = .ok (.invokevirtual 36, 3) := by decide +kernel
theorem qd_V_sizeAt_12 : decode qb_V_sizeAt 12 = .ok (.isub, 1) := by decide +kernel
theorem qd_V_sizeAt_13 : decode qb_V_sizeAt 13 = .ok (.ireturn, 1) := by decide +kernel
theorem qd_V_lineAsOf_0 : decode qb_V_lineAsOf 0 = .ok (.aload_n 0, 1) := by decide +kernel
theorem qd_V_lineAsOf_1 : decode qb_V_lineAsOf 1 = .ok (.iload_n 1, 1) := by decide +kernel
theorem qd_V_lineAsOf_2 : decode qb_V_lineAsOf 2 = .ok (.iload_n 2, 1) := by decide +kernel
theorem qd_V_lineAsOf_3 : decode qb_V_lineAsOf 3 = .ok (.invokevirtual 32, 3) := by decide +kernel
theorem qd_V_lineAsOf_6 : decode qb_V_lineAsOf 6 = .ok (.iconst 1, 1) := by decide +kernel
theorem qd_V_lineAsOf_7 : decode qb_V_lineAsOf 7 = .ok (.isub, 1) := by decide +kernel
theorem qd_V_lineAsOf_8 : decode qb_V_lineAsOf 8 = .ok (.istore_n 3, 1) := by decide +kernel
theorem qd_V_lineAsOf_9 : decode qb_V_lineAsOf 9 = .ok (.aload_n 0, 1) := by decide +kernel
theorem qd_V_lineAsOf_10 : decode qb_V_lineAsOf 10 = .ok (.getfield 16, 3) := by decide +kernel
theorem qd_V_lineAsOf_13 : decode qb_V_lineAsOf 13 = .ok (.iload_n 3, 1) := by decide +kernel
theorem qd_V_lineAsOf_14 : decode qb_V_lineAsOf 14 = .ok (.iconst 2, 1) := by decide +kernel
theorem qd_V_lineAsOf_15 : decode qb_V_lineAsOf 15 = .ok (.invokevirtual 24, 3) := by decide +kernel
theorem qd_V_lineAsOf_18 : decode qb_V_lineAsOf 18 = .ok (.iload_n 1, 1) := by decide +kernel
theorem qd_V_lineAsOf_19 : decode qb_V_lineAsOf 19 = .ok (.if_icmp .ne 20, 3) := by decide +kernel
theorem qd_V_lineAsOf_22 : decode qb_V_lineAsOf 22 = .ok (.aload_n 0, 1) := by decide +kernel
theorem qd_V_lineAsOf_23 : decode qb_V_lineAsOf 23 = .ok (.getfield 16, 3) := by decide +kernel
theorem qd_V_lineAsOf_26 : decode qb_V_lineAsOf 26 = .ok (.iload_n 3, 1) := by decide +kernel
theorem qd_V_lineAsOf_27 : decode qb_V_lineAsOf 27 = .ok (.iconst 1, 1) := by decide +kernel
theorem qd_V_lineAsOf_28 : decode qb_V_lineAsOf 28 = .ok (.invokevirtual 24, 3) := by decide +kernel
theorem qd_V_lineAsOf_31 : decode qb_V_lineAsOf 31 = .ok (.iconst (-1), 1) := by decide +kernel
theorem qd_V_lineAsOf_32 : decode qb_V_lineAsOf 32 = .ok (.if_icmp .eq 7, 3) := by decide +kernel
theorem qd_V_lineAsOf_35 : decode qb_V_lineAsOf 35 = .ok (.iload_n 3, 1) := by decide +kernel
theorem qd_V_lineAsOf_36 : decode qb_V_lineAsOf 36 = .ok (.goto (4), 3) := by decide +kernel
theorem qd_V_lineAsOf_39 : decode qb_V_lineAsOf 39 = .ok (.iconst (-1), 1) := by decide +kernel
theorem qd_V_lineAsOf_40 : decode qb_V_lineAsOf 40 = .ok (.ireturn, 1) := by decide +kernel
theorem qd_V_put_0 : decode qb_V_put 0 = .ok (.aload_n 0, 1) := by decide +kernel
theorem qd_V_put_1 : decode qb_V_put 1 = .ok (.iload_n 1, 1) := by decide +kernel
theorem qd_V_put_2 : decode qb_V_put 2 = .ok (.iload_n 2, 1) := by decide +kernel
theorem qd_V_put_3 : decode qb_V_put 3 = .ok (.invokevirtual 32, 3) := by decide +kernel
theorem qd_V_put_6 : decode qb_V_put 6 = .ok (.istore 4, 2) := by decide +kernel
theorem qd_V_put_8 : decode qb_V_put 8 = .ok (.aload_n 0, 1) := by decide +kernel
theorem qd_V_put_9 : decode qb_V_put 9 = .ok (.getfield 16, 3) := by decide +kernel
theorem qd_V_put_12 : decode qb_V_put 12 = .ok (.iload 4, 2) := by decide +kernel
theorem qd_V_put_14 : decode qb_V_put 14 = .ok (.iconst 1, 1) := by decide +kernel
theorem qd_V_put_15 : decode qb_V_put 15 = .ok (.isub, 1) := by decide +kernel
theorem qd_V_put_16 : decode qb_V_put 16 = .ok (.iconst 2, 1) := by decide +kernel
theorem qd_V_put_17 : decode qb_V_put 17 = .ok (.invokevirtual 24, 3) := by decide +kernel
theorem qd_V_put_20 : decode qb_V_put 20 = .ok (.iload_n 1, 1) := by decide +kernel
theorem qd_V_put_21 : decode qb_V_put 21 = .ok (.if_icmp .ne 35, 3) := by decide +kernel
theorem qd_V_put_24 : decode qb_V_put 24 = .ok (.aload_n 0, 1) := by decide +kernel
theorem qd_V_put_25 : decode qb_V_put 25 = .ok (.getfield 16, 3) := by decide +kernel
theorem qd_V_put_28 : decode qb_V_put 28 = .ok (.iload 4, 2) := by decide +kernel
theorem qd_V_put_30 : decode qb_V_put 30 = .ok (.iconst 1, 1) := by decide +kernel
theorem qd_V_put_31 : decode qb_V_put 31 = .ok (.isub, 1) := by decide +kernel
theorem qd_V_put_32 : decode qb_V_put 32 = .ok (.iconst 0, 1) := by decide +kernel
theorem qd_V_put_33 : decode qb_V_put 33 = .ok (.invokevirtual 24, 3) := by decide +kernel
theorem qd_V_put_36 : decode qb_V_put 36 = .ok (.iload_n 2, 1) := by decide +kernel
theorem qd_V_put_37 : decode qb_V_put 37 = .ok (.if_icmp .ne 19, 3) := by decide +kernel
theorem qd_V_put_40 : decode qb_V_put 40 = .ok (.aload_n 0, 1) := by decide +kernel
theorem qd_V_put_41 : decode qb_V_put 41 = .ok (.getfield 16, 3) := by decide +kernel
theorem qd_V_put_44 : decode qb_V_put 44 = .ok (.iload 4, 2) := by decide +kernel
theorem qd_V_put_46 : decode qb_V_put 46 = .ok (.iconst 1, 1) := by decide +kernel
theorem qd_V_put_47 : decode qb_V_put 47 = .ok (.isub, 1) := by decide +kernel
theorem qd_V_put_48 : decode qb_V_put 48 = .ok (.iconst 1, 1) := by decide +kernel
theorem qd_V_put_49 : decode qb_V_put 49 = .ok (.iload_n 3, 1) := by decide +kernel
theorem qd_V_put_50 : decode qb_V_put 50 = .ok (.invokevirtual 40, 3) := by decide +kernel
theorem qd_V_put_53 : decode qb_V_put 53 = .ok (.goto (48), 3) := by decide +kernel
theorem qd_V_put_56 : decode qb_V_put 56 = .ok (.aload_n 0, 1) := by decide +kernel
theorem qd_V_put_57 : decode qb_V_put 57 = .ok (.getfield 16, 3) := by decide +kernel
theorem qd_V_put_60 : decode qb_V_put 60 = .ok (.iload 4, 2) := by decide +kernel
theorem qd_V_put_62 : decode qb_V_put 62 = .ok (.invokevirtual 44, 3) := by decide +kernel
theorem qd_V_put_65 : decode qb_V_put 65 = .ok (.ifCond .eq 36, 3) := by decide +kernel
theorem qd_V_put_68 : decode qb_V_put 68 = .ok (.aload_n 0, 1) := by decide +kernel
theorem qd_V_put_69 : decode qb_V_put 69 = .ok (.getfield 16, 3) := by decide +kernel
theorem qd_V_put_72 : decode qb_V_put 72 = .ok (.iload 4, 2) := by decide +kernel
theorem qd_V_put_74 : decode qb_V_put 74 = .ok (.iconst 0, 1) := by decide +kernel
theorem qd_V_put_75 : decode qb_V_put 75 = .ok (.iload_n 2, 1) := by decide +kernel
theorem qd_V_put_76 : decode qb_V_put 76 = .ok (.invokevirtual 40, 3) := by decide +kernel
theorem qd_V_put_79 : decode qb_V_put 79 = .ok (.aload_n 0, 1) := by decide +kernel
theorem qd_V_put_80 : decode qb_V_put 80 = .ok (.getfield 16, 3) := by decide +kernel
theorem qd_V_put_83 : decode qb_V_put 83 = .ok (.iload 4, 2) := by decide +kernel
theorem qd_V_put_85 : decode qb_V_put 85 = .ok (.iconst 1, 1) := by decide +kernel
theorem qd_V_put_86 : decode qb_V_put 86 = .ok (.iload_n 3, 1) := by decide +kernel
theorem qd_V_put_87 : decode qb_V_put 87 = .ok (.invokevirtual 40, 3) := by decide +kernel
theorem qd_V_put_90 : decode qb_V_put 90 = .ok (.aload_n 0, 1) := by decide +kernel
theorem qd_V_put_91 : decode qb_V_put 91 = .ok (.getfield 16, 3) := by decide +kernel
theorem qd_V_put_94 : decode qb_V_put 94 = .ok (.iload 4, 2) := by decide +kernel
theorem qd_V_put_96 : decode qb_V_put 96 = .ok (.iconst 2, 1) := by decide +kernel
theorem qd_V_put_97 : decode qb_V_put 97 = .ok (.iload_n 1, 1) := by decide +kernel
theorem qd_V_put_98 : decode qb_V_put 98 = .ok (.invokevirtual 40, 3) := by decide +kernel
theorem qd_V_put_101 : decode qb_V_put 101 = .ok (.return_, 1) := by decide +kernel
theorem qd_V_linesUpTo_0 : decode qb_V_linesUpTo 0 = .ok (.iconst 0, 1) := by decide +kernel
theorem qd_V_linesUpTo_1 : decode qb_V_linesUpTo 1 = .ok (.istore_n 3, 1) := by decide +kernel
theorem qd_V_linesUpTo_2 : decode qb_V_linesUpTo 2 = .ok (.sipush 128, 3) := by decide +kernel
theorem qd_V_linesUpTo_5 : decode qb_V_linesUpTo 5 = .ok (.istore 4, 2) := by decide +kernel
theorem qd_V_linesUpTo_7 : decode qb_V_linesUpTo 7 = .ok (.iload 4, 2) := by decide +kernel
theorem qd_V_linesUpTo_9 : decode qb_V_linesUpTo 9 = .ok (.ifCond .le 87, 3) := by decide +kernel
theorem qd_V_linesUpTo_12 : decode qb_V_linesUpTo 12 = .ok (.iload_n 3, 1) := by decide +kernel
theorem qd_V_linesUpTo_13 : decode qb_V_linesUpTo 13 = .ok (.iload 4, 2) := by decide +kernel
theorem qd_V_linesUpTo_15 : decode qb_V_linesUpTo 15 = .ok (.iadd, 1) := by decide +kernel
theorem qd_V_linesUpTo_16 : decode qb_V_linesUpTo 16 = .ok (.iconst 1, 1) := by decide +kernel
theorem qd_V_linesUpTo_17 : decode qb_V_linesUpTo 17 = .ok (.isub, 1) := by decide +kernel
theorem qd_V_linesUpTo_18 : decode qb_V_linesUpTo 18 = .ok (.istore 5, 2) := by decide +kernel
theorem qd_V_linesUpTo_20 : decode qb_V_linesUpTo 20 = .ok (.aload_n 0, 1) := by decide +kernel
theorem qd_V_linesUpTo_21 : decode qb_V_linesUpTo 21 = .ok (.getfield 16, 3) := by decide +kernel
theorem qd_V_linesUpTo_24 : decode qb_V_linesUpTo 24 = .ok (.iload 5, 2) := by decide +kernel
theorem qd_V_linesUpTo_26 : decode qb_V_linesUpTo 26 = .ok (.iconst 2, 1) := by decide +kernel
theorem qd_V_linesUpTo_27 : decode qb_V_linesUpTo 27 = .ok (.invokevirtual 24, 3) := by decide +kernel
theorem qd_V_linesUpTo_30 : decode qb_V_linesUpTo 30 = .ok (.istore 6, 2) := by decide +kernel
theorem qd_V_linesUpTo_32 : decode qb_V_linesUpTo 32 = .ok (.iload 6, 2) := by decide +kernel
theorem qd_V_linesUpTo_34 : decode qb_V_linesUpTo 34 = .ok (.iload_n 1, 1) := by decide +kernel
theorem qd_V_linesUpTo_35 : decode qb_V_linesUpTo 35 = .ok (.if_icmp .gt 23, 3) := by decide +kernel
theorem qd_V_linesUpTo_38 : decode qb_V_linesUpTo 38 = .ok (.iload 6, 2) := by decide +kernel
theorem qd_V_linesUpTo_40 : decode qb_V_linesUpTo 40 = .ok (.iload_n 1, 1) := by decide +kernel
theorem qd_V_linesUpTo_41 : decode qb_V_linesUpTo 41 = .ok (.if_icmp .ne 21, 3) := by decide +kernel
theorem qd_V_linesUpTo_44 : decode qb_V_linesUpTo 44 = .ok (.aload_n 0, 1) := by decide +kernel
theorem qd_V_linesUpTo_45 : decode qb_V_linesUpTo 45 = .ok (.getfield 16, 3) := by decide +kernel
theorem qd_V_linesUpTo_48 : decode qb_V_linesUpTo 48 = .ok (.iload 5, 2) := by decide +kernel
theorem qd_V_linesUpTo_50 : decode qb_V_linesUpTo 50 = .ok (.iconst 0, 1) := by decide +kernel
theorem qd_V_linesUpTo_51 : decode qb_V_linesUpTo 51 = .ok (.invokevirtual 24, 3) := by decide +kernel
theorem qd_V_linesUpTo_54 : decode qb_V_linesUpTo 54 = .ok (.iload_n 2, 1) := by decide +kernel
theorem qd_V_linesUpTo_55 : decode qb_V_linesUpTo 55 = .ok (.if_icmp .le 7, 3) := by decide +kernel
theorem qd_V_linesUpTo_58 : decode qb_V_linesUpTo 58 = .ok (.iconst 1, 1) := by decide +kernel
theorem qd_V_linesUpTo_59 : decode qb_V_linesUpTo 59 = .ok (.goto (4), 3) := by decide +kernel
theorem qd_V_linesUpTo_62 : decode qb_V_linesUpTo 62 = .ok (.iconst 0, 1) := by decide +kernel
theorem qd_V_linesUpTo_63 : decode qb_V_linesUpTo 63 = .ok (.istore 7, 2) := by decide +kernel
theorem qd_V_linesUpTo_65 : decode qb_V_linesUpTo 65 = .ok (.iload 5, 2) := by decide +kernel
theorem qd_V_linesUpTo_67 : decode qb_V_linesUpTo 67 = .ok (.aload_n 0, 1) := by decide +kernel
theorem qd_V_linesUpTo_68 : decode qb_V_linesUpTo 68 = .ok (.getfield 16, 3) := by decide +kernel
theorem qd_V_linesUpTo_71 : decode qb_V_linesUpTo 71 = .ok (.invokevirtual 20, 3) := by decide +kernel
theorem qd_V_linesUpTo_74 : decode qb_V_linesUpTo 74 = .ok (.if_icmp .ge 13, 3) := by decide +kernel
theorem qd_V_linesUpTo_77 : decode qb_V_linesUpTo 77 = .ok (.iload 7, 2) := by decide +kernel
theorem qd_V_linesUpTo_79 : decode qb_V_linesUpTo 79 = .ok (.ifCond .ne 8, 3) := by decide +kernel
theorem qd_V_linesUpTo_82 : decode qb_V_linesUpTo 82 = .ok (.iload_n 3, 1) := by decide +kernel
theorem qd_V_linesUpTo_83 : decode qb_V_linesUpTo 83 = .ok (.iload 4, 2) := by decide +kernel
theorem qd_V_linesUpTo_85 : decode qb_V_linesUpTo 85 = .ok (.iadd, 1) := by decide +kernel
theorem qd_V_linesUpTo_86 : decode qb_V_linesUpTo 86 = .ok (.istore_n 3, 1) := by decide +kernel
theorem qd_V_linesUpTo_87 : decode qb_V_linesUpTo 87 = .ok (.iload 4, 2) := by decide +kernel
theorem qd_V_linesUpTo_89 : decode qb_V_linesUpTo 89 = .ok (.iconst 2, 1) := by decide +kernel
theorem qd_V_linesUpTo_90 : decode qb_V_linesUpTo 90 = .ok (.idiv, 1) := by decide +kernel
theorem qd_V_linesUpTo_91 : decode qb_V_linesUpTo 91 = .ok (.istore 4, 2) := by decide +kernel
theorem qd_V_linesUpTo_93 : decode qb_V_linesUpTo 93 = .ok (.goto (-86), 3) := by decide +kernel
theorem qd_V_linesUpTo_96 : decode qb_V_linesUpTo 96 = .ok (.iload_n 3, 1) := by decide +kernel
theorem qd_V_linesUpTo_97 : decode qb_V_linesUpTo 97 = .ok (.ireturn, 1) := by decide +kernel
