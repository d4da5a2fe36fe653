theorem d_FL_recover_7 : decode b_FL_recover 7 = .ok (.aload_n 0, 1) := by decide +kernel
theorem d_FL_recover_8 : decode b_FL_recover 8 = .ok (.getfield 46, 3) := by decide +kernel
theorem d_FL_recover_11 : decode b_FL_recover 11 = .ok (.iload_n 1, 1) := by decide +kernel
theorem d_FL_recover_12 : decode b_FL_recover 12 = .ok (.iconst 1, 1) := by decide +kernel
theorem d_FL_recover_13 : decode b_FL_recover 13 = .ok (.isub, 1) := by decide +kernel
theorem d_FL_recover_14 : decode b_FL_recover 14 = .ok (.aaload, 1) := by decide +kernel
theorem d_FL_recover_15 : decode b_FL_recover 15 = .ok (.getfield 107, 3) := by decide +kernel
theorem d_FL_recover_18 : decode b_FL_recover 18 = .ok (.ifCond .eq 5, 3) := by decide +kernel
theorem d_FL_recover_21 : decode b_FL_recover 21 = .ok (.iconst 0, 1) := by decide +kernel
theorem d_FL_recover_22 : decode b_FL_recover 22 = .ok (.ireturn, 1) := by decide +kernel
theorem d_FL_recover_23 : decode b_FL_recover 23 = .ok (.aload_n 0, 1) := by decide +kernel
theorem d_FL_recover_24 : decode b_FL_recover 24 = .ok (.getfield 46, 3) := by decide +kernel
theorem d_FL_recover_27 : decode b_FL_recover 27 = .ok (.iload_n 1, 1) := by decide +kernel
theorem d_FL_recover_28 : decode b_FL_recover 28 = .ok (.iconst 1, 1) := by decide +kernel
theorem d_FL_recover_29 : decode b_FL_recover 29 = .ok (.isub, 1) := by decide +kernel
theorem d_FL_recover_30 : decode b_FL_recover 30 = .ok (.aaload, 1) := by decide +kernel
theorem d_FL_recover_31 : decode b_FL_recover 31 = .ok (.astore_n 2, 1) := by decide +kernel
theorem d_FL_recover_32 : decode b_FL_recover 32 = .ok (.aload_n 0, 1) := by decide +kernel
theorem d_FL_recover_33 : decode b_FL_recover 33 = .ok (.getfield 53, 3) := by decide +kernel
theorem d_FL_recover_36 : decode b_FL_recover 36 = .ok (.iconst 2, 1) := by decide +kernel
theorem d_FL_recover_37 : decode b_FL_recover 37 = .ok (.if_icmp .ne 10, 3) := by decide +kernel
theorem d_FL_recover_40 : decode b_FL_recover 40 = .ok (.aload_n 2, 1) := by decide +kernel
theorem d_FL_recover_41 : decode b_FL_recover 41 = .ok (.iconst 4, 1) := by decide +kernel
theorem d_FL_recover_42 : decode b_FL_recover 42 = .ok (.putfield 107, 3) := by decide +kernel
theorem d_FL_recover_45 : decode b_FL_recover 45 = .ok (.iconst 1, 1) := by decide +kernel
theorem d_FL_recover_46 : decode b_FL_recover 46 = .ok (.ireturn, 1) := by decide +kernel
theorem d_FL_recover_47 : decode b_FL_recover 47 = .ok (.aload_n 0, 1) := by decide +kernel
theorem d_FL_recover_48 : decode b_FL_recover 48 = .ok (.iconst 1, 1) := by decide +kernel
theorem d_FL_recover_49 : decode b_FL_recover 49 = .ok (.putfield 53, 3) := by decide +kernel
theorem d_FL_recover_52 : decode b_FL_recover 52 = .ok (.aload_n 0, 1) := by decide +kernel
theorem d_FL_recover_53 : decode b_FL_recover 53 = .ok (.dup, 1) := by decide +kernel
theorem d_FL_recover_54 : decode b_FL_recover 54 = .ok (.getfield 56, 3) := by decide +kernel
theorem d_FL_recover_57 : decode b_FL_recover 57 = .ok (.iconst 1, 1) := by decide +kernel
theorem d_FL_recover_58 : decode b_FL_recover 58 = .ok (.iadd, 1) := by decide +kernel
theorem d_FL_recover_59 : decode b_FL_recover 59 = .ok (.putfield 56, 3) := by decide +kernel
theorem d_FL_recover_62 : decode b_FL_recover 62 = .ok (.aload_n 2, 1) := by decide +kernel
theorem d_FL_recover_63 : decode b_FL_recover 63 = .ok (.aload_n 0, 1) := by decide +kernel
theorem d_FL_recover_64 : decode b_FL_recover 64 = .ok (.getfield 56, 3) := by decide +kernel
theorem d_FL_recover_67 : decode b_FL_recover 67 = .ok (.invokevirtual 108, 3) := by decide +kernel
theorem d_FL_recover_70 : decode b_FL_recover 70 = .ok (.aload_n 0, 1) := by decide +kernel
theorem d_FL_recover_71 : decode b_FL_recover 71 = .ok (.aload_n 2, 1) := by decide +kernel
theorem d_FL_recover_72 : decode b_FL_recover 72 = .ok (.invokevirtual 111, 3) := by decide +kernel
theorem d_FL_recover_75 : decode b_FL_recover 75 = .ok (.pop, 1) := by decide +kernel
theorem d_FL_recover_76 : decode b_FL_recover 76 = .ok (.iconst 1, 1) := by decide +kernel
theorem d_FL_recover_77 : decode b_FL_recover 77 = .ok (.ireturn, 1) := by decide +kernel
theorem d_FL_retry_0 : decode b_FL_retry 0 = .ok (.iload_n 1, 1) := by decide +kernel
theorem d_FL_retry_1 : decode b_FL_retry 1 = .ok (.invokestatic 104, 3) := by decide +kernel
theorem d_FL_retry_4 : decode b_FL_retry 4 = .ok (.ifCond .eq 17, 3) := by decide +kernel
theorem d_FL_retry_7 : decode b_FL_retry 7 = .ok (.aload_n 0, 1) := by decide +kernel
theorem d_FL_retry_8 : decode b_FL_retry 8 = .ok (.getfield 46, 3) := by decide +kernel
theorem d_FL_retry_11 : decode b_FL_retry 11 = .ok (.iload_n 1, 1) := by decide +kernel
theorem d_FL_retry_12 : decode b_FL_retry 12 = .ok (.iconst 1, 1) := by decide +kernel
theorem d_FL_retry_13 : decode b_FL_retry 13 = .ok (.isub, 1) := by decide +kernel
theorem d_FL_retry_14 : decode b_FL_retry 14 = .ok (.aaload, 1) := by decide +kernel
theorem d_FL_retry_15 : decode b_FL_retry 15 = .ok (.invokevirtual 115, 3) := by decide +kernel
theorem d_FL_retry_18 : decode b_FL_retry 18 = .ok (.ifCond .ne 5, 3) := by decide +kernel
theorem d_FL_retry_21 : decode b_FL_retry 21 = .ok (.iconst (-1), 1) := by decide +kernel
theorem d_FL_retry_22 : decode b_FL_retry 22 = .ok (.ireturn, 1) := by decide +kernel
theorem d_FL_retry_23 : decode b_FL_retry 23 = .ok (.aload_n 0, 1) := by decide +kernel
theorem d_FL_retry_24 : decode b_FL_retry 24 = .ok (.aload_n 0, 1) := by decide +kernel
theorem d_FL_retry_25 : decode b_FL_retry 25 = .ok (.getfield 46, 3) := by decide +kernel
theorem d_FL_retry_28 : decode b_FL_retry 28 = .ok (.iload_n 1, 1) := by decide +kernel
theorem d_FL_retry_29 : decode b_FL_retry 29 = .ok (.iconst 1, 1) := by decide +kernel
theorem d_FL_retry_30 : decode b_FL_retry 30 = .ok (.isub, 1) := by decide +kernel
theorem d_FL_retry_31 : decode b_FL_retry 31 = .ok (.aaload, 1) := by decide +kernel
theorem d_FL_retry_32 : decode b_FL_retry 32 = .ok (.invokevirtual 111, 3) := by decide +kernel
theorem d_FL_retry_35 : decode b_FL_retry 35 = .ok (.ireturn, 1) := by decide +kernel
theorem d_FL_abandon_0 : decode b_FL_abandon 0 = .ok (.iload_n 1, 1) := by decide +kernel
theorem d_FL_abandon_1 : decode b_FL_abandon 1 = .ok (.invokestatic 104, 3) := by decide +kernel
theorem d_FL_abandon_4 : decode b_FL_abandon 4 = .ok (.ifCond .eq 17, 3) := by decide +kernel
theorem d_FL_abandon_7 : decode b_FL_abandon 7 = .ok (.aload_n 0, 1) := by decide +kernel
theorem d_FL_abandon_8 : decode b_FL_abandon 8 = .ok (.getfield 46, 3) := by decide +kernel
theorem d_FL_abandon_11 : decode b_FL_abandon 11 = .ok (.iload_n 1, 1) := by decide +kernel
theorem d_FL_abandon_12 : decode b_FL_abandon 12 = .ok (.iconst 1, 1) := by decide +kernel
theorem d_FL_abandon_13 : decode b_FL_abandon 13 = .ok (.isub, 1) := by decide +kernel
theorem d_FL_abandon_14 : decode b_FL_abandon 14 = .ok (.aaload, 1) := by decide +kernel
theorem d_FL_abandon_15 : decode b_FL_abandon 15 = .ok (.invokevirtual 115, 3) := by decide +kernel
theorem d_FL_abandon_18 : decode b_FL_abandon 18 = .ok (.ifCond .ne 5, 3) := by decide +kernel
theorem d_FL_abandon_21 : decode b_FL_abandon 21 = .ok (.iconst 0, 1) := by decide +kernel
theorem d_FL_abandon_22 : decode b_FL_abandon 22 = .ok (.ireturn, 1) := by decide +kernel
theorem d_FL_abandon_23 : decode b_FL_abandon 23 = .ok (.aload_n 0, 1) := by decide +kernel
theorem d_FL_abandon_24 : decode b_FL_abandon 24 = .ok (.getfield 46, 3) := by decide +kernel
theorem d_FL_abandon_27 : decode b_FL_abandon 27 = .ok (.iload_n 1, 1) := by decide +kernel
theorem d_FL_abandon_28 : decode b_FL_abandon 28 = .ok (.iconst 1, 1) := by decide +kernel
theorem d_FL_abandon_29 : decode b_FL_abandon 29 = .ok (.isub, 1) := by decide +kernel
theorem d_FL_abandon_30 : decode b_FL_abandon 30 = .ok (.aaload, 1) := by decide +kernel
theorem d_FL_abandon_31 : decode b_FL_abandon 31 = .ok (.iconst 0, 1) := by decide +kernel
theorem d_FL_abandon_32 : decode b_FL_abandon 32 = .ok (.putfield 107, 3) := by decide +kernel
theorem d_FL_abandon_35 : decode b_FL_abandon 35 = .ok (.iconst 1, 1) := by decide +kernel
theorem d_FL_abandon_36 : decode b_FL_abandon 36 = .ok (.ireturn, 1) := by decide +kernel
theorem d_FL_recoverer_0 : decode b_FL_recoverer 0 = .ok (.iload_n 1, 1) := by decide +kernel
theorem d_FL_recoverer_1 : decode b_FL_recoverer 1 = .ok (.invokestatic 104, 3) := by decide +kernel
theorem d_FL_recoverer_4 : decode b_FL_recoverer 4 = .ok (.ifCond .ne 5, 3) := by decide +kernel
theorem d_FL_recoverer_7 : decode b_FL_recoverer 7 = .ok (.iconst (-1), 1) := by decide +kernel
theorem d_FL_recoverer_8 : decode b_FL_recoverer 8 = .ok (.ireturn, 1) := by decide +kernel
theorem d_FL_recoverer_9 : decode b_FL_recoverer 9 = .ok (.aload_n 0, 1) := by decide +kernel
theorem d_FL_recoverer_10 : decode b_FL_recoverer 10 = .ok (.getfield 46, 3) := by decide +kernel
theorem d_FL_recoverer_13 : decode b_FL_recoverer 13 = .ok (.iload_n 1, 1) := by decide +kernel
theorem d_FL_recoverer_14 : decode b_FL_recoverer 14 = .ok (.iconst 1, 1) := by decide +kernel
theorem d_FL_recoverer_15 : decode b_FL_recoverer 15 = .ok (.isub, 1) := by decide +kernel
theorem d_FL_recoverer_16 : decode b_FL_recoverer 16 = .ok (.aaload, 1) := by decide +kernel
theorem d_FL_recoverer_17 : decode b_FL_recoverer 17 = .ok (.iload_n 2, 1) := by decide +kernel
theorem d_FL_recoverer_18 : decode b_FL_recoverer 18 = .ok (.invokevirtual 118, 3) := by decide +kernel
theorem d_FL_recoverer_21 : decode b_FL_recoverer 21 = .ok (.ireturn, 1) := by decide +kernel
theorem d_FL_finish_0 : decode b_FL_finish 0 = .ok (.aload_n 0, 1) := by decide +kernel
theorem d_FL_finish_1 : decode b_FL_finish 1 = .ok (.getfield 53, 3) := by decide +kernel
theorem d_FL_finish_4 : decode b_FL_finish 4 = .ok (.iconst 1, 1) := by decide +kernel
theorem d_FL_finish_5 : decode b_FL_finish 5 = .ok (.if_icmp .ne 19, 3) := by decide +kernel
theorem d_FL_finish_8 : decode b_FL_finish 8 = .ok (.aload_n 0, 1) := by decide +kernel
theorem d_FL_finish_9 : decode b_FL_finish 9 = .ok (.getfield 56, 3) := by decide +kernel
theorem d_FL_finish_12 : decode b_FL_finish 12 = .ok (.aload_n 1, 1) := by decide +kernel
theorem d_FL_finish_13 : decode b_FL_finish 13 = .ok (.getfield 216, 3) := by decide +kernel
theorem d_FL_finish_16 : decode b_FL_finish 16 = .ok (.if_icmp .ne 8, 3) := by decide +kernel
theorem d_FL_finish_19 : decode b_FL_finish 19 = .ok (.aload_n 0, 1) := by decide +kernel
theorem d_FL_finish_20 : decode b_FL_finish 20 = .ok (.iload_n 2, 1) := by decide +kernel
theorem d_FL_finish_21 : decode b_FL_finish 21 = .ok (.invokevirtual 98, 3) := by decide +kernel
theorem d_FL_finish_24 : decode b_FL_finish 24 = .ok (.aload_n 1, 1) := by decide +kernel
theorem d_FL_finish_25 : decode b_FL_finish 25 = .ok (.aload_n 0, 1) := by decide +kernel
theorem d_FL_finish_26 : decode b_FL_finish 26 = .ok (.getfield 53, 3) := by decide +kernel
theorem d_FL_finish_29 : decode b_FL_finish 29 = .ok (.iconst 2, 1) := by decide +kernel
theorem d_FL_finish_30 : decode b_FL_finish 30 = .ok (.if_icmp .ne 7, 3) := by decide +kernel
theorem d_FL_finish_33 : decode b_FL_finish 33 = .ok (.iconst 4, 1) := by decide +kernel
theorem d_FL_finish_34 : decode b_FL_finish 34 = .ok (.goto 4, 3) := by decide +kernel
theorem d_FL_finish_37 : decode b_FL_finish 37 = .ok (.iconst 0, 1) := by decide +kernel
theorem d_FL_finish_38 : decode b_FL_finish 38 = .ok (.putfield 107, 3) := by decide +kernel
theorem d_FL_finish_41 : decode b_FL_finish 41 = .ok (.return_, 1) := by decide +kernel
theorem d_FL_readOn_0 : decode b_FL_readOn 0 = .ok (.iload_n 2, 1) := by decide +kernel
theorem d_FL_readOn_1 : decode b_FL_readOn 1 = .ok (.bipush 20, 2) := by decide +kernel
theorem d_FL_readOn_3 : decode b_FL_readOn 3 = .ok (.if_icmp .lt 12, 3) := by decide +kernel
theorem d_FL_readOn_6 : decode b_FL_readOn 6 = .ok (.aload_n 0, 1) := by decide +kernel
theorem d_FL_readOn_7 : decode b_FL_readOn 7 = .ok (.aload_n 1, 1) := by decide +kernel
theorem d_FL_readOn_8 : decode b_FL_readOn 8 = .ok (.iload_n 2, 1) := by decide +kernel
theorem d_FL_readOn_9 : decode b_FL_readOn 9 = .ok (.iconst 1, 1) := by decide +kernel
theorem d_FL_readOn_10 : decode b_FL_readOn 10 = .ok (.isub, 1) := by decide +kernel
theorem d_FL_readOn_11 : decode b_FL_readOn 11 = .ok (.invokevirtual 287, 3) := by decide +kernel
theorem d_FL_readOn_14 : decode b_FL_readOn 14 = .ok (.return_, 1) := by decide +kernel
theorem d_FL_readOn_15 : decode b_FL_readOn 15 = .ok (.aload_n 1, 1) := by decide +kernel
theorem d_FL_readOn_16 : decode b_FL_readOn 16 = .ok (.iload_n 2, 1) := by decide +kernel
theorem d_FL_readOn_17 : decode b_FL_readOn 17 = .ok (.invokevirtual 293, 3) := by decide +kernel
theorem d_FL_readOn_20 : decode b_FL_readOn 20 = .ok (.aload_n 0, 1) := by decide +kernel
theorem d_FL_readOn_21 : decode b_FL_readOn 21 = .ok (.aload_n 1, 1) := by decide +kernel
theorem d_FL_readOn_22 : decode b_FL_readOn 22 = .ok (.invokevirtual 111, 3) := by decide +kernel
theorem d_FL_readOn_25 : decode b_FL_readOn 25 = .ok (.pop, 1) := by decide +kernel
theorem d_FL_readOn_26 : decode b_FL_readOn 26 = .ok (.return_, 1) := by decide +kernel
theorem d_FL_hearAdded_0 : decode b_FL_hearAdded 0 = .ok (.aload_n 1, 1) := by decide +kernel
theorem d_FL_hearAdded_1 : decode b_FL_hearAdded 1 = .ok (.aload_n 2, 1) := by decide +kernel
theorem d_FL_hearAdded_2 : decode b_FL_hearAdded 2 = .ok (.getfield 228, 3) := by decide +kernel
theorem d_FL_hearAdded_5 : decode b_FL_hearAdded 5 = .ok (.invokevirtual 270, 3) := by decide +kernel
theorem d_FL_hearAdded_8 : decode b_FL_hearAdded 8 = .ok (.aload_n 1, 1) := by decide +kernel
theorem d_FL_hearAdded_9 : decode b_FL_hearAdded 9 = .ok (.invokevirtual 283, 3) := by decide +kernel
theorem d_FL_hearAdded_12 : decode b_FL_hearAdded 12 = .ok (.aload_n 0, 1) := by decide +kernel
theorem d_FL_hearAdded_13 : decode b_FL_hearAdded 13 = .ok (.getfield 20, 3) := by decide +kernel
theorem d_FL_hearAdded_16 : decode b_FL_hearAdded 16 = .ok (.if_icmp .lt 14, 3) := by decide +kernel
theorem d_FL_hearAdded_19 : decode b_FL_hearAdded 19 = .ok (.aload_n 0, 1) := by decide +kernel
theorem d_FL_hearAdded_20 : decode b_FL_hearAdded 20 = .ok (.aload_n 1, 1) := by decide +kernel
theorem d_FL_hearAdded_21 : decode b_FL_hearAdded 21 = .ok (.aload_n 1, 1) := by decide +kernel
theorem d_FL_hearAdded_22 : decode b_FL_hearAdded 22 = .ok (.getfield 222, 3) := by decide +kernel
theorem d_FL_hearAdded_25 : decode b_FL_hearAdded 25 = .ok (.iconst 1, 1) := by decide +kernel
theorem d_FL_hearAdded_26 : decode b_FL_hearAdded 26 = .ok (.iadd, 1) := by decide +kernel
theorem d_FL_hearAdded_27 : decode b_FL_hearAdded 27 = .ok (.invokevirtual 279, 3) := by decide +kernel
theorem d_FL_hearAdded_30 : decode b_FL_hearAdded 30 = .ok (.return_, 1) := by decide +kernel
theorem d_FL_hearMissing_0 : decode b_FL_hearMissing 0 = .ok (.aload_n 1, 1) := by decide +kernel
theorem d_FL_hearMissing_1 : decode b_FL_hearMissing 1 = .ok (.aload_n 2, 1) := by decide +kernel
theorem d_FL_hearMissing_2 : decode b_FL_hearMissing 2 = .ok (.getfield 228, 3) := by decide +kernel
theorem d_FL_hearMissing_5 : decode b_FL_hearMissing 5 = .ok (.invokevirtual 270, 3) := by decide +kernel
theorem d_FL_hearMissing_8 : decode b_FL_hearMissing 8 = .ok (.aload_n 1, 1) := by decide +kernel
theorem d_FL_hearMissing_9 : decode b_FL_hearMissing 9 = .ok (.invokevirtual 283, 3) := by decide +kernel
theorem d_FL_hearMissing_12 : decode b_FL_hearMissing 12 = .ok (.aload_n 0, 1) := by decide +kernel
theorem d_FL_hearMissing_13 : decode b_FL_hearMissing 13 = .ok (.getfield 17, 3) := by decide +kernel
theorem d_FL_hearMissing_16 : decode b_FL_hearMissing 16 = .ok (.aload_n 0, 1) := by decide +kernel
theorem d_FL_hearMissing_17 : decode b_FL_hearMissing 17 = .ok (.getfield 20, 3) := by decide +kernel
theorem d_FL_hearMissing_20 : decode b_FL_hearMissing 20 = .ok (.isub, 1) := by decide +kernel
theorem d_FL_hearMissing_21 : decode b_FL_hearMissing 21 = .ok (.iconst 1, 1) := by decide +kernel
theorem d_FL_hearMissing_22 : decode b_FL_hearMissing 22 = .ok (.iadd, 1) := by decide +kernel
theorem d_FL_hearMissing_23 : decode b_FL_hearMissing 23 = .ok (.if_icmp .lt 14, 3) := by decide +kernel
theorem d_FL_hearMissing_26 : decode b_FL_hearMissing 26 = .ok (.aload_n 0, 1) := by decide +kernel
theorem d_FL_hearMissing_27 : decode b_FL_hearMissing 27 = .ok (.aload_n 1, 1) := by decide +kernel
theorem d_FL_hearMissing_28 : decode b_FL_hearMissing 28 = .ok (.aload_n 1, 1) := by decide +kernel
theorem d_FL_hearMissing_29 : decode b_FL_hearMissing 29 = .ok (.getfield 222, 3) := by decide +kernel
theorem d_FL_hearMissing_32 : decode b_FL_hearMissing 32 = .ok (.iconst 1, 1) := by decide +kernel
theorem d_FL_hearMissing_33 : decode b_FL_hearMissing 33 = .ok (.isub, 1) := by decide +kernel
theorem d_FL_hearMissing_34 : decode b_FL_hearMissing 34 = .ok (.invokevirtual 287, 3) := by decide +kernel
theorem d_FL_hearMissing_37 : decode b_FL_hearMissing 37 = .ok (.return_, 1) := by decide +kernel
theorem d_FL_countSilent_0 : decode b_FL_countSilent 0 = .ok (.iconst 0, 1) := by decide +kernel
theorem d_FL_countSilent_1 : decode b_FL_countSilent 1 = .ok (.istore_n 3, 1) := by decide +kernel
theorem d_FL_countSilent_2 : decode b_FL_countSilent 2 = .ok (.iconst 0, 1) := by decide +kernel
theorem d_FL_countSilent_3 : decode b_FL_countSilent 3 = .ok (.istore 4, 2) := by decide +kernel
theorem d_FL_countSilent_5 : decode b_FL_countSilent 5 = .ok (.iload 4, 2) := by decide +kernel
theorem d_FL_countSilent_7 : decode b_FL_countSilent 7 = .ok (.aload_n 0, 1) := by decide +kernel
theorem d_FL_countSilent_8 : decode b_FL_countSilent 8 = .ok (.getfield 17, 3) := by decide +kernel
theorem d_FL_countSilent_11 : decode b_FL_countSilent 11 = .ok (.if_icmp .ge 26, 3) := by decide +kernel
theorem d_FL_countSilent_14 : decode b_FL_countSilent 14 = .ok (.iload_n 2, 1) := by decide +kernel
theorem d_FL_countSilent_15 : decode b_FL_countSilent 15 = .ok (.iconst 1, 1) := by decide +kernel
theorem d_FL_countSilent_16 : decode b_FL_countSilent 16 = .ok (.aload_n 0, 1) := by decide +kernel
theorem d_FL_countSilent_17 : decode b_FL_countSilent 17 = .ok (.iload_n 1, 1) := by decide +kernel
theorem d_FL_countSilent_18 : decode b_FL_countSilent 18 = .ok (.iload 4, 2) := by decide +kernel
theorem d_FL_countSilent_20 : decode b_FL_countSilent 20 = .ok (.invokevirtual 198, 3) := by decide +kernel
theorem d_FL_countSilent_23 : decode b_FL_countSilent 23 = .ok (.ishl, 1) := by decide +kernel
theorem d_FL_countSilent_24 : decode b_FL_countSilent 24 = .ok (.iand, 1) := by decide +kernel
theorem d_FL_countSilent_25 : decode b_FL_countSilent 25 = .ok (.ifCond .ne 6, 3) := by decide +kernel
theorem d_FL_countSilent_28 : decode b_FL_countSilent 28 = .ok (.iinc 3 1, 3) := by decide +kernel
theorem d_FL_countSilent_31 : decode b_FL_countSilent 31 = .ok (.iinc 4 1, 3) := by decide +kernel
theorem d_FL_countSilent_34 : decode b_FL_countSilent 34 = .ok (.goto (-29), 3) := by decide +kernel
theorem d_FL_countSilent_37 : decode b_FL_countSilent 37 = .ok (.iload_n 3, 1) := by decide +kernel
theorem d_FL_countSilent_38 : decode b_FL_countSilent 38 = .ok (.ireturn, 1) := by decide +kernel
theorem d_FL_isWriterFencedOut_0 : decode b_FL_isWriterFencedOut 0 = .ok (.iconst 0, 1) := by decide +kernel
theorem d_FL_isWriterFencedOut_1 : decode b_FL_isWriterFencedOut 1 = .ok (.istore_n 2, 1) := by decide +kernel
theorem d_FL_isWriterFencedOut_2 : decode b_FL_isWriterFencedOut 2 = .ok (.iload_n 2, 1) := by decide +kernel
theorem d_FL_isWriterFencedOut_3 : decode b_FL_isWriterFencedOut 3 = .ok (.aload_n 0, 1) := by decide +kernel
theorem d_FL_isWriterFencedOut_4 : decode b_FL_isWriterFencedOut 4 = .ok (.getfield 13, 3) := by decide +kernel
theorem d_FL_isWriterFencedOut_7 : decode b_FL_isWriterFencedOut 7 = .ok (.if_icmp .ge 24, 3) := by decide +kernel
theorem d_FL_isWriterFencedOut_10 : decode b_FL_isWriterFencedOut 10 = .ok (.aload_n 0, 1) := by decide +kernel
theorem d_FL_isWriterFencedOut_11 : decode b_FL_isWriterFencedOut 11 = .ok (.iload_n 2, 1) := by decide +kernel
theorem d_FL_isWriterFencedOut_12 : decode b_FL_isWriterFencedOut 12 = .ok (.iload_n 1, 1) := by decide +kernel
theorem d_FL_isWriterFencedOut_13 : decode b_FL_isWriterFencedOut 13 = .ok (.invokevirtual 290, 3) := by decide +kernel
theorem d_FL_isWriterFencedOut_16 : decode b_FL_isWriterFencedOut 16 = .ok (.aload_n 0, 1) := by decide +kernel
theorem d_FL_isWriterFencedOut_17 : decode b_FL_isWriterFencedOut 17 = .ok (.getfield 20, 3) := by decide +kernel
theorem d_FL_isWriterFencedOut_20 : decode b_FL_isWriterFencedOut 20 = .ok (.if_icmp .lt 5, 3) := by decide +kernel
theorem d_FL_isWriterFencedOut_23 : decode b_FL_isWriterFencedOut 23 = .ok (.iconst 0, 1) := by decide +kernel
theorem d_FL_isWriterFencedOut_24 : decode b_FL_isWriterFencedOut 24 = .ok (.ireturn, 1) := by decide +kernel
theorem d_FL_isWriterFencedOut_25 : decode b_FL_isWriterFencedOut 25 = .ok (.iinc 2 1, 3) := by decide +kernel
theorem d_FL_isWriterFencedOut_28 : decode b_FL_isWriterFencedOut 28 = .ok (.goto (-26), 3) := by decide +kernel
theorem d_FL_isWriterFencedOut_31 : decode b_FL_isWriterFencedOut 31 = .ok (.iconst 1, 1) := by decide +kernel
theorem d_FL_isWriterFencedOut_32 : decode b_FL_isWriterFencedOut 32 = .ok (.ireturn, 1) := by decide +kernel
theorem d_FL_hearFenced_0 : decode b_FL_hearFenced 0 = .ok (.aload_n 1, 1) := by decide +kernel
theorem d_FL_hearFenced_1 : decode b_FL_hearFenced 1 = .ok (.aload_n 2, 1) := by decide +kernel
theorem d_FL_hearFenced_2 : decode b_FL_hearFenced 2 = .ok (.getfield 228, 3) := by decide +kernel
theorem d_FL_hearFenced_5 : decode b_FL_hearFenced 5 = .ok (.invokevirtual 270, 3) := by decide +kernel
theorem d_FL_hearFenced_8 : decode b_FL_hearFenced 8 = .ok (.aload_n 1, 1) := by decide +kernel
theorem d_FL_hearFenced_9 : decode b_FL_hearFenced 9 = .ok (.aload_n 1, 1) := by decide +kernel
theorem d_FL_hearFenced_10 : decode b_FL_hearFenced 10 = .ok (.getfield 273, 3) := by decide +kernel
theorem d_FL_hearFenced_13 : decode b_FL_hearFenced 13 = .ok (.aload_n 2, 1) := by decide +kernel
theorem d_FL_hearFenced_14 : decode b_FL_hearFenced 14 = .ok (.getfield 246, 3) := by decide +kernel
theorem d_FL_hearFenced_17 : decode b_FL_hearFenced 17 = .ok (.invokestatic 195, 3) := by decide +kernel
theorem d_FL_hearFenced_20 : decode b_FL_hearFenced 20 = .ok (.putfield 273, 3) := by decide +kernel
theorem d_FL_hearFenced_23 : decode b_FL_hearFenced 23 = .ok (.aload_n 0, 1) := by decide +kernel
theorem d_FL_hearFenced_24 : decode b_FL_hearFenced 24 = .ok (.aload_n 1, 1) := by decide +kernel
theorem d_FL_hearFenced_25 : decode b_FL_hearFenced 25 = .ok (.getfield 213, 3) := by decide +kernel
theorem d_FL_hearFenced_28 : decode b_FL_hearFenced 28 = .ok (.invokevirtual 276, 3) := by decide +kernel
theorem d_FL_hearFenced_31 : decode b_FL_hearFenced 31 = .ok (.ifCond .eq 14, 3) := by decide +kernel
theorem d_FL_hearFenced_34 : decode b_FL_hearFenced 34 = .ok (.aload_n 0, 1) := by decide +kernel
theorem d_FL_hearFenced_35 : decode b_FL_hearFenced 35 = .ok (.aload_n 1, 1) := by decide +kernel
theorem d_FL_hearFenced_36 : decode b_FL_hearFenced 36 = .ok (.aload_n 1, 1) := by decide +kernel
theorem d_FL_hearFenced_37 : decode b_FL_hearFenced 37 = .ok (.getfield 273, 3) := by decide +kernel
theorem d_FL_hearFenced_40 : decode b_FL_hearFenced 40 = .ok (.iconst 1, 1) := by decide +kernel
theorem d_FL_hearFenced_41 : decode b_FL_hearFenced 41 = .ok (.iadd, 1) := by decide +kernel
theorem d_FL_hearFenced_42 : decode b_FL_hearFenced 42 = .ok (.invokevirtual 279, 3) := by decide +kernel
theorem d_FL_hearFenced_45 : decode b_FL_hearFenced 45 = .ok (.return_, 1) := by decide +kernel
theorem d_FL_reachRecoverer_0 : decode b_FL_reachRecoverer 0 = .ok (.aload_n 0, 1) := by decide +kernel
theorem d_FL_reachRecoverer_1 : decode b_FL_reachRecoverer 1 = .ok (.getfield 46, 3) := by decide +kernel
theorem d_FL_reachRecoverer_4 : decode b_FL_reachRecoverer 4 = .ok (.aload_n 1, 1) := by decide +kernel
theorem d_FL_reachRecoverer_5 : decode b_FL_reachRecoverer 5 = .ok (.getfield 137, 3) := by decide +kernel
theorem d_FL_reachRecoverer_8 : decode b_FL_reachRecoverer 8 = .ok (.iconst 1, 1) := by decide +kernel
theorem d_FL_reachRecoverer_9 : decode b_FL_reachRecoverer 9 = .ok (.isub, 1) := by decide +kernel
theorem d_FL_reachRecoverer_10 : decode b_FL_reachRecoverer 10 = .ok (.aaload, 1) := by decide +kernel
theorem d_FL_reachRecoverer_11 : decode b_FL_reachRecoverer 11 = .ok (.astore_n 2, 1) := by decide +kernel
theorem d_FL_reachRecoverer_12 : decode b_FL_reachRecoverer 12 = .ok (.aload_n 1, 1) := by decide +kernel
theorem d_FL_reachRecoverer_13 : decode b_FL_reachRecoverer 13 = .ok (.getfield 252, 3) := by decide +kernel
theorem d_FL_reachRecoverer_16 : decode b_FL_reachRecoverer 16 = .ok (.aload_n 2, 1) := by decide +kernel
theorem d_FL_reachRecoverer_17 : decode b_FL_reachRecoverer 17 = .ok (.getfield 216, 3) := by decide +kernel
theorem d_FL_reachRecoverer_20 : decode b_FL_reachRecoverer 20 = .ok (.if_icmp .eq 4, 3) := by decide +kernel
theorem d_FL_reachRecoverer_23 : decode b_FL_reachRecoverer 23 = .ok (.return_, 1) := by decide +kernel
theorem d_FL_reachRecoverer_24 : decode b_FL_reachRecoverer 24 = .ok (.aload_n 1, 1) := by decide +kernel
theorem d_FL_reachRecoverer_25 : decode b_FL_reachRecoverer 25 = .ok (.getfield 147, 3) := by decide +kernel
theorem d_FL_reachRecoverer_28 : decode b_FL_reachRecoverer 28 = .ok (.iconst 5, 1) := by decide +kernel
theorem d_FL_reachRecoverer_29 : decode b_FL_reachRecoverer 29 = .ok (.if_icmp .ne 20, 3) := by decide +kernel
theorem d_FL_reachRecoverer_32 : decode b_FL_reachRecoverer 32 = .ok (.aload_n 2, 1) := by decide +kernel
theorem d_FL_reachRecoverer_33 : decode b_FL_reachRecoverer 33 = .ok (.getfield 107, 3) := by decide +kernel
theorem d_FL_reachRecoverer_36 : decode b_FL_reachRecoverer 36 = .ok (.iconst 1, 1) := by decide +kernel
theorem d_FL_reachRecoverer_37 : decode b_FL_reachRecoverer 37 = .ok (.if_icmp .ne 12, 3) := by decide +kernel
theorem d_FL_reachRecoverer_40 : decode b_FL_reachRecoverer 40 = .ok (.aload_n 0, 1) := by decide +kernel
theorem d_FL_reachRecoverer_41 : decode b_FL_reachRecoverer 41 = .ok (.aload_n 2, 1) := by decide +kernel
theorem d_FL_reachRecoverer_42 : decode b_FL_reachRecoverer 42 = .ok (.aload_n 1, 1) := by decide +kernel
theorem d_FL_reachRecoverer_43 : decode b_FL_reachRecoverer 43 = .ok (.invokevirtual 253, 3) := by decide +kernel
theorem d_FL_reachRecoverer_46 : decode b_FL_reachRecoverer 46 = .ok (.goto 97, 3) := by decide +kernel
theorem d_FL_reachRecoverer_49 : decode b_FL_reachRecoverer 49 = .ok (.aload_n 1, 1) := by decide +kernel
theorem d_FL_reachRecoverer_50 : decode b_FL_reachRecoverer 50 = .ok (.getfield 147, 3) := by decide +kernel
theorem d_FL_reachRecoverer_53 : decode b_FL_reachRecoverer 53 = .ok (.bipush 6, 2) := by decide +kernel
theorem d_FL_reachRecoverer_55 : decode b_FL_reachRecoverer 55 = .ok (.if_icmp .ne 32, 3) := by decide +kernel
theorem d_FL_reachRecoverer_58 : decode b_FL_reachRecoverer 58 = .ok (.aload_n 2, 1) := by decide +kernel
theorem d_FL_reachRecoverer_59 : decode b_FL_reachRecoverer 59 = .ok (.iconst 2, 1) := by decide +kernel
theorem d_FL_reachRecoverer_60 : decode b_FL_reachRecoverer 60 = .ok (.aload_n 1, 1) := by decide +kernel
theorem d_FL_reachRecoverer_61 : decode b_FL_reachRecoverer 61 = .ok (.getfield 245, 3) := by decide +kernel
theorem d_FL_reachRecoverer_64 : decode b_FL_reachRecoverer 64 = .ok (.invokevirtual 257, 3) := by decide +kernel
theorem d_FL_reachRecoverer_67 : decode b_FL_reachRecoverer 67 = .ok (.ifCond .eq 20, 3) := by decide +kernel
theorem d_FL_reachRecoverer_70 : decode b_FL_reachRecoverer 70 = .ok (.aload_n 2, 1) := by decide +kernel
theorem d_FL_reachRecoverer_71 : decode b_FL_reachRecoverer 71 = .ok (.aload_n 1, 1) := by decide +kernel
theorem d_FL_reachRecoverer_72 : decode b_FL_reachRecoverer 72 = .ok (.getfield 246, 3) := by decide +kernel
theorem d_FL_reachRecoverer_75 : decode b_FL_reachRecoverer 75 = .ok (.invokevirtual 261, 3) := by decide +kernel
theorem d_FL_reachRecoverer_78 : decode b_FL_reachRecoverer 78 = .ok (.aload_n 0, 1) := by decide +kernel
theorem d_FL_reachRecoverer_79 : decode b_FL_reachRecoverer 79 = .ok (.aload_n 2, 1) := by decide +kernel
theorem d_FL_reachRecoverer_80 : decode b_FL_reachRecoverer 80 = .ok (.invokevirtual 111, 3) := by decide +kernel
theorem d_FL_reachRecoverer_83 : decode b_FL_reachRecoverer 83 = .ok (.pop, 1) := by decide +kernel
theorem d_FL_reachRecoverer_84 : decode b_FL_reachRecoverer 84 = .ok (.goto 59, 3) := by decide +kernel
theorem d_FL_reachRecoverer_87 : decode b_FL_reachRecoverer 87 = .ok (.aload_n 1, 1) := by decide +kernel
theorem d_FL_reachRecoverer_88 : decode b_FL_reachRecoverer 88 = .ok (.getfield 147, 3) := by decide +kernel
theorem d_FL_reachRecoverer_91 : decode b_FL_reachRecoverer 91 = .ok (.bipush 7, 2) := by decide +kernel
theorem d_FL_reachRecoverer_93 : decode b_FL_reachRecoverer 93 = .ok (.if_icmp .ne 24, 3) := by decide +kernel
theorem d_FL_reachRecoverer_96 : decode b_FL_reachRecoverer 96 = .ok (.aload_n 2, 1) := by decide +kernel
theorem d_FL_reachRecoverer_97 : decode b_FL_reachRecoverer 97 = .ok (.iconst 2, 1) := by decide +kernel
theorem d_FL_reachRecoverer_98 : decode b_FL_reachRecoverer 98 = .ok (.aload_n 1, 1) := by decide +kernel
theorem d_FL_reachRecoverer_99 : decode b_FL_reachRecoverer 99 = .ok (.getfield 245, 3) := by decide +kernel
theorem d_FL_reachRecoverer_102 : decode b_FL_reachRecoverer 102 = .ok (.invokevirtual 257, 3) := by decide +kernel
theorem d_FL_reachRecoverer_105 : decode b_FL_reachRecoverer 105 = .ok (.ifCond .eq 12, 3) := by decide +kernel
theorem d_FL_reachRecoverer_108 : decode b_FL_reachRecoverer 108 = .ok (.aload_n 0, 1) := by decide +kernel
theorem d_FL_reachRecoverer_109 : decode b_FL_reachRecoverer 109 = .ok (.aload_n 2, 1) := by decide +kernel
theorem d_FL_reachRecoverer_110 : decode b_FL_reachRecoverer 110 = .ok (.aload_n 1, 1) := by decide +kernel
theorem d_FL_reachRecoverer_111 : decode b_FL_reachRecoverer 111 = .ok (.invokevirtual 264, 3) := by decide +kernel
theorem d_FL_reachRecoverer_114 : decode b_FL_reachRecoverer 114 = .ok (.goto 29, 3) := by decide +kernel
theorem d_FL_reachRecoverer_117 : decode b_FL_reachRecoverer 117 = .ok (.aload_n 1, 1) := by decide +kernel
theorem d_FL_reachRecoverer_118 : decode b_FL_reachRecoverer 118 = .ok (.getfield 147, 3) := by decide +kernel
theorem d_FL_reachRecoverer_121 : decode b_FL_reachRecoverer 121 = .ok (.iconst 3, 1) := by decide +kernel
theorem d_FL_reachRecoverer_122 : decode b_FL_reachRecoverer 122 = .ok (.if_icmp .ne 21, 3) := by decide +kernel
theorem d_FL_reachRecoverer_125 : decode b_FL_reachRecoverer 125 = .ok (.aload_n 2, 1) := by decide +kernel
theorem d_FL_reachRecoverer_126 : decode b_FL_reachRecoverer 126 = .ok (.iconst 3, 1) := by decide +kernel
theorem d_FL_reachRecoverer_127 : decode b_FL_reachRecoverer 127 = .ok (.aload_n 1, 1) := by decide +kernel
theorem d_FL_reachRecoverer_128 : decode b_FL_reachRecoverer 128 = .ok (.getfield 245, 3) := by decide +kernel
theorem d_FL_reachRecoverer_131 : decode b_FL_reachRecoverer 131 = .ok (.invokevirtual 257, 3) := by decide +kernel
theorem d_FL_reachRecoverer_134 : decode b_FL_reachRecoverer 134 = .ok (.ifCond .eq 9, 3) := by decide +kernel
theorem d_FL_reachRecoverer_137 : decode b_FL_reachRecoverer 137 = .ok (.aload_n 0, 1) := by decide +kernel
theorem d_FL_reachRecoverer_138 : decode b_FL_reachRecoverer 138 = .ok (.aload_n 2, 1) := by decide +kernel
theorem d_FL_reachRecoverer_139 : decode b_FL_reachRecoverer 139 = .ok (.aload_n 1, 1) := by decide +kernel
theorem d_FL_reachRecoverer_140 : decode b_FL_reachRecoverer 140 = .ok (.invokevirtual 267, 3) := by decide +kernel
theorem d_FL_reachRecoverer_143 : decode b_FL_reachRecoverer 143 = .ok (.return_, 1) := by decide +kernel
theorem d_FL_sendAnswer_0 : decode b_FL_sendAnswer 0 = .ok (.aload_n 0, 1) := by decide +kernel
theorem d_FL_sendAnswer_1 : decode b_FL_sendAnswer 1 = .ok (.getfield 33, 3) := by decide +kernel
theorem d_FL_sendAnswer_4 : decode b_FL_sendAnswer 4 = .ok (.iload_n 2, 1) := by decide +kernel
theorem d_FL_sendAnswer_5 : decode b_FL_sendAnswer 5 = .ok (.aload_n 1, 1) := by decide +kernel
theorem d_FL_sendAnswer_6 : decode b_FL_sendAnswer 6 = .ok (.getfield 137, 3) := by decide +kernel
theorem d_FL_sendAnswer_9 : decode b_FL_sendAnswer 9 = .ok (.aload_n 1, 1) := by decide +kernel
theorem d_FL_sendAnswer_10 : decode b_FL_sendAnswer 10 = .ok (.getfield 228, 3) := by decide +kernel
theorem d_FL_sendAnswer_13 : decode b_FL_sendAnswer 13 = .ok (.aload_n 1, 1) := by decide +kernel
theorem d_FL_sendAnswer_14 : decode b_FL_sendAnswer 14 = .ok (.getfield 245, 3) := by decide +kernel
theorem d_FL_sendAnswer_17 : decode b_FL_sendAnswer 17 = .ok (.iload_n 3, 1) := by decide +kernel
theorem d_FL_sendAnswer_18 : decode b_FL_sendAnswer 18 = .ok (.aload_n 1, 1) := by decide +kernel
theorem d_FL_sendAnswer_19 : decode b_FL_sendAnswer 19 = .ok (.getfield 252, 3) := by decide +kernel
theorem d_FL_sendAnswer_22 : decode b_FL_sendAnswer 22 = .ok (.iconst 0, 1) := by decide +kernel
theorem d_FL_sendAnswer_23 : decode b_FL_sendAnswer 23 = .ok (.invokevirtual 209, 3) := by decide +kernel
theorem d_FL_sendAnswer_26 : decode b_FL_sendAnswer 26 = .ok (.return_, 1) := by decide +kernel
theorem d_FL_reachStoreWithAdd_0 : decode b_FL_reachStoreWithAdd 0 = .ok (.aload_n 2, 1) := by decide +kernel
theorem d_FL_reachStoreWithAdd_1 : decode b_FL_reachStoreWithAdd 1 = .ok (.getfield 137, 3) := by decide +kernel
theorem d_FL_reachStoreWithAdd_4 : decode b_FL_reachStoreWithAdd 4 = .ok (.ifCond .ne 18, 3) := by decide +kernel
theorem d_FL_reachStoreWithAdd_7 : decode b_FL_reachStoreWithAdd 7 = .ok (.aload_n 1, 1) := by decide +kernel
theorem d_FL_reachStoreWithAdd_8 : decode b_FL_reachStoreWithAdd 8 = .ok (.getfield 235, 3) := by decide +kernel
theorem d_FL_reachStoreWithAdd_11 : decode b_FL_reachStoreWithAdd 11 = .ok (.ifCond .eq 11, 3) := by decide +kernel
theorem d_FL_reachStoreWithAdd_14 : decode b_FL_reachStoreWithAdd 14 = .ok (.aload_n 0, 1) := by decide +kernel
theorem d_FL_reachStoreWithAdd_15 : decode b_FL_reachStoreWithAdd 15 = .ok (.aload_n 2, 1) := by decide +kernel
theorem d_FL_reachStoreWithAdd_16 : decode b_FL_reachStoreWithAdd 16 = .ok (.iconst 4, 1) := by decide +kernel
theorem d_FL_reachStoreWithAdd_17 : decode b_FL_reachStoreWithAdd 17 = .ok (.iconst 0, 1) := by decide +kernel
theorem d_FL_reachStoreWithAdd_18 : decode b_FL_reachStoreWithAdd 18 = .ok (.invokevirtual 241, 3) := by decide +kernel
theorem d_FL_reachStoreWithAdd_21 : decode b_FL_reachStoreWithAdd 21 = .ok (.return_, 1) := by decide +kernel
theorem d_FL_reachStoreWithAdd_22 : decode b_FL_reachStoreWithAdd 22 = .ok (.aload_n 1, 1) := by decide +kernel
theorem d_FL_reachStoreWithAdd_23 : decode b_FL_reachStoreWithAdd 23 = .ok (.aload_n 2, 1) := by decide +kernel
theorem d_FL_reachStoreWithAdd_24 : decode b_FL_reachStoreWithAdd 24 = .ok (.getfield 245, 3) := by decide +kernel
theorem d_FL_reachStoreWithAdd_27 : decode b_FL_reachStoreWithAdd 27 = .ok (.aload_n 2, 1) := by decide +kernel
theorem d_FL_reachStoreWithAdd_28 : decode b_FL_reachStoreWithAdd 28 = .ok (.getfield 246, 3) := by decide +kernel
theorem d_FL_reachStoreWithAdd_31 : decode b_FL_reachStoreWithAdd 31 = .ok (.aload_n 2, 1) := by decide +kernel
theorem d_FL_reachStoreWithAdd_32 : decode b_FL_reachStoreWithAdd 32 = .ok (.getfield 247, 3) := by decide +kernel
theorem d_FL_reachStoreWithAdd_35 : decode b_FL_reachStoreWithAdd 35 = .ok (.invokevirtual 248, 3) := by decide +kernel
theorem d_FL_reachStoreWithAdd_38 : decode b_FL_reachStoreWithAdd 38 = .ok (.aload_n 0, 1) := by decide +kernel
theorem d_FL_reachStoreWithAdd_39 : decode b_FL_reachStoreWithAdd 39 = .ok (.aload_n 2, 1) := by decide +kernel
theorem d_FL_reachStoreWithAdd_40 : decode b_FL_reachStoreWithAdd 40 = .ok (.iconst 3, 1) := by decide +kernel
theorem d_FL_reachStoreWithAdd_41 : decode b_FL_reachStoreWithAdd 41 = .ok (.iconst 0, 1) := by decide +kernel
theorem d_FL_reachStoreWithAdd_42 : decode b_FL_reachStoreWithAdd 42 = .ok (.invokevirtual 241, 3) := by decide +kernel
theorem d_FL_reachStoreWithAdd_45 : decode b_FL_reachStoreWithAdd 45 = .ok (.return_, 1) := by decide +kernel
theorem d_FL_reachStore_0 : decode b_FL_reachStore 0 = .ok (.aload_n 0, 1) := by decide +kernel
theorem d_FL_reachStore_1 : decode b_FL_reachStore 1 = .ok (.getfield 25, 3) := by decide +kernel
theorem d_FL_reachStore_4 : decode b_FL_reachStore 4 = .ok (.aload_n 1, 1) := by decide +kernel
theorem d_FL_reachStore_5 : decode b_FL_reachStore 5 = .ok (.getfield 228, 3) := by decide +kernel
theorem d_FL_reachStore_8 : decode b_FL_reachStore 8 = .ok (.aaload, 1) := by decide +kernel
theorem d_FL_reachStore_9 : decode b_FL_reachStore 9 = .ok (.astore_n 2, 1) := by decide +kernel
theorem d_FL_reachStore_10 : decode b_FL_reachStore 10 = .ok (.aload_n 2, 1) := by decide +kernel
theorem d_FL_reachStore_11 : decode b_FL_reachStore 11 = .ok (.getfield 161, 3) := by decide +kernel
theorem d_FL_reachStore_14 : decode b_FL_reachStore 14 = .ok (.ifCond .ne 4, 3) := by decide +kernel
theorem d_FL_reachStore_17 : decode b_FL_reachStore 17 = .ok (.return_, 1) := by decide +kernel
theorem d_FL_reachStore_18 : decode b_FL_reachStore 18 = .ok (.aload_n 1, 1) := by decide +kernel
theorem d_FL_reachStore_19 : decode b_FL_reachStore 19 = .ok (.getfield 147, 3) := by decide +kernel
theorem d_FL_reachStore_22 : decode b_FL_reachStore 22 = .ok (.ifCond .ne 10, 3) := by decide +kernel
theorem d_FL_reachStore_25 : decode b_FL_reachStore 25 = .ok (.aload_n 0, 1) := by decide +kernel
theorem d_FL_reachStore_26 : decode b_FL_reachStore 26 = .ok (.aload_n 2, 1) := by decide +kernel
theorem d_FL_reachStore_27 : decode b_FL_reachStore 27 = .ok (.aload_n 1, 1) := by decide +kernel
theorem d_FL_reachStore_28 : decode b_FL_reachStore 28 = .ok (.invokevirtual 231, 3) := by decide +kernel
theorem d_FL_reachStore_31 : decode b_FL_reachStore 31 = .ok (.return_, 1) := by decide +kernel
theorem d_FL_reachStore_32 : decode b_FL_reachStore 32 = .ok (.aload_n 2, 1) := by decide +kernel
theorem d_FL_reachStore_33 : decode b_FL_reachStore 33 = .ok (.iconst 1, 1) := by decide +kernel
theorem d_FL_reachStore_34 : decode b_FL_reachStore 34 = .ok (.putfield 235, 3) := by decide +kernel
theorem d_FL_reachStore_37 : decode b_FL_reachStore 37 = .ok (.aload_n 1, 1) := by decide +kernel
theorem d_FL_reachStore_38 : decode b_FL_reachStore 38 = .ok (.getfield 147, 3) := by decide +kernel
theorem d_FL_reachStore_41 : decode b_FL_reachStore 41 = .ok (.iconst 1, 1) := by decide +kernel
theorem d_FL_reachStore_42 : decode b_FL_reachStore 42 = .ok (.if_icmp .ne 16, 3) := by decide +kernel
theorem d_FL_reachStore_45 : decode b_FL_reachStore 45 = .ok (.aload_n 0, 1) := by decide +kernel
theorem d_FL_reachStore_46 : decode b_FL_reachStore 46 = .ok (.aload_n 1, 1) := by decide +kernel
theorem d_FL_reachStore_47 : decode b_FL_reachStore 47 = .ok (.iconst 5, 1) := by decide +kernel
theorem d_FL_reachStore_48 : decode b_FL_reachStore 48 = .ok (.aload_n 2, 1) := by decide +kernel
theorem d_FL_reachStore_49 : decode b_FL_reachStore 49 = .ok (.getfield 238, 3) := by decide +kernel
theorem d_FL_reachStore_52 : decode b_FL_reachStore 52 = .ok (.invokevirtual 241, 3) := by decide +kernel
theorem d_FL_reachStore_55 : decode b_FL_reachStore 55 = .ok (.goto 42, 3) := by decide +kernel
theorem d_FL_reachStore_58 : decode b_FL_reachStore 58 = .ok (.aload_n 2, 1) := by decide +kernel
theorem d_FL_reachStore_59 : decode b_FL_reachStore 59 = .ok (.getfield 169, 3) := by decide +kernel
theorem d_FL_reachStore_62 : decode b_FL_reachStore 62 = .ok (.aload_n 1, 1) := by decide +kernel
theorem d_FL_reachStore_63 : decode b_FL_reachStore 63 = .ok (.getfield 245, 3) := by decide +kernel
theorem d_FL_reachStore_66 : decode b_FL_reachStore 66 = .ok (.baload, 1) := by decide +kernel
theorem d_FL_reachStore_67 : decode b_FL_reachStore 67 = .ok (.ifCond .eq 22, 3) := by decide +kernel
theorem d_FL_reachStore_70 : decode b_FL_reachStore 70 = .ok (.aload_n 0, 1) := by decide +kernel
theorem d_FL_reachStore_71 : decode b_FL_reachStore 71 = .ok (.aload_n 1, 1) := by decide +kernel
theorem d_FL_reachStore_72 : decode b_FL_reachStore 72 = .ok (.bipush 6, 2) := by decide +kernel
theorem d_FL_reachStore_74 : decode b_FL_reachStore 74 = .ok (.aload_n 2, 1) := by decide +kernel
theorem d_FL_reachStore_75 : decode b_FL_reachStore 75 = .ok (.getfield 185, 3) := by decide +kernel
theorem d_FL_reachStore_78 : decode b_FL_reachStore 78 = .ok (.aload_n 1, 1) := by decide +kernel
theorem d_FL_reachStore_79 : decode b_FL_reachStore 79 = .ok (.getfield 245, 3) := by decide +kernel
theorem d_FL_reachStore_82 : decode b_FL_reachStore 82 = .ok (.iaload, 1) := by decide +kernel
theorem d_FL_reachStore_83 : decode b_FL_reachStore 83 = .ok (.invokevirtual 241, 3) := by decide +kernel
theorem d_FL_reachStore_86 : decode b_FL_reachStore 86 = .ok (.goto 11, 3) := by decide +kernel
theorem d_FL_reachStore_89 : decode b_FL_reachStore 89 = .ok (.aload_n 0, 1) := by decide +kernel
theorem d_FL_reachStore_90 : decode b_FL_reachStore 90 = .ok (.aload_n 1, 1) := by decide +kernel
theorem d_FL_reachStore_91 : decode b_FL_reachStore 91 = .ok (.bipush 7, 2) := by decide +kernel
theorem d_FL_reachStore_93 : decode b_FL_reachStore 93 = .ok (.iconst 0, 1) := by decide +kernel
theorem d_FL_reachStore_94 : decode b_FL_reachStore 94 = .ok (.invokevirtual 241, 3) := by decide +kernel
theorem d_FL_reachStore_97 : decode b_FL_reachStore 97 = .ok (.return_, 1) := by decide +kernel
theorem d_FL_deliver_0 : decode b_FL_deliver 0 = .ok (.aload_n 0, 1) := by decide +kernel
theorem d_FL_deliver_1 : decode b_FL_deliver 1 = .ok (.getfield 33, 3) := by decide +kernel
theorem d_FL_deliver_4 : decode b_FL_deliver 4 = .ok (.iload_n 1, 1) := by decide +kernel
theorem d_FL_deliver_5 : decode b_FL_deliver 5 = .ok (.invokevirtual 121, 3) := by decide +kernel
theorem d_FL_deliver_8 : decode b_FL_deliver 8 = .ok (.ifCond .ne 5, 3) := by decide +kernel
theorem d_FL_deliver_11 : decode b_FL_deliver 11 = .ok (.iconst (-1), 1) := by decide +kernel
theorem d_FL_deliver_12 : decode b_FL_deliver 12 = .ok (.ireturn, 1) := by decide +kernel
theorem d_FL_deliver_13 : decode b_FL_deliver 13 = .ok (.aload_n 0, 1) := by decide +kernel
theorem d_FL_deliver_14 : decode b_FL_deliver 14 = .ok (.getfield 33, 3) := by decide +kernel
theorem d_FL_deliver_17 : decode b_FL_deliver 17 = .ok (.iload_n 1, 1) := by decide +kernel
theorem d_FL_deliver_18 : decode b_FL_deliver 18 = .ok (.invokevirtual 124, 3) := by decide +kernel
theorem d_FL_deliver_21 : decode b_FL_deliver 21 = .ok (.astore_n 2, 1) := by decide +kernel
theorem d_FL_deliver_22 : decode b_FL_deliver 22 = .ok (.aload_n 2, 1) := by decide +kernel
theorem d_FL_deliver_23 : decode b_FL_deliver 23 = .ok (.invokevirtual 128, 3) := by decide +kernel
theorem d_FL_deliver_26 : decode b_FL_deliver 26 = .ok (.ifCond .eq 11, 3) := by decide +kernel
theorem d_FL_deliver_29 : decode b_FL_deliver 29 = .ok (.aload_n 0, 1) := by decide +kernel
theorem d_FL_deliver_30 : decode b_FL_deliver 30 = .ok (.aload_n 2, 1) := by decide +kernel
theorem d_FL_deliver_31 : decode b_FL_deliver 31 = .ok (.invokevirtual 133, 3) := by decide +kernel
theorem d_FL_deliver_34 : decode b_FL_deliver 34 = .ok (.goto 30, 3) := by decide +kernel
theorem d_FL_deliver_37 : decode b_FL_deliver 37 = .ok (.aload_n 2, 1) := by decide +kernel
theorem d_FL_deliver_38 : decode b_FL_deliver 38 = .ok (.getfield 137, 3) := by decide +kernel
theorem d_FL_deliver_41 : decode b_FL_deliver 41 = .ok (.ifCond .ne 18, 3) := by decide +kernel
theorem d_FL_deliver_44 : decode b_FL_deliver 44 = .ok (.aload_n 0, 1) := by decide +kernel
theorem d_FL_deliver_45 : decode b_FL_deliver 45 = .ok (.getfield 40, 3) := by decide +kernel
theorem d_FL_deliver_48 : decode b_FL_deliver 48 = .ok (.aload_n 2, 1) := by decide +kernel
theorem d_FL_deliver_49 : decode b_FL_deliver 49 = .ok (.aload_n 0, 1) := by decide +kernel
theorem d_FL_deliver_50 : decode b_FL_deliver 50 = .ok (.getfield 20, 3) := by decide +kernel
theorem d_FL_deliver_53 : decode b_FL_deliver 53 = .ok (.invokevirtual 140, 3) := by decide +kernel
theorem d_FL_deliver_56 : decode b_FL_deliver 56 = .ok (.goto 8, 3) := by decide +kernel
theorem d_FL_deliver_59 : decode b_FL_deliver 59 = .ok (.aload_n 0, 1) := by decide +kernel
theorem d_FL_deliver_60 : decode b_FL_deliver 60 = .ok (.aload_n 2, 1) := by decide +kernel
