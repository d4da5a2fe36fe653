theorem d_MD_resend_13 : decode b_MD_resend 13 = .ok (.ifCond .lt 11, 3) := by decide +kernel
theorem d_MD_resend_16 : decode b_MD_resend 16 = .ok (.iload_n 1, 1) := by decide +kernel
theorem d_MD_resend_17 : decode b_MD_resend 17 = .ok (.aload_n 0, 1) := by decide +kernel
theorem d_MD_resend_18 : decode b_MD_resend 18 = .ok (.getfield 105, 3) := by decide +kernel
theorem d_MD_resend_21 : decode b_MD_resend 21 = .ok (.if_icmp .lt 5, 3) := by decide +kernel
theorem d_MD_resend_24 : decode b_MD_resend 24 = .ok (.iconst (-1), 1) := by decide +kernel
theorem d_MD_resend_25 : decode b_MD_resend 25 = .ok (.ireturn, 1) := by decide +kernel
theorem d_MD_resend_26 : decode b_MD_resend 26 = .ok (.iload_n 1, 1) := by decide +kernel
theorem d_MD_resend_27 : decode b_MD_resend 27 = .ok (.aload_n 0, 1) := by decide +kernel
theorem d_MD_resend_28 : decode b_MD_resend 28 = .ok (.getfield 33, 3) := by decide +kernel
theorem d_MD_resend_31 : decode b_MD_resend 31 = .ok (.if_icmp .gt 19, 3) := by decide +kernel
theorem d_MD_resend_34 : decode b_MD_resend 34 = .ok (.aload_n 0, 1) := by decide +kernel
theorem d_MD_resend_35 : decode b_MD_resend 35 = .ok (.iload_n 1, 1) := by decide +kernel
theorem d_MD_resend_36 : decode b_MD_resend 36 = .ok (.invokevirtual 108, 3) := by decide +kernel
theorem d_MD_resend_39 : decode b_MD_resend 39 = .ok (.aload_n 0, 1) := by decide +kernel
theorem d_MD_resend_40 : decode b_MD_resend 40 = .ok (.getfield 63, 3) := by decide +kernel
theorem d_MD_resend_43 : decode b_MD_resend 43 = .ok (.if_icmp .ne 7, 3) := by decide +kernel
theorem d_MD_resend_46 : decode b_MD_resend 46 = .ok (.iconst (-1), 1) := by decide +kernel
theorem d_MD_resend_47 : decode b_MD_resend 47 = .ok (.goto 8, 3) := by decide +kernel
theorem d_MD_resend_50 : decode b_MD_resend 50 = .ok (.aload_n 0, 1) := by decide +kernel
theorem d_MD_resend_51 : decode b_MD_resend 51 = .ok (.iload_n 1, 1) := by decide +kernel
theorem d_MD_resend_52 : decode b_MD_resend 52 = .ok (.invokevirtual 112, 3) := by decide +kernel
theorem d_MD_resend_55 : decode b_MD_resend 55 = .ok (.ireturn, 1) := by decide +kernel
theorem d_MD_close_0 : decode b_MD_close 0 = .ok (.aload_n 0, 1) := by decide +kernel
theorem d_MD_close_1 : decode b_MD_close 1 = .ok (.iconst 0, 1) := by decide +kernel
theorem d_MD_close_2 : decode b_MD_close 2 = .ok (.putfield 69, 3) := by decide +kernel
theorem d_MD_close_5 : decode b_MD_close 5 = .ok (.aload_n 0, 1) := by decide +kernel
theorem d_MD_close_6 : decode b_MD_close 6 = .ok (.getfield 102, 3) := by decide +kernel
theorem d_MD_close_9 : decode b_MD_close 9 = .ok (.ifCond .ne 10, 3) := by decide +kernel
theorem d_MD_close_12 : decode b_MD_close 12 = .ok (.aload_n 0, 1) := by decide +kernel
theorem d_MD_close_13 : decode b_MD_close 13 = .ok (.getfield 115, 3) := by decide +kernel
theorem d_MD_close_16 : decode b_MD_close 16 = .ok (.ifCond .eq 5, 3) := by decide +kernel
theorem d_MD_close_19 : decode b_MD_close 19 = .ok (.iconst 0, 1) := by decide +kernel
theorem d_MD_close_20 : decode b_MD_close 20 = .ok (.ireturn, 1) := by decide +kernel
theorem d_MD_close_21 : decode b_MD_close 21 = .ok (.aload_n 0, 1) := by decide +kernel
theorem d_MD_close_22 : decode b_MD_close 22 = .ok (.iconst 2, 1) := by decide +kernel
theorem d_MD_close_23 : decode b_MD_close 23 = .ok (.putfield 115, 3) := by decide +kernel
theorem d_MD_close_26 : decode b_MD_close 26 = .ok (.aload_n 0, 1) := by decide +kernel
theorem d_MD_close_27 : decode b_MD_close 27 = .ok (.aload_n 0, 1) := by decide +kernel
theorem d_MD_close_28 : decode b_MD_close 28 = .ok (.getfield 33, 3) := by decide +kernel
theorem d_MD_close_31 : decode b_MD_close 31 = .ok (.putfield 26, 3) := by decide +kernel
theorem d_MD_close_34 : decode b_MD_close 34 = .ok (.aload_n 0, 1) := by decide +kernel
theorem d_MD_close_35 : decode b_MD_close 35 = .ok (.dup, 1) := by decide +kernel
theorem d_MD_close_36 : decode b_MD_close 36 = .ok (.getfield 118, 3) := by decide +kernel
theorem d_MD_close_39 : decode b_MD_close 39 = .ok (.iconst 1, 1) := by decide +kernel
theorem d_MD_close_40 : decode b_MD_close 40 = .ok (.iadd, 1) := by decide +kernel
theorem d_MD_close_41 : decode b_MD_close 41 = .ok (.putfield 118, 3) := by decide +kernel
theorem d_MD_close_44 : decode b_MD_close 44 = .ok (.aload_n 0, 1) := by decide +kernel
theorem d_MD_close_45 : decode b_MD_close 45 = .ok (.iconst 2, 1) := by decide +kernel
theorem d_MD_close_46 : decode b_MD_close 46 = .ok (.putfield 102, 3) := by decide +kernel
theorem d_MD_close_49 : decode b_MD_close 49 = .ok (.iconst 1, 1) := by decide +kernel
theorem d_MD_close_50 : decode b_MD_close 50 = .ok (.ireturn, 1) := by decide +kernel
theorem d_MD_leave_0 : decode b_MD_leave 0 = .ok (.aload_n 0, 1) := by decide +kernel
theorem d_MD_leave_1 : decode b_MD_leave 1 = .ok (.iconst 0, 1) := by decide +kernel
theorem d_MD_leave_2 : decode b_MD_leave 2 = .ok (.putfield 69, 3) := by decide +kernel
theorem d_MD_leave_5 : decode b_MD_leave 5 = .ok (.aload_n 0, 1) := by decide +kernel
theorem d_MD_leave_6 : decode b_MD_leave 6 = .ok (.getfield 102, 3) := by decide +kernel
theorem d_MD_leave_9 : decode b_MD_leave 9 = .ok (.iconst 3, 1) := by decide +kernel
theorem d_MD_leave_10 : decode b_MD_leave 10 = .ok (.if_icmp .ne 7, 3) := by decide +kernel
theorem d_MD_leave_13 : decode b_MD_leave 13 = .ok (.iconst 1, 1) := by decide +kernel
theorem d_MD_leave_14 : decode b_MD_leave 14 = .ok (.goto 4, 3) := by decide +kernel
theorem d_MD_leave_17 : decode b_MD_leave 17 = .ok (.iconst 0, 1) := by decide +kernel
theorem d_MD_leave_18 : decode b_MD_leave 18 = .ok (.istore_n 1, 1) := by decide +kernel
theorem d_MD_leave_19 : decode b_MD_leave 19 = .ok (.aload_n 0, 1) := by decide +kernel
theorem d_MD_leave_20 : decode b_MD_leave 20 = .ok (.iconst 3, 1) := by decide +kernel
theorem d_MD_leave_21 : decode b_MD_leave 21 = .ok (.putfield 102, 3) := by decide +kernel
theorem d_MD_leave_24 : decode b_MD_leave 24 = .ok (.iload_n 1, 1) := by decide +kernel
theorem d_MD_leave_25 : decode b_MD_leave 25 = .ok (.ifCond .ne 7, 3) := by decide +kernel
theorem d_MD_leave_28 : decode b_MD_leave 28 = .ok (.iconst 1, 1) := by decide +kernel
theorem d_MD_leave_29 : decode b_MD_leave 29 = .ok (.goto 4, 3) := by decide +kernel
theorem d_MD_leave_32 : decode b_MD_leave 32 = .ok (.iconst 0, 1) := by decide +kernel
theorem d_MD_leave_33 : decode b_MD_leave 33 = .ok (.ireturn, 1) := by decide +kernel
theorem d_MD_isRecoverer_0 : decode b_MD_isRecoverer 0 = .ok (.iload_n 0, 1) := by decide +kernel
theorem d_MD_isRecoverer_1 : decode b_MD_isRecoverer 1 = .ok (.iconst 1, 1) := by decide +kernel
theorem d_MD_isRecoverer_2 : decode b_MD_isRecoverer 2 = .ok (.if_icmp .eq 8, 3) := by decide +kernel
theorem d_MD_isRecoverer_5 : decode b_MD_isRecoverer 5 = .ok (.iload_n 0, 1) := by decide +kernel
theorem d_MD_isRecoverer_6 : decode b_MD_isRecoverer 6 = .ok (.iconst 2, 1) := by decide +kernel
theorem d_MD_isRecoverer_7 : decode b_MD_isRecoverer 7 = .ok (.if_icmp .ne 7, 3) := by decide +kernel
theorem d_MD_isRecoverer_10 : decode b_MD_isRecoverer 10 = .ok (.iconst 1, 1) := by decide +kernel
theorem d_MD_isRecoverer_11 : decode b_MD_isRecoverer 11 = .ok (.goto 4, 3) := by decide +kernel
theorem d_MD_isRecoverer_14 : decode b_MD_isRecoverer 14 = .ok (.iconst 0, 1) := by decide +kernel
theorem d_MD_isRecoverer_15 : decode b_MD_isRecoverer 15 = .ok (.ireturn, 1) := by decide +kernel
theorem d_MD_recover_0 : decode b_MD_recover 0 = .ok (.aload_n 0, 1) := by decide +kernel
theorem d_MD_recover_1 : decode b_MD_recover 1 = .ok (.iconst 0, 1) := by decide +kernel
theorem d_MD_recover_2 : decode b_MD_recover 2 = .ok (.putfield 69, 3) := by decide +kernel
theorem d_MD_recover_5 : decode b_MD_recover 5 = .ok (.iload_n 1, 1) := by decide +kernel
theorem d_MD_recover_6 : decode b_MD_recover 6 = .ok (.invokestatic 140, 3) := by decide +kernel
theorem d_MD_recover_9 : decode b_MD_recover 9 = .ok (.ifCond .ne 5, 3) := by decide +kernel
theorem d_MD_recover_12 : decode b_MD_recover 12 = .ok (.iconst 0, 1) := by decide +kernel
theorem d_MD_recover_13 : decode b_MD_recover 13 = .ok (.ireturn, 1) := by decide +kernel
theorem d_MD_recover_14 : decode b_MD_recover 14 = .ok (.aload_n 0, 1) := by decide +kernel
theorem d_MD_recover_15 : decode b_MD_recover 15 = .ok (.getfield 42, 3) := by decide +kernel
theorem d_MD_recover_18 : decode b_MD_recover 18 = .ok (.iload_n 1, 1) := by decide +kernel
theorem d_MD_recover_19 : decode b_MD_recover 19 = .ok (.iaload, 1) := by decide +kernel
theorem d_MD_recover_20 : decode b_MD_recover 20 = .ok (.ifCond .eq 5, 3) := by decide +kernel
theorem d_MD_recover_23 : decode b_MD_recover 23 = .ok (.iconst 0, 1) := by decide +kernel
theorem d_MD_recover_24 : decode b_MD_recover 24 = .ok (.ireturn, 1) := by decide +kernel
theorem d_MD_recover_25 : decode b_MD_recover 25 = .ok (.aload_n 0, 1) := by decide +kernel
theorem d_MD_recover_26 : decode b_MD_recover 26 = .ok (.getfield 115, 3) := by decide +kernel
theorem d_MD_recover_29 : decode b_MD_recover 29 = .ok (.iconst 2, 1) := by decide +kernel
theorem d_MD_recover_30 : decode b_MD_recover 30 = .ok (.if_icmp .ne 12, 3) := by decide +kernel
theorem d_MD_recover_33 : decode b_MD_recover 33 = .ok (.aload_n 0, 1) := by decide +kernel
theorem d_MD_recover_34 : decode b_MD_recover 34 = .ok (.getfield 42, 3) := by decide +kernel
theorem d_MD_recover_37 : decode b_MD_recover 37 = .ok (.iload_n 1, 1) := by decide +kernel
theorem d_MD_recover_38 : decode b_MD_recover 38 = .ok (.iconst 4, 1) := by decide +kernel
theorem d_MD_recover_39 : decode b_MD_recover 39 = .ok (.iastore, 1) := by decide +kernel
theorem d_MD_recover_40 : decode b_MD_recover 40 = .ok (.iconst 1, 1) := by decide +kernel
theorem d_MD_recover_41 : decode b_MD_recover 41 = .ok (.ireturn, 1) := by decide +kernel
theorem d_MD_recover_42 : decode b_MD_recover 42 = .ok (.aload_n 0, 1) := by decide +kernel
theorem d_MD_recover_43 : decode b_MD_recover 43 = .ok (.iconst 1, 1) := by decide +kernel
theorem d_MD_recover_44 : decode b_MD_recover 44 = .ok (.putfield 115, 3) := by decide +kernel
theorem d_MD_recover_47 : decode b_MD_recover 47 = .ok (.aload_n 0, 1) := by decide +kernel
theorem d_MD_recover_48 : decode b_MD_recover 48 = .ok (.dup, 1) := by decide +kernel
theorem d_MD_recover_49 : decode b_MD_recover 49 = .ok (.getfield 118, 3) := by decide +kernel
theorem d_MD_recover_52 : decode b_MD_recover 52 = .ok (.iconst 1, 1) := by decide +kernel
theorem d_MD_recover_53 : decode b_MD_recover 53 = .ok (.iadd, 1) := by decide +kernel
theorem d_MD_recover_54 : decode b_MD_recover 54 = .ok (.putfield 118, 3) := by decide +kernel
theorem d_MD_recover_57 : decode b_MD_recover 57 = .ok (.aload_n 0, 1) := by decide +kernel
theorem d_MD_recover_58 : decode b_MD_recover 58 = .ok (.getfield 45, 3) := by decide +kernel
theorem d_MD_recover_61 : decode b_MD_recover 61 = .ok (.iload_n 1, 1) := by decide +kernel
theorem d_MD_recover_62 : decode b_MD_recover 62 = .ok (.aload_n 0, 1) := by decide +kernel
theorem d_MD_recover_63 : decode b_MD_recover 63 = .ok (.getfield 118, 3) := by decide +kernel
theorem d_MD_recover_66 : decode b_MD_recover 66 = .ok (.iastore, 1) := by decide +kernel
theorem d_MD_recover_67 : decode b_MD_recover 67 = .ok (.aload_n 0, 1) := by decide +kernel
theorem d_MD_recover_68 : decode b_MD_recover 68 = .ok (.iload_n 1, 1) := by decide +kernel
theorem d_MD_recover_69 : decode b_MD_recover 69 = .ok (.invokevirtual 125, 3) := by decide +kernel
theorem d_MD_recover_72 : decode b_MD_recover 72 = .ok (.aload_n 0, 1) := by decide +kernel
theorem d_MD_recover_73 : decode b_MD_recover 73 = .ok (.getfield 51, 3) := by decide +kernel
theorem d_MD_recover_76 : decode b_MD_recover 76 = .ok (.iload_n 1, 1) := by decide +kernel
theorem d_MD_recover_77 : decode b_MD_recover 77 = .ok (.iconst (-1), 1) := by decide +kernel
theorem d_MD_recover_78 : decode b_MD_recover 78 = .ok (.iastore, 1) := by decide +kernel
theorem d_MD_recover_79 : decode b_MD_recover 79 = .ok (.aload_n 0, 1) := by decide +kernel
theorem d_MD_recover_80 : decode b_MD_recover 80 = .ok (.getfield 42, 3) := by decide +kernel
theorem d_MD_recover_83 : decode b_MD_recover 83 = .ok (.iload_n 1, 1) := by decide +kernel
theorem d_MD_recover_84 : decode b_MD_recover 84 = .ok (.iconst 1, 1) := by decide +kernel
theorem d_MD_recover_85 : decode b_MD_recover 85 = .ok (.iastore, 1) := by decide +kernel
theorem d_MD_recover_86 : decode b_MD_recover 86 = .ok (.aload_n 0, 1) := by decide +kernel
theorem d_MD_recover_87 : decode b_MD_recover 87 = .ok (.iload_n 1, 1) := by decide +kernel
theorem d_MD_recover_88 : decode b_MD_recover 88 = .ok (.invokevirtual 128, 3) := by decide +kernel
theorem d_MD_recover_91 : decode b_MD_recover 91 = .ok (.istore_n 2, 1) := by decide +kernel
theorem d_MD_recover_92 : decode b_MD_recover 92 = .ok (.iconst 1, 1) := by decide +kernel
theorem d_MD_recover_93 : decode b_MD_recover 93 = .ok (.ireturn, 1) := by decide +kernel
theorem d_MD_busy_0 : decode b_MD_busy 0 = .ok (.iload_n 1, 1) := by decide +kernel
theorem d_MD_busy_1 : decode b_MD_busy 1 = .ok (.invokestatic 140, 3) := by decide +kernel
theorem d_MD_busy_4 : decode b_MD_busy 4 = .ok (.ifCond .eq 48, 3) := by decide +kernel
theorem d_MD_busy_7 : decode b_MD_busy 7 = .ok (.aload_n 0, 1) := by decide +kernel
theorem d_MD_busy_8 : decode b_MD_busy 8 = .ok (.getfield 42, 3) := by decide +kernel
theorem d_MD_busy_11 : decode b_MD_busy 11 = .ok (.iload_n 1, 1) := by decide +kernel
theorem d_MD_busy_12 : decode b_MD_busy 12 = .ok (.invokestatic 140, 3) := by decide +kernel
theorem d_MD_busy_15 : decode b_MD_busy 15 = .ok (.ifCond .eq 7, 3) := by decide +kernel
theorem d_MD_busy_18 : decode b_MD_busy 18 = .ok (.iload_n 1, 1) := by decide +kernel
theorem d_MD_busy_19 : decode b_MD_busy 19 = .ok (.goto 4, 3) := by decide +kernel
theorem d_MD_busy_22 : decode b_MD_busy 22 = .ok (.iconst 0, 1) := by decide +kernel
theorem d_MD_busy_23 : decode b_MD_busy 23 = .ok (.iaload, 1) := by decide +kernel
theorem d_MD_busy_24 : decode b_MD_busy 24 = .ok (.ifCond .le 28, 3) := by decide +kernel
theorem d_MD_busy_27 : decode b_MD_busy 27 = .ok (.aload_n 0, 1) := by decide +kernel
theorem d_MD_busy_28 : decode b_MD_busy 28 = .ok (.getfield 42, 3) := by decide +kernel
theorem d_MD_busy_31 : decode b_MD_busy 31 = .ok (.iload_n 1, 1) := by decide +kernel
theorem d_MD_busy_32 : decode b_MD_busy 32 = .ok (.invokestatic 140, 3) := by decide +kernel
theorem d_MD_busy_35 : decode b_MD_busy 35 = .ok (.ifCond .eq 7, 3) := by decide +kernel
theorem d_MD_busy_38 : decode b_MD_busy 38 = .ok (.iload_n 1, 1) := by decide +kernel
theorem d_MD_busy_39 : decode b_MD_busy 39 = .ok (.goto 4, 3) := by decide +kernel
theorem d_MD_busy_42 : decode b_MD_busy 42 = .ok (.iconst 0, 1) := by decide +kernel
theorem d_MD_busy_43 : decode b_MD_busy 43 = .ok (.iaload, 1) := by decide +kernel
theorem d_MD_busy_44 : decode b_MD_busy 44 = .ok (.iconst 4, 1) := by decide +kernel
theorem d_MD_busy_45 : decode b_MD_busy 45 = .ok (.if_icmp .ge 7, 3) := by decide +kernel
theorem d_MD_busy_48 : decode b_MD_busy 48 = .ok (.iconst 1, 1) := by decide +kernel
theorem d_MD_busy_49 : decode b_MD_busy 49 = .ok (.goto 4, 3) := by decide +kernel
theorem d_MD_busy_52 : decode b_MD_busy 52 = .ok (.iconst 0, 1) := by decide +kernel
theorem d_MD_busy_53 : decode b_MD_busy 53 = .ok (.ireturn, 1) := by decide +kernel
theorem d_MD_retry_0 : decode b_MD_retry 0 = .ok (.aload_n 0, 1) := by decide +kernel
theorem d_MD_retry_1 : decode b_MD_retry 1 = .ok (.iconst 0, 1) := by decide +kernel
theorem d_MD_retry_2 : decode b_MD_retry 2 = .ok (.putfield 69, 3) := by decide +kernel
theorem d_MD_retry_5 : decode b_MD_retry 5 = .ok (.aload_n 0, 1) := by decide +kernel
theorem d_MD_retry_6 : decode b_MD_retry 6 = .ok (.iload_n 1, 1) := by decide +kernel
theorem d_MD_retry_7 : decode b_MD_retry 7 = .ok (.invokevirtual 143, 3) := by decide +kernel
theorem d_MD_retry_10 : decode b_MD_retry 10 = .ok (.ifCond .eq 11, 3) := by decide +kernel
theorem d_MD_retry_13 : decode b_MD_retry 13 = .ok (.aload_n 0, 1) := by decide +kernel
theorem d_MD_retry_14 : decode b_MD_retry 14 = .ok (.iload_n 1, 1) := by decide +kernel
theorem d_MD_retry_15 : decode b_MD_retry 15 = .ok (.invokevirtual 128, 3) := by decide +kernel
theorem d_MD_retry_18 : decode b_MD_retry 18 = .ok (.goto 4, 3) := by decide +kernel
theorem d_MD_retry_21 : decode b_MD_retry 21 = .ok (.iconst (-1), 1) := by decide +kernel
theorem d_MD_retry_22 : decode b_MD_retry 22 = .ok (.ireturn, 1) := by decide +kernel
theorem d_MD_abandon_0 : decode b_MD_abandon 0 = .ok (.aload_n 0, 1) := by decide +kernel
theorem d_MD_abandon_1 : decode b_MD_abandon 1 = .ok (.iconst 0, 1) := by decide +kernel
theorem d_MD_abandon_2 : decode b_MD_abandon 2 = .ok (.putfield 69, 3) := by decide +kernel
theorem d_MD_abandon_5 : decode b_MD_abandon 5 = .ok (.aload_n 0, 1) := by decide +kernel
theorem d_MD_abandon_6 : decode b_MD_abandon 6 = .ok (.iload_n 1, 1) := by decide +kernel
theorem d_MD_abandon_7 : decode b_MD_abandon 7 = .ok (.invokevirtual 143, 3) := by decide +kernel
theorem d_MD_abandon_10 : decode b_MD_abandon 10 = .ok (.ifCond .ne 5, 3) := by decide +kernel
theorem d_MD_abandon_13 : decode b_MD_abandon 13 = .ok (.iconst 0, 1) := by decide +kernel
theorem d_MD_abandon_14 : decode b_MD_abandon 14 = .ok (.ireturn, 1) := by decide +kernel
theorem d_MD_abandon_15 : decode b_MD_abandon 15 = .ok (.aload_n 0, 1) := by decide +kernel
theorem d_MD_abandon_16 : decode b_MD_abandon 16 = .ok (.getfield 42, 3) := by decide +kernel
theorem d_MD_abandon_19 : decode b_MD_abandon 19 = .ok (.iload_n 1, 1) := by decide +kernel
theorem d_MD_abandon_20 : decode b_MD_abandon 20 = .ok (.iconst 0, 1) := by decide +kernel
theorem d_MD_abandon_21 : decode b_MD_abandon 21 = .ok (.iastore, 1) := by decide +kernel
theorem d_MD_abandon_22 : decode b_MD_abandon 22 = .ok (.iconst 1, 1) := by decide +kernel
theorem d_MD_abandon_23 : decode b_MD_abandon 23 = .ok (.ireturn, 1) := by decide +kernel
theorem d_MD_isStore_0 : decode b_MD_isStore 0 = .ok (.iload_n 1, 1) := by decide +kernel
theorem d_MD_isStore_1 : decode b_MD_isStore 1 = .ok (.ifCond .lt 15, 3) := by decide +kernel
theorem d_MD_isStore_4 : decode b_MD_isStore 4 = .ok (.iload_n 1, 1) := by decide +kernel
theorem d_MD_isStore_5 : decode b_MD_isStore 5 = .ok (.aload_n 0, 1) := by decide +kernel
theorem d_MD_isStore_6 : decode b_MD_isStore 6 = .ok (.getfield 60, 3) := by decide +kernel
theorem d_MD_isStore_9 : decode b_MD_isStore 9 = .ok (.if_icmp .ge 7, 3) := by decide +kernel
theorem d_MD_isStore_12 : decode b_MD_isStore 12 = .ok (.iconst 1, 1) := by decide +kernel
theorem d_MD_isStore_13 : decode b_MD_isStore 13 = .ok (.goto 4, 3) := by decide +kernel
theorem d_MD_isStore_16 : decode b_MD_isStore 16 = .ok (.iconst 0, 1) := by decide +kernel
theorem d_MD_isStore_17 : decode b_MD_isStore 17 = .ok (.ireturn, 1) := by decide +kernel
theorem d_MD_power_0 : decode b_MD_power 0 = .ok (.aload_n 0, 1) := by decide +kernel
theorem d_MD_power_1 : decode b_MD_power 1 = .ok (.iconst 0, 1) := by decide +kernel
theorem d_MD_power_2 : decode b_MD_power 2 = .ok (.putfield 69, 3) := by decide +kernel
theorem d_MD_power_5 : decode b_MD_power 5 = .ok (.aload_n 0, 1) := by decide +kernel
theorem d_MD_power_6 : decode b_MD_power 6 = .ok (.iload_n 1, 1) := by decide +kernel
theorem d_MD_power_7 : decode b_MD_power 7 = .ok (.invokevirtual 146, 3) := by decide +kernel
theorem d_MD_power_10 : decode b_MD_power 10 = .ok (.ifCond .ne 5, 3) := by decide +kernel
theorem d_MD_power_13 : decode b_MD_power 13 = .ok (.iconst 0, 1) := by decide +kernel
theorem d_MD_power_14 : decode b_MD_power 14 = .ok (.ireturn, 1) := by decide +kernel
theorem d_MD_power_15 : decode b_MD_power 15 = .ok (.aload_n 0, 1) := by decide +kernel
theorem d_MD_power_16 : decode b_MD_power 16 = .ok (.getfield 7, 3) := by decide +kernel
theorem d_MD_power_19 : decode b_MD_power 19 = .ok (.iload_n 1, 1) := by decide +kernel
theorem d_MD_power_20 : decode b_MD_power 20 = .ok (.baload, 1) := by decide +kernel
theorem d_MD_power_21 : decode b_MD_power 21 = .ok (.iload_n 2, 1) := by decide +kernel
theorem d_MD_power_22 : decode b_MD_power 22 = .ok (.if_icmp .ne 7, 3) := by decide +kernel
theorem d_MD_power_25 : decode b_MD_power 25 = .ok (.iconst 1, 1) := by decide +kernel
theorem d_MD_power_26 : decode b_MD_power 26 = .ok (.goto 4, 3) := by decide +kernel
theorem d_MD_power_29 : decode b_MD_power 29 = .ok (.iconst 0, 1) := by decide +kernel
theorem d_MD_power_30 : decode b_MD_power 30 = .ok (.istore_n 3, 1) := by decide +kernel
theorem d_MD_power_31 : decode b_MD_power 31 = .ok (.aload_n 0, 1) := by decide +kernel
theorem d_MD_power_32 : decode b_MD_power 32 = .ok (.getfield 7, 3) := by decide +kernel
theorem d_MD_power_35 : decode b_MD_power 35 = .ok (.iload_n 1, 1) := by decide +kernel
theorem d_MD_power_36 : decode b_MD_power 36 = .ok (.iload_n 2, 1) := by decide +kernel
theorem d_MD_power_37 : decode b_MD_power 37 = .ok (.ifCond .ne 7, 3) := by decide +kernel
theorem d_MD_power_40 : decode b_MD_power 40 = .ok (.iconst 1, 1) := by decide +kernel
theorem d_MD_power_41 : decode b_MD_power 41 = .ok (.goto 4, 3) := by decide +kernel
theorem d_MD_power_44 : decode b_MD_power 44 = .ok (.iconst 0, 1) := by decide +kernel
theorem d_MD_power_45 : decode b_MD_power 45 = .ok (.bastore, 1) := by decide +kernel
theorem d_MD_power_46 : decode b_MD_power 46 = .ok (.iload_n 3, 1) := by decide +kernel
theorem d_MD_power_47 : decode b_MD_power 47 = .ok (.ireturn, 1) := by decide +kernel
theorem d_MD_store_0 : decode b_MD_store 0 = .ok (.aload_n 0, 1) := by decide +kernel
theorem d_MD_store_1 : decode b_MD_store 1 = .ok (.iconst 0, 1) := by decide +kernel
theorem d_MD_store_2 : decode b_MD_store 2 = .ok (.putfield 69, 3) := by decide +kernel
theorem d_MD_store_5 : decode b_MD_store 5 = .ok (.aload_n 0, 1) := by decide +kernel
theorem d_MD_store_6 : decode b_MD_store 6 = .ok (.iload_n 1, 1) := by decide +kernel
theorem d_MD_store_7 : decode b_MD_store 7 = .ok (.invokevirtual 146, 3) := by decide +kernel
theorem d_MD_store_10 : decode b_MD_store 10 = .ok (.ifCond .eq 12, 3) := by decide +kernel
theorem d_MD_store_13 : decode b_MD_store 13 = .ok (.iload_n 2, 1) := by decide +kernel
theorem d_MD_store_14 : decode b_MD_store 14 = .ok (.ifCond .lt 8, 3) := by decide +kernel
theorem d_MD_store_17 : decode b_MD_store 17 = .ok (.iload_n 2, 1) := by decide +kernel
theorem d_MD_store_18 : decode b_MD_store 18 = .ok (.iconst 3, 1) := by decide +kernel
theorem d_MD_store_19 : decode b_MD_store 19 = .ok (.if_icmp .le 5, 3) := by decide +kernel
theorem d_MD_store_22 : decode b_MD_store 22 = .ok (.iconst (-1), 1) := by decide +kernel
theorem d_MD_store_23 : decode b_MD_store 23 = .ok (.ireturn, 1) := by decide +kernel
theorem d_MD_store_24 : decode b_MD_store 24 = .ok (.iload_n 2, 1) := by decide +kernel
theorem d_MD_store_25 : decode b_MD_store 25 = .ok (.iconst 3, 1) := by decide +kernel
theorem d_MD_store_26 : decode b_MD_store 26 = .ok (.if_icmp .ne 46, 3) := by decide +kernel
theorem d_MD_store_29 : decode b_MD_store 29 = .ok (.iconst 0, 1) := by decide +kernel
theorem d_MD_store_30 : decode b_MD_store 30 = .ok (.istore_n 3, 1) := by decide +kernel
theorem d_MD_store_31 : decode b_MD_store 31 = .ok (.iconst 0, 1) := by decide +kernel
theorem d_MD_store_32 : decode b_MD_store 32 = .ok (.istore 4, 2) := by decide +kernel
theorem d_MD_store_34 : decode b_MD_store 34 = .ok (.iload 4, 2) := by decide +kernel
theorem d_MD_store_36 : decode b_MD_store 36 = .ok (.bipush 20, 2) := by decide +kernel
theorem d_MD_store_38 : decode b_MD_store 38 = .ok (.if_icmp .ge 32, 3) := by decide +kernel
theorem d_MD_store_41 : decode b_MD_store 41 = .ok (.iload_n 3, 1) := by decide +kernel
theorem d_MD_store_42 : decode b_MD_store 42 = .ok (.aload_n 0, 1) := by decide +kernel
theorem d_MD_store_43 : decode b_MD_store 43 = .ok (.getfield 20, 3) := by decide +kernel
theorem d_MD_store_46 : decode b_MD_store 46 = .ok (.bipush 20, 2) := by decide +kernel
theorem d_MD_store_48 : decode b_MD_store 48 = .ok (.iload_n 1, 1) := by decide +kernel
theorem d_MD_store_49 : decode b_MD_store 49 = .ok (.imul, 1) := by decide +kernel
theorem d_MD_store_50 : decode b_MD_store 50 = .ok (.iload 4, 2) := by decide +kernel
theorem d_MD_store_52 : decode b_MD_store 52 = .ok (.iadd, 1) := by decide +kernel
theorem d_MD_store_53 : decode b_MD_store 53 = .ok (.baload, 1) := by decide +kernel
theorem d_MD_store_54 : decode b_MD_store 54 = .ok (.ifCond .eq 7, 3) := by decide +kernel
theorem d_MD_store_57 : decode b_MD_store 57 = .ok (.iconst 1, 1) := by decide +kernel
theorem d_MD_store_58 : decode b_MD_store 58 = .ok (.goto 4, 3) := by decide +kernel
theorem d_MD_store_61 : decode b_MD_store 61 = .ok (.iconst 0, 1) := by decide +kernel
theorem d_MD_store_62 : decode b_MD_store 62 = .ok (.iadd, 1) := by decide +kernel
theorem d_MD_store_63 : decode b_MD_store 63 = .ok (.istore_n 3, 1) := by decide +kernel
theorem d_MD_store_64 : decode b_MD_store 64 = .ok (.iinc 4 1, 3) := by decide +kernel
theorem d_MD_store_67 : decode b_MD_store 67 = .ok (.goto (-33), 3) := by decide +kernel
theorem d_MD_store_70 : decode b_MD_store 70 = .ok (.iload_n 3, 1) := by decide +kernel
theorem d_MD_store_71 : decode b_MD_store 71 = .ok (.ireturn, 1) := by decide +kernel
theorem d_MD_store_72 : decode b_MD_store 72 = .ok (.iload_n 2, 1) := by decide +kernel
theorem d_MD_store_73 : decode b_MD_store 73 = .ok (.ifCond .ne 20, 3) := by decide +kernel
theorem d_MD_store_76 : decode b_MD_store 76 = .ok (.aload_n 0, 1) := by decide +kernel
theorem d_MD_store_77 : decode b_MD_store 77 = .ok (.getfield 7, 3) := by decide +kernel
theorem d_MD_store_80 : decode b_MD_store 80 = .ok (.iload_n 1, 1) := by decide +kernel
theorem d_MD_store_81 : decode b_MD_store 81 = .ok (.baload, 1) := by decide +kernel
theorem d_MD_store_82 : decode b_MD_store 82 = .ok (.ifCond .eq 7, 3) := by decide +kernel
theorem d_MD_store_85 : decode b_MD_store 85 = .ok (.iconst 0, 1) := by decide +kernel
theorem d_MD_store_86 : decode b_MD_store 86 = .ok (.goto 35, 3) := by decide +kernel
theorem d_MD_store_89 : decode b_MD_store 89 = .ok (.iconst 1, 1) := by decide +kernel
theorem d_MD_store_90 : decode b_MD_store 90 = .ok (.goto 31, 3) := by decide +kernel
theorem d_MD_store_93 : decode b_MD_store 93 = .ok (.iload_n 2, 1) := by decide +kernel
theorem d_MD_store_94 : decode b_MD_store 94 = .ok (.iconst 1, 1) := by decide +kernel
theorem d_MD_store_95 : decode b_MD_store 95 = .ok (.if_icmp .ne 20, 3) := by decide +kernel
theorem d_MD_store_98 : decode b_MD_store 98 = .ok (.aload_n 0, 1) := by decide +kernel
theorem d_MD_store_99 : decode b_MD_store 99 = .ok (.getfield 13, 3) := by decide +kernel
theorem d_MD_store_102 : decode b_MD_store 102 = .ok (.iload_n 1, 1) := by decide +kernel
theorem d_MD_store_103 : decode b_MD_store 103 = .ok (.baload, 1) := by decide +kernel
theorem d_MD_store_104 : decode b_MD_store 104 = .ok (.ifCond .eq 7, 3) := by decide +kernel
theorem d_MD_store_107 : decode b_MD_store 107 = .ok (.iconst 1, 1) := by decide +kernel
theorem d_MD_store_108 : decode b_MD_store 108 = .ok (.goto 13, 3) := by decide +kernel
theorem d_MD_store_111 : decode b_MD_store 111 = .ok (.iconst 0, 1) := by decide +kernel
theorem d_MD_store_112 : decode b_MD_store 112 = .ok (.goto 9, 3) := by decide +kernel
theorem d_MD_store_115 : decode b_MD_store 115 = .ok (.aload_n 0, 1) := by decide +kernel
theorem d_MD_store_116 : decode b_MD_store 116 = .ok (.getfield 16, 3) := by decide +kernel
theorem d_MD_store_119 : decode b_MD_store 119 = .ok (.iload_n 1, 1) := by decide +kernel
theorem d_MD_store_120 : decode b_MD_store 120 = .ok (.iaload, 1) := by decide +kernel
theorem d_MD_store_121 : decode b_MD_store 121 = .ok (.ireturn, 1) := by decide +kernel
theorem d_MD_has_0 : decode b_MD_has 0 = .ok (.aload_n 0, 1) := by decide +kernel
theorem d_MD_has_1 : decode b_MD_has 1 = .ok (.iconst 0, 1) := by decide +kernel
theorem d_MD_has_2 : decode b_MD_has 2 = .ok (.putfield 69, 3) := by decide +kernel
theorem d_MD_has_5 : decode b_MD_has 5 = .ok (.aload_n 0, 1) := by decide +kernel
theorem d_MD_has_6 : decode b_MD_has 6 = .ok (.iload_n 1, 1) := by decide +kernel
theorem d_MD_has_7 : decode b_MD_has 7 = .ok (.invokevirtual 146, 3) := by decide +kernel
theorem d_MD_has_10 : decode b_MD_has 10 = .ok (.ifCond .eq 53, 3) := by decide +kernel
theorem d_MD_has_13 : decode b_MD_has 13 = .ok (.iload_n 2, 1) := by decide +kernel
theorem d_MD_has_14 : decode b_MD_has 14 = .ok (.ifCond .lt 49, 3) := by decide +kernel
theorem d_MD_has_17 : decode b_MD_has 17 = .ok (.iload_n 2, 1) := by decide +kernel
theorem d_MD_has_18 : decode b_MD_has 18 = .ok (.bipush 20, 2) := by decide +kernel
theorem d_MD_has_20 : decode b_MD_has 20 = .ok (.if_icmp .ge 43, 3) := by decide +kernel
theorem d_MD_has_23 : decode b_MD_has 23 = .ok (.aload_n 0, 1) := by decide +kernel
theorem d_MD_has_24 : decode b_MD_has 24 = .ok (.getfield 20, 3) := by decide +kernel
theorem d_MD_has_27 : decode b_MD_has 27 = .ok (.aload_n 0, 1) := by decide +kernel
theorem d_MD_has_28 : decode b_MD_has 28 = .ok (.iload_n 1, 1) := by decide +kernel
theorem d_MD_has_29 : decode b_MD_has 29 = .ok (.invokevirtual 146, 3) := by decide +kernel
theorem d_MD_has_32 : decode b_MD_has 32 = .ok (.ifCond .eq 22, 3) := by decide +kernel
theorem d_MD_has_35 : decode b_MD_has 35 = .ok (.iload_n 2, 1) := by decide +kernel
theorem d_MD_has_36 : decode b_MD_has 36 = .ok (.ifCond .lt 18, 3) := by decide +kernel
theorem d_MD_has_39 : decode b_MD_has 39 = .ok (.iload_n 2, 1) := by decide +kernel
theorem d_MD_has_40 : decode b_MD_has 40 = .ok (.bipush 20, 2) := by decide +kernel
theorem d_MD_has_42 : decode b_MD_has 42 = .ok (.if_icmp .ge 12, 3) := by decide +kernel
theorem d_MD_has_45 : decode b_MD_has 45 = .ok (.bipush 20, 2) := by decide +kernel
theorem d_MD_has_47 : decode b_MD_has 47 = .ok (.iload_n 1, 1) := by decide +kernel
theorem d_MD_has_48 : decode b_MD_has 48 = .ok (.imul, 1) := by decide +kernel
theorem d_MD_has_49 : decode b_MD_has 49 = .ok (.iload_n 2, 1) := by decide +kernel
theorem d_MD_has_50 : decode b_MD_has 50 = .ok (.iadd, 1) := by decide +kernel
theorem d_MD_has_51 : decode b_MD_has 51 = .ok (.goto 4, 3) := by decide +kernel
theorem d_MD_has_54 : decode b_MD_has 54 = .ok (.iconst 0, 1) := by decide +kernel
theorem d_MD_has_55 : decode b_MD_has 55 = .ok (.baload, 1) := by decide +kernel
theorem d_MD_has_56 : decode b_MD_has 56 = .ok (.ifCond .eq 7, 3) := by decide +kernel
theorem d_MD_has_59 : decode b_MD_has 59 = .ok (.iconst 1, 1) := by decide +kernel
theorem d_MD_has_60 : decode b_MD_has 60 = .ok (.goto 4, 3) := by decide +kernel
theorem d_MD_has_63 : decode b_MD_has 63 = .ok (.iconst 0, 1) := by decide +kernel
theorem d_MD_has_64 : decode b_MD_has 64 = .ok (.ireturn, 1) := by decide +kernel
theorem d_MD_writer_0 : decode b_MD_writer 0 = .ok (.aload_n 0, 1) := by decide +kernel
theorem d_MD_writer_1 : decode b_MD_writer 1 = .ok (.iconst 0, 1) := by decide +kernel
theorem d_MD_writer_2 : decode b_MD_writer 2 = .ok (.putfield 69, 3) := by decide +kernel
theorem d_MD_writer_5 : decode b_MD_writer 5 = .ok (.iload_n 1, 1) := by decide +kernel
theorem d_MD_writer_6 : decode b_MD_writer 6 = .ok (.ifCond .ne 10, 3) := by decide +kernel
theorem d_MD_writer_9 : decode b_MD_writer 9 = .ok (.aload_n 0, 1) := by decide +kernel
theorem d_MD_writer_10 : decode b_MD_writer 10 = .ok (.getfield 102, 3) := by decide +kernel
theorem d_MD_writer_13 : decode b_MD_writer 13 = .ok (.goto 28, 3) := by decide +kernel
theorem d_MD_writer_16 : decode b_MD_writer 16 = .ok (.iload_n 1, 1) := by decide +kernel
theorem d_MD_writer_17 : decode b_MD_writer 17 = .ok (.iconst 1, 1) := by decide +kernel
theorem d_MD_writer_18 : decode b_MD_writer 18 = .ok (.if_icmp .ne 10, 3) := by decide +kernel
theorem d_MD_writer_21 : decode b_MD_writer 21 = .ok (.aload_n 0, 1) := by decide +kernel
theorem d_MD_writer_22 : decode b_MD_writer 22 = .ok (.getfield 105, 3) := by decide +kernel
theorem d_MD_writer_25 : decode b_MD_writer 25 = .ok (.goto 16, 3) := by decide +kernel
theorem d_MD_writer_28 : decode b_MD_writer 28 = .ok (.iload_n 1, 1) := by decide +kernel
theorem d_MD_writer_29 : decode b_MD_writer 29 = .ok (.iconst 2, 1) := by decide +kernel
theorem d_MD_writer_30 : decode b_MD_writer 30 = .ok (.if_icmp .ne 10, 3) := by decide +kernel
theorem d_MD_writer_33 : decode b_MD_writer 33 = .ok (.aload_n 0, 1) := by decide +kernel
theorem d_MD_writer_34 : decode b_MD_writer 34 = .ok (.getfield 33, 3) := by decide +kernel
theorem d_MD_writer_37 : decode b_MD_writer 37 = .ok (.goto 4, 3) := by decide +kernel
theorem d_MD_writer_40 : decode b_MD_writer 40 = .ok (.iconst (-1), 1) := by decide +kernel
theorem d_MD_writer_41 : decode b_MD_writer 41 = .ok (.ireturn, 1) := by decide +kernel
theorem d_MD_answers_0 : decode b_MD_answers 0 = .ok (.aload_n 0, 1) := by decide +kernel
theorem d_MD_answers_1 : decode b_MD_answers 1 = .ok (.iconst 0, 1) := by decide +kernel
theorem d_MD_answers_2 : decode b_MD_answers 2 = .ok (.putfield 69, 3) := by decide +kernel
theorem d_MD_answers_5 : decode b_MD_answers 5 = .ok (.iload_n 1, 1) := by decide +kernel
theorem d_MD_answers_6 : decode b_MD_answers 6 = .ok (.ifCond .lt 11, 3) := by decide +kernel
theorem d_MD_answers_9 : decode b_MD_answers 9 = .ok (.iload_n 1, 1) := by decide +kernel
theorem d_MD_answers_10 : decode b_MD_answers 10 = .ok (.aload_n 0, 1) := by decide +kernel
theorem d_MD_answers_11 : decode b_MD_answers 11 = .ok (.getfield 105, 3) := by decide +kernel
theorem d_MD_answers_14 : decode b_MD_answers 14 = .ok (.if_icmp .lt 7, 3) := by decide +kernel
theorem d_MD_answers_17 : decode b_MD_answers 17 = .ok (.iconst (-1), 1) := by decide +kernel
theorem d_MD_answers_18 : decode b_MD_answers 18 = .ok (.goto 8, 3) := by decide +kernel
theorem d_MD_answers_21 : decode b_MD_answers 21 = .ok (.aload_n 0, 1) := by decide +kernel
theorem d_MD_answers_22 : decode b_MD_answers 22 = .ok (.iload_n 1, 1) := by decide +kernel
theorem d_MD_answers_23 : decode b_MD_answers 23 = .ok (.invokevirtual 108, 3) := by decide +kernel
theorem d_MD_answers_26 : decode b_MD_answers 26 = .ok (.ireturn, 1) := by decide +kernel
theorem d_MD_recoverer_0 : decode b_MD_recoverer 0 = .ok (.aload_n 0, 1) := by decide +kernel
theorem d_MD_recoverer_1 : decode b_MD_recoverer 1 = .ok (.iconst 0, 1) := by decide +kernel
theorem d_MD_recoverer_2 : decode b_MD_recoverer 2 = .ok (.putfield 69, 3) := by decide +kernel
theorem d_MD_recoverer_5 : decode b_MD_recoverer 5 = .ok (.iload_n 1, 1) := by decide +kernel
theorem d_MD_recoverer_6 : decode b_MD_recoverer 6 = .ok (.invokestatic 140, 3) := by decide +kernel
theorem d_MD_recoverer_9 : decode b_MD_recoverer 9 = .ok (.ifCond .ne 5, 3) := by decide +kernel
theorem d_MD_recoverer_12 : decode b_MD_recoverer 12 = .ok (.iconst (-1), 1) := by decide +kernel
theorem d_MD_recoverer_13 : decode b_MD_recoverer 13 = .ok (.ireturn, 1) := by decide +kernel
theorem d_MD_recoverer_14 : decode b_MD_recoverer 14 = .ok (.iload_n 2, 1) := by decide +kernel
theorem d_MD_recoverer_15 : decode b_MD_recoverer 15 = .ok (.tableswitch 67 0 4 #[33, 40, 47, 54, 60], 33) := by decide +kernel
theorem d_MD_recoverer_48 : decode b_MD_recoverer 48 = .ok (.aload_n 0, 1) := by decide +kernel
theorem d_MD_recoverer_49 : decode b_MD_recoverer 49 = .ok (.getfield 42, 3) := by decide +kernel
theorem d_MD_recoverer_52 : decode b_MD_recoverer 52 = .ok (.iload_n 1, 1) := by decide +kernel
theorem d_MD_recoverer_53 : decode b_MD_recoverer 53 = .ok (.iaload, 1) := by decide +kernel
theorem d_MD_recoverer_54 : decode b_MD_recoverer 54 = .ok (.ireturn, 1) := by decide +kernel
theorem d_MD_recoverer_55 : decode b_MD_recoverer 55 = .ok (.aload_n 0, 1) := by decide +kernel
theorem d_MD_recoverer_56 : decode b_MD_recoverer 56 = .ok (.getfield 45, 3) := by decide +kernel
theorem d_MD_recoverer_59 : decode b_MD_recoverer 59 = .ok (.iload_n 1, 1) := by decide +kernel
theorem d_MD_recoverer_60 : decode b_MD_recoverer 60 = .ok (.iaload, 1) := by decide +kernel
theorem d_MD_recoverer_61 : decode b_MD_recoverer 61 = .ok (.ireturn, 1) := by decide +kernel
theorem d_MD_recoverer_62 : decode b_MD_recoverer 62 = .ok (.aload_n 0, 1) := by decide +kernel
theorem d_MD_recoverer_63 : decode b_MD_recoverer 63 = .ok (.getfield 48, 3) := by decide +kernel
theorem d_MD_recoverer_66 : decode b_MD_recoverer 66 = .ok (.iload_n 1, 1) := by decide +kernel
theorem d_MD_recoverer_67 : decode b_MD_recoverer 67 = .ok (.iaload, 1) := by decide +kernel
theorem d_MD_recoverer_68 : decode b_MD_recoverer 68 = .ok (.ireturn, 1) := by decide +kernel
theorem d_MD_recoverer_69 : decode b_MD_recoverer 69 = .ok (.aload_n 0, 1) := by decide +kernel
theorem d_MD_recoverer_70 : decode b_MD_recoverer 70 = .ok (.iload_n 1, 1) := by decide +kernel
theorem d_MD_recoverer_71 : decode b_MD_recoverer 71 = .ok (.invokevirtual 137, 3) := by decide +kernel
theorem d_MD_recoverer_74 : decode b_MD_recoverer 74 = .ok (.ireturn, 1) := by decide +kernel
theorem d_MD_recoverer_75 : decode b_MD_recoverer 75 = .ok (.aload_n 0, 1) := by decide +kernel
theorem d_MD_recoverer_76 : decode b_MD_recoverer 76 = .ok (.getfield 51, 3) := by decide +kernel
theorem d_MD_recoverer_79 : decode b_MD_recoverer 79 = .ok (.iload_n 1, 1) := by decide +kernel
theorem d_MD_recoverer_80 : decode b_MD_recoverer 80 = .ok (.iaload, 1) := by decide +kernel
theorem d_MD_recoverer_81 : decode b_MD_recoverer 81 = .ok (.ireturn, 1) := by decide +kernel
theorem d_MD_recoverer_82 : decode b_MD_recoverer 82 = .ok (.iconst (-1), 1) := by decide +kernel
theorem d_MD_recoverer_83 : decode b_MD_recoverer 83 = .ok (.ireturn, 1) := by decide +kernel
theorem d_MD_ledger_0 : decode b_MD_ledger 0 = .ok (.aload_n 0, 1) := by decide +kernel
theorem d_MD_ledger_1 : decode b_MD_ledger 1 = .ok (.iconst 0, 1) := by decide +kernel
theorem d_MD_ledger_2 : decode b_MD_ledger 2 = .ok (.putfield 69, 3) := by decide +kernel
theorem d_MD_ledger_5 : decode b_MD_ledger 5 = .ok (.iload_n 1, 1) := by decide +kernel
theorem d_MD_ledger_6 : decode b_MD_ledger 6 = .ok (.ifCond .ne 10, 3) := by decide +kernel
theorem d_MD_ledger_9 : decode b_MD_ledger 9 = .ok (.aload_n 0, 1) := by decide +kernel
theorem d_MD_ledger_10 : decode b_MD_ledger 10 = .ok (.getfield 115, 3) := by decide +kernel
theorem d_MD_ledger_13 : decode b_MD_ledger 13 = .ok (.goto 36, 3) := by decide +kernel
theorem d_MD_ledger_16 : decode b_MD_ledger 16 = .ok (.iload_n 1, 1) := by decide +kernel
theorem d_MD_ledger_17 : decode b_MD_ledger 17 = .ok (.iconst 1, 1) := by decide +kernel
theorem d_MD_ledger_18 : decode b_MD_ledger 18 = .ok (.if_icmp .ne 10, 3) := by decide +kernel
theorem d_MD_ledger_21 : decode b_MD_ledger 21 = .ok (.aload_n 0, 1) := by decide +kernel
theorem d_MD_ledger_22 : decode b_MD_ledger 22 = .ok (.getfield 118, 3) := by decide +kernel
theorem d_MD_ledger_25 : decode b_MD_ledger 25 = .ok (.goto 24, 3) := by decide +kernel
theorem d_MD_ledger_28 : decode b_MD_ledger 28 = .ok (.iload_n 1, 1) := by decide +kernel
theorem d_MD_ledger_29 : decode b_MD_ledger 29 = .ok (.iconst 2, 1) := by decide +kernel
theorem d_MD_ledger_30 : decode b_MD_ledger 30 = .ok (.if_icmp .ne 18, 3) := by decide +kernel
theorem d_MD_ledger_33 : decode b_MD_ledger 33 = .ok (.aload_n 0, 1) := by decide +kernel
theorem d_MD_ledger_34 : decode b_MD_ledger 34 = .ok (.getfield 115, 3) := by decide +kernel
theorem d_MD_ledger_37 : decode b_MD_ledger 37 = .ok (.iconst 2, 1) := by decide +kernel
theorem d_MD_ledger_38 : decode b_MD_ledger 38 = .ok (.if_icmp .ne 10, 3) := by decide +kernel
theorem d_MD_ledger_41 : decode b_MD_ledger 41 = .ok (.aload_n 0, 1) := by decide +kernel
theorem d_MD_ledger_42 : decode b_MD_ledger 42 = .ok (.getfield 26, 3) := by decide +kernel
theorem d_MD_ledger_45 : decode b_MD_ledger 45 = .ok (.goto 4, 3) := by decide +kernel
theorem d_MD_ledger_48 : decode b_MD_ledger 48 = .ok (.iconst (-1), 1) := by decide +kernel
theorem d_MD_ledger_49 : decode b_MD_ledger 49 = .ok (.ireturn, 1) := by decide +kernel
theorem d_MD_read_0 : decode b_MD_read 0 = .ok (.aload_n 0, 1) := by decide +kernel
theorem d_MD_read_1 : decode b_MD_read 1 = .ok (.aload_n 0, 1) := by decide +kernel
theorem d_MD_read_2 : decode b_MD_read 2 = .ok (.getfield 115, 3) := by decide +kernel
theorem d_MD_read_5 : decode b_MD_read 5 = .ok (.iconst 2, 1) := by decide +kernel
theorem d_MD_read_6 : decode b_MD_read 6 = .ok (.if_icmp .eq 7, 3) := by decide +kernel
