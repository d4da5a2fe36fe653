theorem d_WR_isFull_28 : decode b_WR_isFull 28 = .ok (.iconst 0, 1) := by decide +kernel
theorem d_WR_isFull_29 : decode b_WR_isFull 29 = .ok (.ireturn, 1) := by decide +kernel
theorem d_WR_knows_0 : decode b_WR_knows 0 = .ok (.iload_n 1, 1) := by decide +kernel
theorem d_WR_knows_1 : decode b_WR_knows 1 = .ok (.ifCond .lt 15, 3) := by decide +kernel
theorem d_WR_knows_4 : decode b_WR_knows 4 = .ok (.iload_n 1, 1) := by decide +kernel
theorem d_WR_knows_5 : decode b_WR_knows 5 = .ok (.aload_n 0, 1) := by decide +kernel
theorem d_WR_knows_6 : decode b_WR_knows 6 = .ok (.getfield 22, 3) := by decide +kernel
theorem d_WR_knows_9 : decode b_WR_knows 9 = .ok (.if_icmp .ge 7, 3) := by decide +kernel
theorem d_WR_knows_12 : decode b_WR_knows 12 = .ok (.iconst 1, 1) := by decide +kernel
theorem d_WR_knows_13 : decode b_WR_knows 13 = .ok (.goto 4, 3) := by decide +kernel
theorem d_WR_knows_16 : decode b_WR_knows 16 = .ok (.iconst 0, 1) := by decide +kernel
theorem d_WR_knows_17 : decode b_WR_knows 17 = .ok (.ireturn, 1) := by decide +kernel
theorem d_WR_append_0 : decode b_WR_append 0 = .ok (.aload_n 0, 1) := by decide +kernel
theorem d_WR_append_1 : decode b_WR_append 1 = .ok (.getfield 22, 3) := by decide +kernel
theorem d_WR_append_4 : decode b_WR_append 4 = .ok (.istore_n 2, 1) := by decide +kernel
theorem d_WR_append_5 : decode b_WR_append 5 = .ok (.aload_n 0, 1) := by decide +kernel
theorem d_WR_append_6 : decode b_WR_append 6 = .ok (.getfield 9, 3) := by decide +kernel
theorem d_WR_append_9 : decode b_WR_append 9 = .ok (.iload_n 2, 1) := by decide +kernel
theorem d_WR_append_10 : decode b_WR_append 10 = .ok (.iload_n 1, 1) := by decide +kernel
theorem d_WR_append_11 : decode b_WR_append 11 = .ok (.iastore, 1) := by decide +kernel
theorem d_WR_append_12 : decode b_WR_append 12 = .ok (.aload_n 0, 1) := by decide +kernel
theorem d_WR_append_13 : decode b_WR_append 13 = .ok (.dup, 1) := by decide +kernel
theorem d_WR_append_14 : decode b_WR_append 14 = .ok (.getfield 22, 3) := by decide +kernel
theorem d_WR_append_17 : decode b_WR_append 17 = .ok (.iconst 1, 1) := by decide +kernel
theorem d_WR_append_18 : decode b_WR_append 18 = .ok (.iadd, 1) := by decide +kernel
theorem d_WR_append_19 : decode b_WR_append 19 = .ok (.putfield 22, 3) := by decide +kernel
theorem d_WR_append_22 : decode b_WR_append 22 = .ok (.iload_n 2, 1) := by decide +kernel
theorem d_WR_append_23 : decode b_WR_append 23 = .ok (.ireturn, 1) := by decide +kernel
theorem d_WR_countAnswers_0 : decode b_WR_countAnswers 0 = .ok (.aload_n 0, 1) := by decide +kernel
theorem d_WR_countAnswers_1 : decode b_WR_countAnswers 1 = .ok (.getfield 15, 3) := by decide +kernel
theorem d_WR_countAnswers_4 : decode b_WR_countAnswers 4 = .ok (.iload_n 1, 1) := by decide +kernel
theorem d_WR_countAnswers_5 : decode b_WR_countAnswers 5 = .ok (.iaload, 1) := by decide +kernel
theorem d_WR_countAnswers_6 : decode b_WR_countAnswers 6 = .ok (.invokestatic 28, 3) := by decide +kernel
theorem d_WR_countAnswers_9 : decode b_WR_countAnswers 9 = .ok (.ireturn, 1) := by decide +kernel
theorem d_WR_advanceLac_0 : decode b_WR_advanceLac 0 = .ok (.aload_n 0, 1) := by decide +kernel
theorem d_WR_advanceLac_1 : decode b_WR_advanceLac 1 = .ok (.getfield 25, 3) := by decide +kernel
theorem d_WR_advanceLac_4 : decode b_WR_advanceLac 4 = .ok (.iconst 1, 1) := by decide +kernel
theorem d_WR_advanceLac_5 : decode b_WR_advanceLac 5 = .ok (.iadd, 1) := by decide +kernel
theorem d_WR_advanceLac_6 : decode b_WR_advanceLac 6 = .ok (.istore_n 2, 1) := by decide +kernel
theorem d_WR_advanceLac_7 : decode b_WR_advanceLac 7 = .ok (.iload_n 2, 1) := by decide +kernel
theorem d_WR_advanceLac_8 : decode b_WR_advanceLac 8 = .ok (.aload_n 0, 1) := by decide +kernel
theorem d_WR_advanceLac_9 : decode b_WR_advanceLac 9 = .ok (.getfield 22, 3) := by decide +kernel
theorem d_WR_advanceLac_12 : decode b_WR_advanceLac 12 = .ok (.if_icmp .ge 23, 3) := by decide +kernel
theorem d_WR_advanceLac_15 : decode b_WR_advanceLac 15 = .ok (.aload_n 0, 1) := by decide +kernel
theorem d_WR_advanceLac_16 : decode b_WR_advanceLac 16 = .ok (.iload_n 2, 1) := by decide +kernel
theorem d_WR_advanceLac_17 : decode b_WR_advanceLac 17 = .ok (.invokevirtual 49, 3) := by decide +kernel
theorem d_WR_advanceLac_20 : decode b_WR_advanceLac 20 = .ok (.iload_n 1, 1) := by decide +kernel
theorem d_WR_advanceLac_21 : decode b_WR_advanceLac 21 = .ok (.if_icmp .lt 14, 3) := by decide +kernel
theorem d_WR_advanceLac_24 : decode b_WR_advanceLac 24 = .ok (.aload_n 0, 1) := by decide +kernel
theorem d_WR_advanceLac_25 : decode b_WR_advanceLac 25 = .ok (.iload_n 2, 1) := by decide +kernel
theorem d_WR_advanceLac_26 : decode b_WR_advanceLac 26 = .ok (.putfield 25, 3) := by decide +kernel
theorem d_WR_advanceLac_29 : decode b_WR_advanceLac 29 = .ok (.iinc 2 1, 3) := by decide +kernel
theorem d_WR_advanceLac_32 : decode b_WR_advanceLac 32 = .ok (.goto (-25), 3) := by decide +kernel
theorem d_WR_advanceLac_35 : decode b_WR_advanceLac 35 = .ok (.return_, 1) := by decide +kernel
theorem d_WR_hear_0 : decode b_WR_hear 0 = .ok (.aload_n 0, 1) := by decide +kernel
theorem d_WR_hear_1 : decode b_WR_hear 1 = .ok (.getfield 18, 3) := by decide +kernel
theorem d_WR_hear_4 : decode b_WR_hear 4 = .ok (.ifCond .eq 4, 3) := by decide +kernel
theorem d_WR_hear_7 : decode b_WR_hear 7 = .ok (.return_, 1) := by decide +kernel
theorem d_WR_hear_8 : decode b_WR_hear 8 = .ok (.aload_n 1, 1) := by decide +kernel
theorem d_WR_hear_9 : decode b_WR_hear 9 = .ok (.getfield 34, 3) := by decide +kernel
theorem d_WR_hear_12 : decode b_WR_hear 12 = .ok (.iconst 4, 1) := by decide +kernel
theorem d_WR_hear_13 : decode b_WR_hear 13 = .ok (.if_icmp .ne 11, 3) := by decide +kernel
theorem d_WR_hear_16 : decode b_WR_hear 16 = .ok (.aload_n 0, 1) := by decide +kernel
theorem d_WR_hear_17 : decode b_WR_hear 17 = .ok (.iconst 1, 1) := by decide +kernel
theorem d_WR_hear_18 : decode b_WR_hear 18 = .ok (.putfield 18, 3) := by decide +kernel
theorem d_WR_hear_21 : decode b_WR_hear 21 = .ok (.goto 26, 3) := by decide +kernel
theorem d_WR_hear_24 : decode b_WR_hear 24 = .ok (.aload_n 0, 1) := by decide +kernel
theorem d_WR_hear_25 : decode b_WR_hear 25 = .ok (.getfield 15, 3) := by decide +kernel
theorem d_WR_hear_28 : decode b_WR_hear 28 = .ok (.aload_n 1, 1) := by decide +kernel
theorem d_WR_hear_29 : decode b_WR_hear 29 = .ok (.getfield 39, 3) := by decide +kernel
theorem d_WR_hear_32 : decode b_WR_hear 32 = .ok (.dup2, 1) := by decide +kernel
theorem d_WR_hear_33 : decode b_WR_hear 33 = .ok (.iaload, 1) := by decide +kernel
theorem d_WR_hear_34 : decode b_WR_hear 34 = .ok (.iconst 1, 1) := by decide +kernel
theorem d_WR_hear_35 : decode b_WR_hear 35 = .ok (.aload_n 1, 1) := by decide +kernel
theorem d_WR_hear_36 : decode b_WR_hear 36 = .ok (.getfield 42, 3) := by decide +kernel
theorem d_WR_hear_39 : decode b_WR_hear 39 = .ok (.ishl, 1) := by decide +kernel
theorem d_WR_hear_40 : decode b_WR_hear 40 = .ok (.ior, 1) := by decide +kernel
theorem d_WR_hear_41 : decode b_WR_hear 41 = .ok (.iastore, 1) := by decide +kernel
theorem d_WR_hear_42 : decode b_WR_hear 42 = .ok (.aload_n 0, 1) := by decide +kernel
theorem d_WR_hear_43 : decode b_WR_hear 43 = .ok (.iload_n 2, 1) := by decide +kernel
theorem d_WR_hear_44 : decode b_WR_hear 44 = .ok (.invokevirtual 45, 3) := by decide +kernel
theorem d_WR_hear_47 : decode b_WR_hear 47 = .ok (.return_, 1) := by decide +kernel
theorem d_FL_nearest_0 : decode b_FL_nearest 0 = .ok (.iload_n 1, 1) := by decide +kernel
theorem d_FL_nearest_1 : decode b_FL_nearest 1 = .ok (.iload_n 2, 1) := by decide +kernel
theorem d_FL_nearest_2 : decode b_FL_nearest 2 = .ok (.iload_n 0, 1) := by decide +kernel
theorem d_FL_nearest_3 : decode b_FL_nearest 3 = .ok (.invokestatic 189, 3) := by decide +kernel
theorem d_FL_nearest_6 : decode b_FL_nearest 6 = .ok (.invokestatic 195, 3) := by decide +kernel
theorem d_FL_nearest_9 : decode b_FL_nearest 9 = .ok (.ireturn, 1) := by decide +kernel
theorem d_FL_init_0 : decode b_FL_init 0 = .ok (.aload_n 0, 1) := by decide +kernel
theorem d_FL_init_1 : decode b_FL_init 1 = .ok (.invokespecial 1, 3) := by decide +kernel
theorem d_FL_init_4 : decode b_FL_init 4 = .ok (.aload_n 0, 1) := by decide +kernel
theorem d_FL_init_5 : decode b_FL_init 5 = .ok (.iload_n 1, 1) := by decide +kernel
theorem d_FL_init_6 : decode b_FL_init 6 = .ok (.iconst 3, 1) := by decide +kernel
theorem d_FL_init_7 : decode b_FL_init 7 = .ok (.iconst 5, 1) := by decide +kernel
theorem d_FL_init_8 : decode b_FL_init 8 = .ok (.invokestatic 7, 3) := by decide +kernel
theorem d_FL_init_11 : decode b_FL_init 11 = .ok (.putfield 13, 3) := by decide +kernel
theorem d_FL_init_14 : decode b_FL_init 14 = .ok (.aload_n 0, 1) := by decide +kernel
theorem d_FL_init_15 : decode b_FL_init 15 = .ok (.iload_n 2, 1) := by decide +kernel
theorem d_FL_init_16 : decode b_FL_init 16 = .ok (.iconst 2, 1) := by decide +kernel
theorem d_FL_init_17 : decode b_FL_init 17 = .ok (.aload_n 0, 1) := by decide +kernel
theorem d_FL_init_18 : decode b_FL_init 18 = .ok (.getfield 13, 3) := by decide +kernel
theorem d_FL_init_21 : decode b_FL_init 21 = .ok (.invokestatic 7, 3) := by decide +kernel
theorem d_FL_init_24 : decode b_FL_init 24 = .ok (.putfield 17, 3) := by decide +kernel
theorem d_FL_init_27 : decode b_FL_init 27 = .ok (.aload_n 0, 1) := by decide +kernel
theorem d_FL_init_28 : decode b_FL_init 28 = .ok (.iload_n 3, 1) := by decide +kernel
theorem d_FL_init_29 : decode b_FL_init 29 = .ok (.iconst 1, 1) := by decide +kernel
theorem d_FL_init_30 : decode b_FL_init 30 = .ok (.aload_n 0, 1) := by decide +kernel
theorem d_FL_init_31 : decode b_FL_init 31 = .ok (.getfield 17, 3) := by decide +kernel
theorem d_FL_init_34 : decode b_FL_init 34 = .ok (.invokestatic 7, 3) := by decide +kernel
theorem d_FL_init_37 : decode b_FL_init 37 = .ok (.putfield 20, 3) := by decide +kernel
theorem d_FL_init_40 : decode b_FL_init 40 = .ok (.aload_n 0, 1) := by decide +kernel
theorem d_FL_init_41 : decode b_FL_init 41 = .ok (.aload_n 0, 1) := by decide +kernel
theorem d_FL_init_42 : decode b_FL_init 42 = .ok (.getfield 13, 3) := by decide +kernel
theorem d_FL_init_45 : decode b_FL_init 45 = .ok (.anewarray 23, 3) := by decide +kernel
theorem d_FL_init_48 : decode b_FL_init 48 = .ok (.putfield 25, 3) := by decide +kernel
theorem d_FL_init_51 : decode b_FL_init 51 = .ok (.iconst 0, 1) := by decide +kernel
theorem d_FL_init_52 : decode b_FL_init 52 = .ok (.istore 4, 2) := by decide +kernel
theorem d_FL_init_54 : decode b_FL_init 54 = .ok (.iload 4, 2) := by decide +kernel
theorem d_FL_init_56 : decode b_FL_init 56 = .ok (.aload_n 0, 1) := by decide +kernel
theorem d_FL_init_57 : decode b_FL_init 57 = .ok (.getfield 13, 3) := by decide +kernel
theorem d_FL_init_60 : decode b_FL_init 60 = .ok (.if_icmp .ge 23, 3) := by decide +kernel
theorem d_FL_init_63 : decode b_FL_init 63 = .ok (.aload_n 0, 1) := by decide +kernel
theorem d_FL_init_64 : decode b_FL_init 64 = .ok (.getfield 25, 3) := by decide +kernel
theorem d_FL_init_67 : decode b_FL_init 67 = .ok (.iload 4, 2) := by decide +kernel
theorem d_FL_init_69 : decode b_FL_init 69 = .ok (.new 23, 3) := by decide +kernel
theorem d_FL_init_72 : decode b_FL_init 72 = .ok (.dup, 1) := by decide +kernel
theorem d_FL_init_73 : decode b_FL_init 73 = .ok (.invokespecial 29, 3) := by decide +kernel
theorem d_FL_init_76 : decode b_FL_init 76 = .ok (.aastore, 1) := by decide +kernel
theorem d_FL_init_77 : decode b_FL_init 77 = .ok (.iinc 4 1, 3) := by decide +kernel
theorem d_FL_init_80 : decode b_FL_init 80 = .ok (.goto (-26), 3) := by decide +kernel
theorem d_FL_init_83 : decode b_FL_init 83 = .ok (.aload_n 0, 1) := by decide +kernel
theorem d_FL_init_84 : decode b_FL_init 84 = .ok (.new 30, 3) := by decide +kernel
theorem d_FL_init_87 : decode b_FL_init 87 = .ok (.dup, 1) := by decide +kernel
theorem d_FL_init_88 : decode b_FL_init 88 = .ok (.invokespecial 32, 3) := by decide +kernel
theorem d_FL_init_91 : decode b_FL_init 91 = .ok (.putfield 33, 3) := by decide +kernel
theorem d_FL_init_94 : decode b_FL_init 94 = .ok (.aload_n 0, 1) := by decide +kernel
theorem d_FL_init_95 : decode b_FL_init 95 = .ok (.new 37, 3) := by decide +kernel
theorem d_FL_init_98 : decode b_FL_init 98 = .ok (.dup, 1) := by decide +kernel
theorem d_FL_init_99 : decode b_FL_init 99 = .ok (.invokespecial 39, 3) := by decide +kernel
theorem d_FL_init_102 : decode b_FL_init 102 = .ok (.putfield 40, 3) := by decide +kernel
theorem d_FL_init_105 : decode b_FL_init 105 = .ok (.aload_n 0, 1) := by decide +kernel
theorem d_FL_init_106 : decode b_FL_init 106 = .ok (.iconst 2, 1) := by decide +kernel
theorem d_FL_init_107 : decode b_FL_init 107 = .ok (.anewarray 44, 3) := by decide +kernel
theorem d_FL_init_110 : decode b_FL_init 110 = .ok (.putfield 46, 3) := by decide +kernel
theorem d_FL_init_113 : decode b_FL_init 113 = .ok (.iconst 0, 1) := by decide +kernel
theorem d_FL_init_114 : decode b_FL_init 114 = .ok (.istore 4, 2) := by decide +kernel
theorem d_FL_init_116 : decode b_FL_init 116 = .ok (.iload 4, 2) := by decide +kernel
theorem d_FL_init_118 : decode b_FL_init 118 = .ok (.iconst 2, 1) := by decide +kernel
theorem d_FL_init_119 : decode b_FL_init 119 = .ok (.if_icmp .ge 27, 3) := by decide +kernel
theorem d_FL_init_122 : decode b_FL_init 122 = .ok (.aload_n 0, 1) := by decide +kernel
theorem d_FL_init_123 : decode b_FL_init 123 = .ok (.getfield 46, 3) := by decide +kernel
theorem d_FL_init_126 : decode b_FL_init 126 = .ok (.iload 4, 2) := by decide +kernel
theorem d_FL_init_128 : decode b_FL_init 128 = .ok (.new 44, 3) := by decide +kernel
theorem d_FL_init_131 : decode b_FL_init 131 = .ok (.dup, 1) := by decide +kernel
theorem d_FL_init_132 : decode b_FL_init 132 = .ok (.iload 4, 2) := by decide +kernel
theorem d_FL_init_134 : decode b_FL_init 134 = .ok (.iconst 1, 1) := by decide +kernel
theorem d_FL_init_135 : decode b_FL_init 135 = .ok (.iadd, 1) := by decide +kernel
theorem d_FL_init_136 : decode b_FL_init 136 = .ok (.invokespecial 50, 3) := by decide +kernel
theorem d_FL_init_139 : decode b_FL_init 139 = .ok (.aastore, 1) := by decide +kernel
theorem d_FL_init_140 : decode b_FL_init 140 = .ok (.iinc 4 1, 3) := by decide +kernel
theorem d_FL_init_143 : decode b_FL_init 143 = .ok (.goto (-27), 3) := by decide +kernel
theorem d_FL_init_146 : decode b_FL_init 146 = .ok (.aload_n 0, 1) := by decide +kernel
theorem d_FL_init_147 : decode b_FL_init 147 = .ok (.iconst 0, 1) := by decide +kernel
theorem d_FL_init_148 : decode b_FL_init 148 = .ok (.putfield 53, 3) := by decide +kernel
theorem d_FL_init_151 : decode b_FL_init 151 = .ok (.aload_n 0, 1) := by decide +kernel
theorem d_FL_init_152 : decode b_FL_init 152 = .ok (.iconst 0, 1) := by decide +kernel
theorem d_FL_init_153 : decode b_FL_init 153 = .ok (.putfield 56, 3) := by decide +kernel
theorem d_FL_init_156 : decode b_FL_init 156 = .ok (.aload_n 0, 1) := by decide +kernel
theorem d_FL_init_157 : decode b_FL_init 157 = .ok (.iconst (-1), 1) := by decide +kernel
theorem d_FL_init_158 : decode b_FL_init 158 = .ok (.putfield 59, 3) := by decide +kernel
theorem d_FL_init_161 : decode b_FL_init 161 = .ok (.return_, 1) := by decide +kernel
theorem d_FL_setMember_0 : decode b_FL_setMember 0 = .ok (.iload_n 1, 1) := by decide +kernel
theorem d_FL_setMember_1 : decode b_FL_setMember 1 = .ok (.iload_n 2, 1) := by decide +kernel
theorem d_FL_setMember_2 : decode b_FL_setMember 2 = .ok (.iadd, 1) := by decide +kernel
theorem d_FL_setMember_3 : decode b_FL_setMember 3 = .ok (.aload_n 0, 1) := by decide +kernel
theorem d_FL_setMember_4 : decode b_FL_setMember 4 = .ok (.getfield 13, 3) := by decide +kernel
theorem d_FL_setMember_7 : decode b_FL_setMember 7 = .ok (.irem, 1) := by decide +kernel
theorem d_FL_setMember_8 : decode b_FL_setMember 8 = .ok (.ireturn, 1) := by decide +kernel
theorem d_FL_sendToSet_0 : decode b_FL_sendToSet 0 = .ok (.iconst 0, 1) := by decide +kernel
theorem d_FL_sendToSet_1 : decode b_FL_sendToSet 1 = .ok (.istore 8, 2) := by decide +kernel
theorem d_FL_sendToSet_3 : decode b_FL_sendToSet 3 = .ok (.iconst 0, 1) := by decide +kernel
theorem d_FL_sendToSet_4 : decode b_FL_sendToSet 4 = .ok (.istore 9, 2) := by decide +kernel
theorem d_FL_sendToSet_6 : decode b_FL_sendToSet 6 = .ok (.iload 9, 2) := by decide +kernel
theorem d_FL_sendToSet_8 : decode b_FL_sendToSet 8 = .ok (.aload_n 0, 1) := by decide +kernel
theorem d_FL_sendToSet_9 : decode b_FL_sendToSet 9 = .ok (.getfield 17, 3) := by decide +kernel
theorem d_FL_sendToSet_12 : decode b_FL_sendToSet 12 = .ok (.if_icmp .ge 49, 3) := by decide +kernel
theorem d_FL_sendToSet_15 : decode b_FL_sendToSet 15 = .ok (.aload_n 0, 1) := by decide +kernel
theorem d_FL_sendToSet_16 : decode b_FL_sendToSet 16 = .ok (.iload_n 3, 1) := by decide +kernel
theorem d_FL_sendToSet_17 : decode b_FL_sendToSet 17 = .ok (.iload 9, 2) := by decide +kernel
theorem d_FL_sendToSet_19 : decode b_FL_sendToSet 19 = .ok (.invokevirtual 198, 3) := by decide +kernel
theorem d_FL_sendToSet_22 : decode b_FL_sendToSet 22 = .ok (.istore 10, 2) := by decide +kernel
theorem d_FL_sendToSet_24 : decode b_FL_sendToSet 24 = .ok (.iload 7, 2) := by decide +kernel
theorem d_FL_sendToSet_26 : decode b_FL_sendToSet 26 = .ok (.iconst 1, 1) := by decide +kernel
theorem d_FL_sendToSet_27 : decode b_FL_sendToSet 27 = .ok (.iload 10, 2) := by decide +kernel
theorem d_FL_sendToSet_29 : decode b_FL_sendToSet 29 = .ok (.ishl, 1) := by decide +kernel
theorem d_FL_sendToSet_30 : decode b_FL_sendToSet 30 = .ok (.iand, 1) := by decide +kernel
theorem d_FL_sendToSet_31 : decode b_FL_sendToSet 31 = .ok (.ifCond .ne 24, 3) := by decide +kernel
theorem d_FL_sendToSet_34 : decode b_FL_sendToSet 34 = .ok (.aload_n 0, 1) := by decide +kernel
theorem d_FL_sendToSet_35 : decode b_FL_sendToSet 35 = .ok (.getfield 33, 3) := by decide +kernel
theorem d_FL_sendToSet_38 : decode b_FL_sendToSet 38 = .ok (.iload_n 1, 1) := by decide +kernel
theorem d_FL_sendToSet_39 : decode b_FL_sendToSet 39 = .ok (.iload_n 2, 1) := by decide +kernel
theorem d_FL_sendToSet_40 : decode b_FL_sendToSet 40 = .ok (.iload 10, 2) := by decide +kernel
theorem d_FL_sendToSet_42 : decode b_FL_sendToSet 42 = .ok (.iload_n 3, 1) := by decide +kernel
theorem d_FL_sendToSet_43 : decode b_FL_sendToSet 43 = .ok (.iload 4, 2) := by decide +kernel
theorem d_FL_sendToSet_45 : decode b_FL_sendToSet 45 = .ok (.iload 5, 2) := by decide +kernel
theorem d_FL_sendToSet_47 : decode b_FL_sendToSet 47 = .ok (.iload 6, 2) := by decide +kernel
theorem d_FL_sendToSet_49 : decode b_FL_sendToSet 49 = .ok (.invokevirtual 209, 3) := by decide +kernel
theorem d_FL_sendToSet_52 : decode b_FL_sendToSet 52 = .ok (.iinc 8 1, 3) := by decide +kernel
theorem d_FL_sendToSet_55 : decode b_FL_sendToSet 55 = .ok (.iinc 9 1, 3) := by decide +kernel
theorem d_FL_sendToSet_58 : decode b_FL_sendToSet 58 = .ok (.goto (-52), 3) := by decide +kernel
theorem d_FL_sendToSet_61 : decode b_FL_sendToSet 61 = .ok (.iload 8, 2) := by decide +kernel
theorem d_FL_sendToSet_63 : decode b_FL_sendToSet 63 = .ok (.ireturn, 1) := by decide +kernel
theorem d_FL_sendWritersAdd_0 : decode b_FL_sendWritersAdd 0 = .ok (.aload_n 0, 1) := by decide +kernel
theorem d_FL_sendWritersAdd_1 : decode b_FL_sendWritersAdd 1 = .ok (.getfield 40, 3) := by decide +kernel
theorem d_FL_sendWritersAdd_4 : decode b_FL_sendWritersAdd 4 = .ok (.getfield 201, 3) := by decide +kernel
theorem d_FL_sendWritersAdd_7 : decode b_FL_sendWritersAdd 7 = .ok (.iload_n 1, 1) := by decide +kernel
theorem d_FL_sendWritersAdd_8 : decode b_FL_sendWritersAdd 8 = .ok (.iaload, 1) := by decide +kernel
theorem d_FL_sendWritersAdd_9 : decode b_FL_sendWritersAdd 9 = .ok (.istore_n 2, 1) := by decide +kernel
theorem d_FL_sendWritersAdd_10 : decode b_FL_sendWritersAdd 10 = .ok (.aload_n 0, 1) := by decide +kernel
theorem d_FL_sendWritersAdd_11 : decode b_FL_sendWritersAdd 11 = .ok (.iconst 0, 1) := by decide +kernel
theorem d_FL_sendWritersAdd_12 : decode b_FL_sendWritersAdd 12 = .ok (.iconst 0, 1) := by decide +kernel
theorem d_FL_sendWritersAdd_13 : decode b_FL_sendWritersAdd 13 = .ok (.iload_n 1, 1) := by decide +kernel
theorem d_FL_sendWritersAdd_14 : decode b_FL_sendWritersAdd 14 = .ok (.iload_n 2, 1) := by decide +kernel
theorem d_FL_sendWritersAdd_15 : decode b_FL_sendWritersAdd 15 = .ok (.iconst 0, 1) := by decide +kernel
theorem d_FL_sendWritersAdd_16 : decode b_FL_sendWritersAdd 16 = .ok (.aload_n 0, 1) := by decide +kernel
theorem d_FL_sendWritersAdd_17 : decode b_FL_sendWritersAdd 17 = .ok (.getfield 40, 3) := by decide +kernel
theorem d_FL_sendWritersAdd_20 : decode b_FL_sendWritersAdd 20 = .ok (.getfield 92, 3) := by decide +kernel
theorem d_FL_sendWritersAdd_23 : decode b_FL_sendWritersAdd 23 = .ok (.aload_n 0, 1) := by decide +kernel
theorem d_FL_sendWritersAdd_24 : decode b_FL_sendWritersAdd 24 = .ok (.getfield 40, 3) := by decide +kernel
theorem d_FL_sendWritersAdd_27 : decode b_FL_sendWritersAdd 27 = .ok (.getfield 202, 3) := by decide +kernel
theorem d_FL_sendWritersAdd_30 : decode b_FL_sendWritersAdd 30 = .ok (.iload_n 1, 1) := by decide +kernel
theorem d_FL_sendWritersAdd_31 : decode b_FL_sendWritersAdd 31 = .ok (.iaload, 1) := by decide +kernel
theorem d_FL_sendWritersAdd_32 : decode b_FL_sendWritersAdd 32 = .ok (.invokevirtual 205, 3) := by decide +kernel
theorem d_FL_sendWritersAdd_35 : decode b_FL_sendWritersAdd 35 = .ok (.ireturn, 1) := by decide +kernel
theorem d_FL_add_0 : decode b_FL_add 0 = .ok (.aload_n 0, 1) := by decide +kernel
theorem d_FL_add_1 : decode b_FL_add 1 = .ok (.getfield 40, 3) := by decide +kernel
theorem d_FL_add_4 : decode b_FL_add 4 = .ok (.getfield 62, 3) := by decide +kernel
theorem d_FL_add_7 : decode b_FL_add 7 = .ok (.ifCond .eq 13, 3) := by decide +kernel
theorem d_FL_add_10 : decode b_FL_add 10 = .ok (.new 65, 3) := by decide +kernel
theorem d_FL_add_13 : decode b_FL_add 13 = .ok (.dup, 1) := by decide +kernel
theorem d_FL_add_14 : decode b_FL_add 14 = .ok (.ldc 67, 2) := by decide +kernel
theorem d_FL_add_16 : decode b_FL_add 16 = .ok (.invokespecial 69, 3) := by decide +kernel
theorem d_FL_add_19 : decode b_FL_add 19 = .ok (.athrow, 1) := by decide +kernel
theorem d_FL_add_20 : decode b_FL_add 20 = .ok (.aload_n 0, 1) := by decide +kernel
theorem d_FL_add_21 : decode b_FL_add 21 = .ok (.getfield 40, 3) := by decide +kernel
theorem d_FL_add_24 : decode b_FL_add 24 = .ok (.invokevirtual 72, 3) := by decide +kernel
theorem d_FL_add_27 : decode b_FL_add 27 = .ok (.ifCond .eq 13, 3) := by decide +kernel
theorem d_FL_add_30 : decode b_FL_add 30 = .ok (.new 76, 3) := by decide +kernel
theorem d_FL_add_33 : decode b_FL_add 33 = .ok (.dup, 1) := by decide +kernel
theorem d_FL_add_34 : decode b_FL_add 34 = .ok (.ldc 78, 2) := by decide +kernel
theorem d_FL_add_36 : decode b_FL_add 36 = .ok (.invokespecial 80, 3) := by decide +kernel
theorem d_FL_add_39 : decode b_FL_add 39 = .ok (.athrow, 1) := by decide +kernel
theorem d_FL_add_40 : decode b_FL_add 40 = .ok (.aload_n 0, 1) := by decide +kernel
theorem d_FL_add_41 : decode b_FL_add 41 = .ok (.getfield 40, 3) := by decide +kernel
theorem d_FL_add_44 : decode b_FL_add 44 = .ok (.iload_n 1, 1) := by decide +kernel
theorem d_FL_add_45 : decode b_FL_add 45 = .ok (.invokevirtual 81, 3) := by decide +kernel
theorem d_FL_add_48 : decode b_FL_add 48 = .ok (.istore_n 2, 1) := by decide +kernel
theorem d_FL_add_49 : decode b_FL_add 49 = .ok (.aload_n 0, 1) := by decide +kernel
theorem d_FL_add_50 : decode b_FL_add 50 = .ok (.iload_n 2, 1) := by decide +kernel
theorem d_FL_add_51 : decode b_FL_add 51 = .ok (.invokevirtual 85, 3) := by decide +kernel
theorem d_FL_add_54 : decode b_FL_add 54 = .ok (.pop, 1) := by decide +kernel
theorem d_FL_add_55 : decode b_FL_add 55 = .ok (.iload_n 2, 1) := by decide +kernel
theorem d_FL_add_56 : decode b_FL_add 56 = .ok (.ireturn, 1) := by decide +kernel
theorem d_FL_resend_0 : decode b_FL_resend 0 = .ok (.aload_n 0, 1) := by decide +kernel
theorem d_FL_resend_1 : decode b_FL_resend 1 = .ok (.getfield 40, 3) := by decide +kernel
theorem d_FL_resend_4 : decode b_FL_resend 4 = .ok (.getfield 62, 3) := by decide +kernel
theorem d_FL_resend_7 : decode b_FL_resend 7 = .ok (.ifCond .ne 14, 3) := by decide +kernel
theorem d_FL_resend_10 : decode b_FL_resend 10 = .ok (.aload_n 0, 1) := by decide +kernel
theorem d_FL_resend_11 : decode b_FL_resend 11 = .ok (.getfield 40, 3) := by decide +kernel
theorem d_FL_resend_14 : decode b_FL_resend 14 = .ok (.iload_n 1, 1) := by decide +kernel
theorem d_FL_resend_15 : decode b_FL_resend 15 = .ok (.invokevirtual 88, 3) := by decide +kernel
theorem d_FL_resend_18 : decode b_FL_resend 18 = .ok (.ifCond .ne 5, 3) := by decide +kernel
theorem d_FL_resend_21 : decode b_FL_resend 21 = .ok (.iconst (-1), 1) := by decide +kernel
theorem d_FL_resend_22 : decode b_FL_resend 22 = .ok (.ireturn, 1) := by decide +kernel
theorem d_FL_resend_23 : decode b_FL_resend 23 = .ok (.iload_n 1, 1) := by decide +kernel
theorem d_FL_resend_24 : decode b_FL_resend 24 = .ok (.aload_n 0, 1) := by decide +kernel
theorem d_FL_resend_25 : decode b_FL_resend 25 = .ok (.getfield 40, 3) := by decide +kernel
theorem d_FL_resend_28 : decode b_FL_resend 28 = .ok (.getfield 92, 3) := by decide +kernel
theorem d_FL_resend_31 : decode b_FL_resend 31 = .ok (.if_icmp .gt 20, 3) := by decide +kernel
theorem d_FL_resend_34 : decode b_FL_resend 34 = .ok (.aload_n 0, 1) := by decide +kernel
theorem d_FL_resend_35 : decode b_FL_resend 35 = .ok (.getfield 40, 3) := by decide +kernel
theorem d_FL_resend_38 : decode b_FL_resend 38 = .ok (.iload_n 1, 1) := by decide +kernel
theorem d_FL_resend_39 : decode b_FL_resend 39 = .ok (.invokevirtual 95, 3) := by decide +kernel
theorem d_FL_resend_42 : decode b_FL_resend 42 = .ok (.aload_n 0, 1) := by decide +kernel
theorem d_FL_resend_43 : decode b_FL_resend 43 = .ok (.getfield 17, 3) := by decide +kernel
theorem d_FL_resend_46 : decode b_FL_resend 46 = .ok (.if_icmp .ne 5, 3) := by decide +kernel
theorem d_FL_resend_49 : decode b_FL_resend 49 = .ok (.iconst (-1), 1) := by decide +kernel
theorem d_FL_resend_50 : decode b_FL_resend 50 = .ok (.ireturn, 1) := by decide +kernel
theorem d_FL_resend_51 : decode b_FL_resend 51 = .ok (.aload_n 0, 1) := by decide +kernel
theorem d_FL_resend_52 : decode b_FL_resend 52 = .ok (.iload_n 1, 1) := by decide +kernel
theorem d_FL_resend_53 : decode b_FL_resend 53 = .ok (.invokevirtual 85, 3) := by decide +kernel
theorem d_FL_resend_56 : decode b_FL_resend 56 = .ok (.ireturn, 1) := by decide +kernel
theorem d_FL_shutLedger_0 : decode b_FL_shutLedger 0 = .ok (.aload_n 0, 1) := by decide +kernel
theorem d_FL_shutLedger_1 : decode b_FL_shutLedger 1 = .ok (.iconst 2, 1) := by decide +kernel
theorem d_FL_shutLedger_2 : decode b_FL_shutLedger 2 = .ok (.putfield 53, 3) := by decide +kernel
theorem d_FL_shutLedger_5 : decode b_FL_shutLedger 5 = .ok (.aload_n 0, 1) := by decide +kernel
theorem d_FL_shutLedger_6 : decode b_FL_shutLedger 6 = .ok (.iload_n 1, 1) := by decide +kernel
theorem d_FL_shutLedger_7 : decode b_FL_shutLedger 7 = .ok (.putfield 59, 3) := by decide +kernel
theorem d_FL_shutLedger_10 : decode b_FL_shutLedger 10 = .ok (.aload_n 0, 1) := by decide +kernel
theorem d_FL_shutLedger_11 : decode b_FL_shutLedger 11 = .ok (.dup, 1) := by decide +kernel
theorem d_FL_shutLedger_12 : decode b_FL_shutLedger 12 = .ok (.getfield 56, 3) := by decide +kernel
theorem d_FL_shutLedger_15 : decode b_FL_shutLedger 15 = .ok (.iconst 1, 1) := by decide +kernel
theorem d_FL_shutLedger_16 : decode b_FL_shutLedger 16 = .ok (.iadd, 1) := by decide +kernel
theorem d_FL_shutLedger_17 : decode b_FL_shutLedger 17 = .ok (.putfield 56, 3) := by decide +kernel
theorem d_FL_shutLedger_20 : decode b_FL_shutLedger 20 = .ok (.return_, 1) := by decide +kernel
theorem d_FL_close_0 : decode b_FL_close 0 = .ok (.aload_n 0, 1) := by decide +kernel
theorem d_FL_close_1 : decode b_FL_close 1 = .ok (.getfield 40, 3) := by decide +kernel
theorem d_FL_close_4 : decode b_FL_close 4 = .ok (.getfield 62, 3) := by decide +kernel
theorem d_FL_close_7 : decode b_FL_close 7 = .ok (.ifCond .ne 10, 3) := by decide +kernel
theorem d_FL_close_10 : decode b_FL_close 10 = .ok (.aload_n 0, 1) := by decide +kernel
theorem d_FL_close_11 : decode b_FL_close 11 = .ok (.getfield 53, 3) := by decide +kernel
theorem d_FL_close_14 : decode b_FL_close 14 = .ok (.ifCond .eq 5, 3) := by decide +kernel
theorem d_FL_close_17 : decode b_FL_close 17 = .ok (.iconst 0, 1) := by decide +kernel
theorem d_FL_close_18 : decode b_FL_close 18 = .ok (.ireturn, 1) := by decide +kernel
theorem d_FL_close_19 : decode b_FL_close 19 = .ok (.aload_n 0, 1) := by decide +kernel
theorem d_FL_close_20 : decode b_FL_close 20 = .ok (.aload_n 0, 1) := by decide +kernel
theorem d_FL_close_21 : decode b_FL_close 21 = .ok (.getfield 40, 3) := by decide +kernel
theorem d_FL_close_24 : decode b_FL_close 24 = .ok (.getfield 92, 3) := by decide +kernel
theorem d_FL_close_27 : decode b_FL_close 27 = .ok (.invokevirtual 98, 3) := by decide +kernel
theorem d_FL_close_30 : decode b_FL_close 30 = .ok (.aload_n 0, 1) := by decide +kernel
theorem d_FL_close_31 : decode b_FL_close 31 = .ok (.getfield 40, 3) := by decide +kernel
theorem d_FL_close_34 : decode b_FL_close 34 = .ok (.iconst 2, 1) := by decide +kernel
theorem d_FL_close_35 : decode b_FL_close 35 = .ok (.putfield 62, 3) := by decide +kernel
theorem d_FL_close_38 : decode b_FL_close 38 = .ok (.iconst 1, 1) := by decide +kernel
theorem d_FL_close_39 : decode b_FL_close 39 = .ok (.ireturn, 1) := by decide +kernel
theorem d_FL_leave_0 : decode b_FL_leave 0 = .ok (.aload_n 0, 1) := by decide +kernel
theorem d_FL_leave_1 : decode b_FL_leave 1 = .ok (.getfield 40, 3) := by decide +kernel
theorem d_FL_leave_4 : decode b_FL_leave 4 = .ok (.getfield 62, 3) := by decide +kernel
theorem d_FL_leave_7 : decode b_FL_leave 7 = .ok (.iconst 3, 1) := by decide +kernel
theorem d_FL_leave_8 : decode b_FL_leave 8 = .ok (.if_icmp .ne 5, 3) := by decide +kernel
theorem d_FL_leave_11 : decode b_FL_leave 11 = .ok (.iconst 0, 1) := by decide +kernel
theorem d_FL_leave_12 : decode b_FL_leave 12 = .ok (.ireturn, 1) := by decide +kernel
theorem d_FL_leave_13 : decode b_FL_leave 13 = .ok (.aload_n 0, 1) := by decide +kernel
theorem d_FL_leave_14 : decode b_FL_leave 14 = .ok (.getfield 40, 3) := by decide +kernel
theorem d_FL_leave_17 : decode b_FL_leave 17 = .ok (.iconst 3, 1) := by decide +kernel
theorem d_FL_leave_18 : decode b_FL_leave 18 = .ok (.putfield 62, 3) := by decide +kernel
theorem d_FL_leave_21 : decode b_FL_leave 21 = .ok (.iconst 1, 1) := by decide +kernel
theorem d_FL_leave_22 : decode b_FL_leave 22 = .ok (.ireturn, 1) := by decide +kernel
theorem d_FL_writer_0 : decode b_FL_writer 0 = .ok (.iload_n 1, 1) := by decide +kernel
theorem d_FL_writer_1 : decode b_FL_writer 1 = .ok (.tableswitch 51 0 2 #[27, 35, 43], 27) := by decide +kernel
theorem d_FL_writer_28 : decode b_FL_writer 28 = .ok (.aload_n 0, 1) := by decide +kernel
theorem d_FL_writer_29 : decode b_FL_writer 29 = .ok (.getfield 40, 3) := by decide +kernel
theorem d_FL_writer_32 : decode b_FL_writer 32 = .ok (.getfield 62, 3) := by decide +kernel
theorem d_FL_writer_35 : decode b_FL_writer 35 = .ok (.ireturn, 1) := by decide +kernel
theorem d_FL_writer_36 : decode b_FL_writer 36 = .ok (.aload_n 0, 1) := by decide +kernel
theorem d_FL_writer_37 : decode b_FL_writer 37 = .ok (.getfield 40, 3) := by decide +kernel
theorem d_FL_writer_40 : decode b_FL_writer 40 = .ok (.getfield 101, 3) := by decide +kernel
theorem d_FL_writer_43 : decode b_FL_writer 43 = .ok (.ireturn, 1) := by decide +kernel
theorem d_FL_writer_44 : decode b_FL_writer 44 = .ok (.aload_n 0, 1) := by decide +kernel
theorem d_FL_writer_45 : decode b_FL_writer 45 = .ok (.getfield 40, 3) := by decide +kernel
theorem d_FL_writer_48 : decode b_FL_writer 48 = .ok (.getfield 92, 3) := by decide +kernel
theorem d_FL_writer_51 : decode b_FL_writer 51 = .ok (.ireturn, 1) := by decide +kernel
theorem d_FL_writer_52 : decode b_FL_writer 52 = .ok (.iconst (-1), 1) := by decide +kernel
theorem d_FL_writer_53 : decode b_FL_writer 53 = .ok (.ireturn, 1) := by decide +kernel
theorem d_FL_answers_0 : decode b_FL_answers 0 = .ok (.aload_n 0, 1) := by decide +kernel
theorem d_FL_answers_1 : decode b_FL_answers 1 = .ok (.getfield 40, 3) := by decide +kernel
theorem d_FL_answers_4 : decode b_FL_answers 4 = .ok (.iload_n 1, 1) := by decide +kernel
theorem d_FL_answers_5 : decode b_FL_answers 5 = .ok (.invokevirtual 88, 3) := by decide +kernel
theorem d_FL_answers_8 : decode b_FL_answers 8 = .ok (.ifCond .eq 14, 3) := by decide +kernel
theorem d_FL_answers_11 : decode b_FL_answers 11 = .ok (.aload_n 0, 1) := by decide +kernel
theorem d_FL_answers_12 : decode b_FL_answers 12 = .ok (.getfield 40, 3) := by decide +kernel
theorem d_FL_answers_15 : decode b_FL_answers 15 = .ok (.iload_n 1, 1) := by decide +kernel
theorem d_FL_answers_16 : decode b_FL_answers 16 = .ok (.invokevirtual 95, 3) := by decide +kernel
theorem d_FL_answers_19 : decode b_FL_answers 19 = .ok (.goto 4, 3) := by decide +kernel
theorem d_FL_answers_22 : decode b_FL_answers 22 = .ok (.iconst (-1), 1) := by decide +kernel
theorem d_FL_answers_23 : decode b_FL_answers 23 = .ok (.ireturn, 1) := by decide +kernel
theorem d_FL_isRecoverer_0 : decode b_FL_isRecoverer 0 = .ok (.iload_n 0, 1) := by decide +kernel
theorem d_FL_isRecoverer_1 : decode b_FL_isRecoverer 1 = .ok (.iconst 1, 1) := by decide +kernel
theorem d_FL_isRecoverer_2 : decode b_FL_isRecoverer 2 = .ok (.if_icmp .lt 12, 3) := by decide +kernel
theorem d_FL_isRecoverer_5 : decode b_FL_isRecoverer 5 = .ok (.iload_n 0, 1) := by decide +kernel
theorem d_FL_isRecoverer_6 : decode b_FL_isRecoverer 6 = .ok (.iconst 2, 1) := by decide +kernel
theorem d_FL_isRecoverer_7 : decode b_FL_isRecoverer 7 = .ok (.if_icmp .gt 7, 3) := by decide +kernel
theorem d_FL_isRecoverer_10 : decode b_FL_isRecoverer 10 = .ok (.iconst 1, 1) := by decide +kernel
theorem d_FL_isRecoverer_11 : decode b_FL_isRecoverer 11 = .ok (.goto 4, 3) := by decide +kernel
theorem d_FL_isRecoverer_14 : decode b_FL_isRecoverer 14 = .ok (.iconst 0, 1) := by decide +kernel
theorem d_FL_isRecoverer_15 : decode b_FL_isRecoverer 15 = .ok (.ireturn, 1) := by decide +kernel
theorem d_FL_sendFences_0 : decode b_FL_sendFences 0 = .ok (.iconst 0, 1) := by decide +kernel
theorem d_FL_sendFences_1 : decode b_FL_sendFences 1 = .ok (.istore_n 2, 1) := by decide +kernel
theorem d_FL_sendFences_2 : decode b_FL_sendFences 2 = .ok (.iconst 0, 1) := by decide +kernel
theorem d_FL_sendFences_3 : decode b_FL_sendFences 3 = .ok (.istore_n 3, 1) := by decide +kernel
theorem d_FL_sendFences_4 : decode b_FL_sendFences 4 = .ok (.iload_n 3, 1) := by decide +kernel
theorem d_FL_sendFences_5 : decode b_FL_sendFences 5 = .ok (.aload_n 0, 1) := by decide +kernel
theorem d_FL_sendFences_6 : decode b_FL_sendFences 6 = .ok (.getfield 13, 3) := by decide +kernel
theorem d_FL_sendFences_9 : decode b_FL_sendFences 9 = .ok (.if_icmp .ge 43, 3) := by decide +kernel
theorem d_FL_sendFences_12 : decode b_FL_sendFences 12 = .ok (.aload_n 1, 1) := by decide +kernel
theorem d_FL_sendFences_13 : decode b_FL_sendFences 13 = .ok (.getfield 213, 3) := by decide +kernel
theorem d_FL_sendFences_16 : decode b_FL_sendFences 16 = .ok (.iconst 1, 1) := by decide +kernel
theorem d_FL_sendFences_17 : decode b_FL_sendFences 17 = .ok (.iload_n 3, 1) := by decide +kernel
theorem d_FL_sendFences_18 : decode b_FL_sendFences 18 = .ok (.ishl, 1) := by decide +kernel
theorem d_FL_sendFences_19 : decode b_FL_sendFences 19 = .ok (.iand, 1) := by decide +kernel
theorem d_FL_sendFences_20 : decode b_FL_sendFences 20 = .ok (.ifCond .ne 26, 3) := by decide +kernel
theorem d_FL_sendFences_23 : decode b_FL_sendFences 23 = .ok (.aload_n 0, 1) := by decide +kernel
theorem d_FL_sendFences_24 : decode b_FL_sendFences 24 = .ok (.getfield 33, 3) := by decide +kernel
theorem d_FL_sendFences_27 : decode b_FL_sendFences 27 = .ok (.iconst 1, 1) := by decide +kernel
theorem d_FL_sendFences_28 : decode b_FL_sendFences 28 = .ok (.aload_n 1, 1) := by decide +kernel
theorem d_FL_sendFences_29 : decode b_FL_sendFences 29 = .ok (.getfield 215, 3) := by decide +kernel
theorem d_FL_sendFences_32 : decode b_FL_sendFences 32 = .ok (.iload_n 3, 1) := by decide +kernel
theorem d_FL_sendFences_33 : decode b_FL_sendFences 33 = .ok (.iconst 0, 1) := by decide +kernel
theorem d_FL_sendFences_34 : decode b_FL_sendFences 34 = .ok (.iconst 0, 1) := by decide +kernel
theorem d_FL_sendFences_35 : decode b_FL_sendFences 35 = .ok (.aload_n 1, 1) := by decide +kernel
theorem d_FL_sendFences_36 : decode b_FL_sendFences 36 = .ok (.getfield 216, 3) := by decide +kernel
theorem d_FL_sendFences_39 : decode b_FL_sendFences 39 = .ok (.iconst 0, 1) := by decide +kernel
theorem d_FL_sendFences_40 : decode b_FL_sendFences 40 = .ok (.invokevirtual 209, 3) := by decide +kernel
theorem d_FL_sendFences_43 : decode b_FL_sendFences 43 = .ok (.iinc 2 1, 3) := by decide +kernel
theorem d_FL_sendFences_46 : decode b_FL_sendFences 46 = .ok (.iinc 3 1, 3) := by decide +kernel
theorem d_FL_sendFences_49 : decode b_FL_sendFences 49 = .ok (.goto (-45), 3) := by decide +kernel
theorem d_FL_sendFences_52 : decode b_FL_sendFences 52 = .ok (.iload_n 2, 1) := by decide +kernel
theorem d_FL_sendFences_53 : decode b_FL_sendFences 53 = .ok (.ireturn, 1) := by decide +kernel
theorem d_FL_sendStep_0 : decode b_FL_sendStep 0 = .ok (.aload_n 1, 1) := by decide +kernel
theorem d_FL_sendStep_1 : decode b_FL_sendStep 1 = .ok (.getfield 107, 3) := by decide +kernel
theorem d_FL_sendStep_4 : decode b_FL_sendStep 4 = .ok (.lookupswitch 58 #[(1, 28), (2, 34)], 28) := by decide +kernel
theorem d_FL_sendStep_32 : decode b_FL_sendStep 32 = .ok (.aload_n 0, 1) := by decide +kernel
theorem d_FL_sendStep_33 : decode b_FL_sendStep 33 = .ok (.aload_n 1, 1) := by decide +kernel
theorem d_FL_sendStep_34 : decode b_FL_sendStep 34 = .ok (.invokevirtual 219, 3) := by decide +kernel
theorem d_FL_sendStep_37 : decode b_FL_sendStep 37 = .ok (.ireturn, 1) := by decide +kernel
theorem d_FL_sendStep_38 : decode b_FL_sendStep 38 = .ok (.aload_n 0, 1) := by decide +kernel
theorem d_FL_sendStep_39 : decode b_FL_sendStep 39 = .ok (.iconst 2, 1) := by decide +kernel
theorem d_FL_sendStep_40 : decode b_FL_sendStep 40 = .ok (.aload_n 1, 1) := by decide +kernel
theorem d_FL_sendStep_41 : decode b_FL_sendStep 41 = .ok (.getfield 215, 3) := by decide +kernel
theorem d_FL_sendStep_44 : decode b_FL_sendStep 44 = .ok (.aload_n 1, 1) := by decide +kernel
theorem d_FL_sendStep_45 : decode b_FL_sendStep 45 = .ok (.getfield 222, 3) := by decide +kernel
theorem d_FL_sendStep_48 : decode b_FL_sendStep 48 = .ok (.iconst 0, 1) := by decide +kernel
theorem d_FL_sendStep_49 : decode b_FL_sendStep 49 = .ok (.aload_n 1, 1) := by decide +kernel
theorem d_FL_sendStep_50 : decode b_FL_sendStep 50 = .ok (.getfield 216, 3) := by decide +kernel
theorem d_FL_sendStep_53 : decode b_FL_sendStep 53 = .ok (.iconst 0, 1) := by decide +kernel
theorem d_FL_sendStep_54 : decode b_FL_sendStep 54 = .ok (.aload_n 1, 1) := by decide +kernel
theorem d_FL_sendStep_55 : decode b_FL_sendStep 55 = .ok (.getfield 213, 3) := by decide +kernel
theorem d_FL_sendStep_58 : decode b_FL_sendStep 58 = .ok (.invokevirtual 205, 3) := by decide +kernel
theorem d_FL_sendStep_61 : decode b_FL_sendStep 61 = .ok (.ireturn, 1) := by decide +kernel
theorem d_FL_sendStep_62 : decode b_FL_sendStep 62 = .ok (.aload_n 0, 1) := by decide +kernel
theorem d_FL_sendStep_63 : decode b_FL_sendStep 63 = .ok (.iconst 0, 1) := by decide +kernel
theorem d_FL_sendStep_64 : decode b_FL_sendStep 64 = .ok (.aload_n 1, 1) := by decide +kernel
theorem d_FL_sendStep_65 : decode b_FL_sendStep 65 = .ok (.getfield 215, 3) := by decide +kernel
theorem d_FL_sendStep_68 : decode b_FL_sendStep 68 = .ok (.aload_n 1, 1) := by decide +kernel
theorem d_FL_sendStep_69 : decode b_FL_sendStep 69 = .ok (.getfield 222, 3) := by decide +kernel
theorem d_FL_sendStep_72 : decode b_FL_sendStep 72 = .ok (.aload_n 1, 1) := by decide +kernel
theorem d_FL_sendStep_73 : decode b_FL_sendStep 73 = .ok (.getfield 225, 3) := by decide +kernel
theorem d_FL_sendStep_76 : decode b_FL_sendStep 76 = .ok (.aload_n 1, 1) := by decide +kernel
theorem d_FL_sendStep_77 : decode b_FL_sendStep 77 = .ok (.getfield 216, 3) := by decide +kernel
theorem d_FL_sendStep_80 : decode b_FL_sendStep 80 = .ok (.aload_n 1, 1) := by decide +kernel
theorem d_FL_sendStep_81 : decode b_FL_sendStep 81 = .ok (.getfield 222, 3) := by decide +kernel
theorem d_FL_sendStep_84 : decode b_FL_sendStep 84 = .ok (.iconst 1, 1) := by decide +kernel
theorem d_FL_sendStep_85 : decode b_FL_sendStep 85 = .ok (.isub, 1) := by decide +kernel
theorem d_FL_sendStep_86 : decode b_FL_sendStep 86 = .ok (.aload_n 1, 1) := by decide +kernel
theorem d_FL_sendStep_87 : decode b_FL_sendStep 87 = .ok (.getfield 213, 3) := by decide +kernel
theorem d_FL_sendStep_90 : decode b_FL_sendStep 90 = .ok (.invokevirtual 205, 3) := by decide +kernel
theorem d_FL_sendStep_93 : decode b_FL_sendStep 93 = .ok (.ireturn, 1) := by decide +kernel
theorem d_FL_recover_0 : decode b_FL_recover 0 = .ok (.iload_n 1, 1) := by decide +kernel
theorem d_FL_recover_1 : decode b_FL_recover 1 = .ok (.invokestatic 104, 3) := by decide +kernel
theorem d_FL_recover_4 : decode b_FL_recover 4 = .ok (.ifCond .eq 17, 3) := by decide +kernel
