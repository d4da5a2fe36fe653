theorem d_FL_deliver_61 : decode b_FL_deliver 61 = .ok (.invokevirtual 144, 3) := by decide +kernel
theorem d_FL_deliver_64 : decode b_FL_deliver 64 = .ok (.aload_n 2, 1) := by decide +kernel
theorem d_FL_deliver_65 : decode b_FL_deliver 65 = .ok (.getfield 147, 3) := by decide +kernel
theorem d_FL_deliver_68 : decode b_FL_deliver 68 = .ok (.ireturn, 1) := by decide +kernel
theorem d_FL_lose_0 : decode b_FL_lose 0 = .ok (.aload_n 0, 1) := by decide +kernel
theorem d_FL_lose_1 : decode b_FL_lose 1 = .ok (.getfield 33, 3) := by decide +kernel
theorem d_FL_lose_4 : decode b_FL_lose 4 = .ok (.iload_n 1, 1) := by decide +kernel
theorem d_FL_lose_5 : decode b_FL_lose 5 = .ok (.invokevirtual 121, 3) := by decide +kernel
theorem d_FL_lose_8 : decode b_FL_lose 8 = .ok (.ifCond .ne 5, 3) := by decide +kernel
theorem d_FL_lose_11 : decode b_FL_lose 11 = .ok (.iconst 0, 1) := by decide +kernel
theorem d_FL_lose_12 : decode b_FL_lose 12 = .ok (.ireturn, 1) := by decide +kernel
theorem d_FL_lose_13 : decode b_FL_lose 13 = .ok (.aload_n 0, 1) := by decide +kernel
theorem d_FL_lose_14 : decode b_FL_lose 14 = .ok (.getfield 33, 3) := by decide +kernel
theorem d_FL_lose_17 : decode b_FL_lose 17 = .ok (.iload_n 1, 1) := by decide +kernel
theorem d_FL_lose_18 : decode b_FL_lose 18 = .ok (.invokevirtual 124, 3) := by decide +kernel
theorem d_FL_lose_21 : decode b_FL_lose 21 = .ok (.pop, 1) := by decide +kernel
theorem d_FL_lose_22 : decode b_FL_lose 22 = .ok (.iconst 1, 1) := by decide +kernel
theorem d_FL_lose_23 : decode b_FL_lose 23 = .ok (.ireturn, 1) := by decide +kernel
theorem d_FL_flight_0 : decode b_FL_flight 0 = .ok (.aload_n 0, 1) := by decide +kernel
theorem d_FL_flight_1 : decode b_FL_flight 1 = .ok (.getfield 33, 3) := by decide +kernel
theorem d_FL_flight_4 : decode b_FL_flight 4 = .ok (.getfield 150, 3) := by decide +kernel
theorem d_FL_flight_7 : decode b_FL_flight 7 = .ok (.ireturn, 1) := by decide +kernel
theorem d_FL_message_0 : decode b_FL_message 0 = .ok (.aload_n 0, 1) := by decide +kernel
theorem d_FL_message_1 : decode b_FL_message 1 = .ok (.getfield 33, 3) := by decide +kernel
theorem d_FL_message_4 : decode b_FL_message 4 = .ok (.iload_n 1, 1) := by decide +kernel
theorem d_FL_message_5 : decode b_FL_message 5 = .ok (.invokevirtual 121, 3) := by decide +kernel
theorem d_FL_message_8 : decode b_FL_message 8 = .ok (.ifCond .ne 5, 3) := by decide +kernel
theorem d_FL_message_11 : decode b_FL_message 11 = .ok (.iconst (-1), 1) := by decide +kernel
theorem d_FL_message_12 : decode b_FL_message 12 = .ok (.ireturn, 1) := by decide +kernel
theorem d_FL_message_13 : decode b_FL_message 13 = .ok (.aload_n 0, 1) := by decide +kernel
theorem d_FL_message_14 : decode b_FL_message 14 = .ok (.getfield 33, 3) := by decide +kernel
theorem d_FL_message_17 : decode b_FL_message 17 = .ok (.getfield 153, 3) := by decide +kernel
theorem d_FL_message_20 : decode b_FL_message 20 = .ok (.iload_n 1, 1) := by decide +kernel
theorem d_FL_message_21 : decode b_FL_message 21 = .ok (.aaload, 1) := by decide +kernel
theorem d_FL_message_22 : decode b_FL_message 22 = .ok (.iload_n 2, 1) := by decide +kernel
theorem d_FL_message_23 : decode b_FL_message 23 = .ok (.invokevirtual 157, 3) := by decide +kernel
theorem d_FL_message_26 : decode b_FL_message 26 = .ok (.ireturn, 1) := by decide +kernel
theorem d_FL_isStore_0 : decode b_FL_isStore 0 = .ok (.iload_n 1, 1) := by decide +kernel
theorem d_FL_isStore_1 : decode b_FL_isStore 1 = .ok (.ifCond .lt 15, 3) := by decide +kernel
theorem d_FL_isStore_4 : decode b_FL_isStore 4 = .ok (.iload_n 1, 1) := by decide +kernel
theorem d_FL_isStore_5 : decode b_FL_isStore 5 = .ok (.aload_n 0, 1) := by decide +kernel
theorem d_FL_isStore_6 : decode b_FL_isStore 6 = .ok (.getfield 13, 3) := by decide +kernel
theorem d_FL_isStore_9 : decode b_FL_isStore 9 = .ok (.if_icmp .ge 7, 3) := by decide +kernel
theorem d_FL_isStore_12 : decode b_FL_isStore 12 = .ok (.iconst 1, 1) := by decide +kernel
theorem d_FL_isStore_13 : decode b_FL_isStore 13 = .ok (.goto 4, 3) := by decide +kernel
theorem d_FL_isStore_16 : decode b_FL_isStore 16 = .ok (.iconst 0, 1) := by decide +kernel
theorem d_FL_isStore_17 : decode b_FL_isStore 17 = .ok (.ireturn, 1) := by decide +kernel
theorem d_FL_power_0 : decode b_FL_power 0 = .ok (.aload_n 0, 1) := by decide +kernel
theorem d_FL_power_1 : decode b_FL_power 1 = .ok (.iload_n 1, 1) := by decide +kernel
theorem d_FL_power_2 : decode b_FL_power 2 = .ok (.invokevirtual 158, 3) := by decide +kernel
theorem d_FL_power_5 : decode b_FL_power 5 = .ok (.ifCond .eq 16, 3) := by decide +kernel
theorem d_FL_power_8 : decode b_FL_power 8 = .ok (.aload_n 0, 1) := by decide +kernel
theorem d_FL_power_9 : decode b_FL_power 9 = .ok (.getfield 25, 3) := by decide +kernel
theorem d_FL_power_12 : decode b_FL_power 12 = .ok (.iload_n 1, 1) := by decide +kernel
theorem d_FL_power_13 : decode b_FL_power 13 = .ok (.aaload, 1) := by decide +kernel
theorem d_FL_power_14 : decode b_FL_power 14 = .ok (.getfield 161, 3) := by decide +kernel
theorem d_FL_power_17 : decode b_FL_power 17 = .ok (.iload_n 2, 1) := by decide +kernel
theorem d_FL_power_18 : decode b_FL_power 18 = .ok (.if_icmp .ne 5, 3) := by decide +kernel
theorem d_FL_power_21 : decode b_FL_power 21 = .ok (.iconst 0, 1) := by decide +kernel
theorem d_FL_power_22 : decode b_FL_power 22 = .ok (.ireturn, 1) := by decide +kernel
theorem d_FL_power_23 : decode b_FL_power 23 = .ok (.aload_n 0, 1) := by decide +kernel
theorem d_FL_power_24 : decode b_FL_power 24 = .ok (.getfield 25, 3) := by decide +kernel
theorem d_FL_power_27 : decode b_FL_power 27 = .ok (.iload_n 1, 1) := by decide +kernel
theorem d_FL_power_28 : decode b_FL_power 28 = .ok (.aaload, 1) := by decide +kernel
theorem d_FL_power_29 : decode b_FL_power 29 = .ok (.iload_n 2, 1) := by decide +kernel
theorem d_FL_power_30 : decode b_FL_power 30 = .ok (.putfield 161, 3) := by decide +kernel
theorem d_FL_power_33 : decode b_FL_power 33 = .ok (.iconst 1, 1) := by decide +kernel
theorem d_FL_power_34 : decode b_FL_power 34 = .ok (.ireturn, 1) := by decide +kernel
theorem d_FL_store_0 : decode b_FL_store 0 = .ok (.aload_n 0, 1) := by decide +kernel
theorem d_FL_store_1 : decode b_FL_store 1 = .ok (.iload_n 1, 1) := by decide +kernel
theorem d_FL_store_2 : decode b_FL_store 2 = .ok (.invokevirtual 158, 3) := by decide +kernel
theorem d_FL_store_5 : decode b_FL_store 5 = .ok (.ifCond .ne 5, 3) := by decide +kernel
theorem d_FL_store_8 : decode b_FL_store 8 = .ok (.iconst (-1), 1) := by decide +kernel
theorem d_FL_store_9 : decode b_FL_store 9 = .ok (.ireturn, 1) := by decide +kernel
theorem d_FL_store_10 : decode b_FL_store 10 = .ok (.aload_n 0, 1) := by decide +kernel
theorem d_FL_store_11 : decode b_FL_store 11 = .ok (.getfield 25, 3) := by decide +kernel
theorem d_FL_store_14 : decode b_FL_store 14 = .ok (.iload_n 1, 1) := by decide +kernel
theorem d_FL_store_15 : decode b_FL_store 15 = .ok (.aaload, 1) := by decide +kernel
theorem d_FL_store_16 : decode b_FL_store 16 = .ok (.iload_n 2, 1) := by decide +kernel
theorem d_FL_store_17 : decode b_FL_store 17 = .ok (.invokevirtual 165, 3) := by decide +kernel
theorem d_FL_store_20 : decode b_FL_store 20 = .ok (.ireturn, 1) := by decide +kernel
theorem d_FL_isEntry_0 : decode b_FL_isEntry 0 = .ok (.iload_n 0, 1) := by decide +kernel
theorem d_FL_isEntry_1 : decode b_FL_isEntry 1 = .ok (.ifCond .lt 13, 3) := by decide +kernel
theorem d_FL_isEntry_4 : decode b_FL_isEntry 4 = .ok (.iload_n 0, 1) := by decide +kernel
theorem d_FL_isEntry_5 : decode b_FL_isEntry 5 = .ok (.bipush 20, 2) := by decide +kernel
theorem d_FL_isEntry_7 : decode b_FL_isEntry 7 = .ok (.if_icmp .ge 7, 3) := by decide +kernel
theorem d_FL_isEntry_10 : decode b_FL_isEntry 10 = .ok (.iconst 1, 1) := by decide +kernel
theorem d_FL_isEntry_11 : decode b_FL_isEntry 11 = .ok (.goto 4, 3) := by decide +kernel
theorem d_FL_isEntry_14 : decode b_FL_isEntry 14 = .ok (.iconst 0, 1) := by decide +kernel
theorem d_FL_isEntry_15 : decode b_FL_isEntry 15 = .ok (.ireturn, 1) := by decide +kernel
theorem d_FL_has_0 : decode b_FL_has 0 = .ok (.aload_n 0, 1) := by decide +kernel
theorem d_FL_has_1 : decode b_FL_has 1 = .ok (.iload_n 1, 1) := by decide +kernel
theorem d_FL_has_2 : decode b_FL_has 2 = .ok (.invokevirtual 158, 3) := by decide +kernel
theorem d_FL_has_5 : decode b_FL_has 5 = .ok (.ifCond .eq 28, 3) := by decide +kernel
theorem d_FL_has_8 : decode b_FL_has 8 = .ok (.iload_n 2, 1) := by decide +kernel
theorem d_FL_has_9 : decode b_FL_has 9 = .ok (.invokestatic 166, 3) := by decide +kernel
theorem d_FL_has_12 : decode b_FL_has 12 = .ok (.ifCond .eq 21, 3) := by decide +kernel
theorem d_FL_has_15 : decode b_FL_has 15 = .ok (.aload_n 0, 1) := by decide +kernel
theorem d_FL_has_16 : decode b_FL_has 16 = .ok (.getfield 25, 3) := by decide +kernel
theorem d_FL_has_19 : decode b_FL_has 19 = .ok (.iload_n 1, 1) := by decide +kernel
theorem d_FL_has_20 : decode b_FL_has 20 = .ok (.aaload, 1) := by decide +kernel
theorem d_FL_has_21 : decode b_FL_has 21 = .ok (.getfield 169, 3) := by decide +kernel
theorem d_FL_has_24 : decode b_FL_has 24 = .ok (.iload_n 2, 1) := by decide +kernel
theorem d_FL_has_25 : decode b_FL_has 25 = .ok (.baload, 1) := by decide +kernel
theorem d_FL_has_26 : decode b_FL_has 26 = .ok (.ifCond .eq 7, 3) := by decide +kernel
theorem d_FL_has_29 : decode b_FL_has 29 = .ok (.iconst 1, 1) := by decide +kernel
theorem d_FL_has_30 : decode b_FL_has 30 = .ok (.goto 4, 3) := by decide +kernel
theorem d_FL_has_33 : decode b_FL_has 33 = .ok (.iconst 0, 1) := by decide +kernel
theorem d_FL_has_34 : decode b_FL_has 34 = .ok (.ireturn, 1) := by decide +kernel
theorem d_FL_ledger_0 : decode b_FL_ledger 0 = .ok (.iload_n 1, 1) := by decide +kernel
theorem d_FL_ledger_1 : decode b_FL_ledger 1 = .ok (.tableswitch 54 0 2 #[27, 32, 37], 27) := by decide +kernel
theorem d_FL_ledger_28 : decode b_FL_ledger 28 = .ok (.aload_n 0, 1) := by decide +kernel
theorem d_FL_ledger_29 : decode b_FL_ledger 29 = .ok (.getfield 53, 3) := by decide +kernel
theorem d_FL_ledger_32 : decode b_FL_ledger 32 = .ok (.ireturn, 1) := by decide +kernel
theorem d_FL_ledger_33 : decode b_FL_ledger 33 = .ok (.aload_n 0, 1) := by decide +kernel
theorem d_FL_ledger_34 : decode b_FL_ledger 34 = .ok (.getfield 56, 3) := by decide +kernel
theorem d_FL_ledger_37 : decode b_FL_ledger 37 = .ok (.ireturn, 1) := by decide +kernel
theorem d_FL_ledger_38 : decode b_FL_ledger 38 = .ok (.aload_n 0, 1) := by decide +kernel
theorem d_FL_ledger_39 : decode b_FL_ledger 39 = .ok (.getfield 53, 3) := by decide +kernel
theorem d_FL_ledger_42 : decode b_FL_ledger 42 = .ok (.iconst 2, 1) := by decide +kernel
theorem d_FL_ledger_43 : decode b_FL_ledger 43 = .ok (.if_icmp .ne 10, 3) := by decide +kernel
theorem d_FL_ledger_46 : decode b_FL_ledger 46 = .ok (.aload_n 0, 1) := by decide +kernel
theorem d_FL_ledger_47 : decode b_FL_ledger 47 = .ok (.getfield 59, 3) := by decide +kernel
theorem d_FL_ledger_50 : decode b_FL_ledger 50 = .ok (.goto 4, 3) := by decide +kernel
theorem d_FL_ledger_53 : decode b_FL_ledger 53 = .ok (.iconst (-1), 1) := by decide +kernel
theorem d_FL_ledger_54 : decode b_FL_ledger 54 = .ok (.ireturn, 1) := by decide +kernel
theorem d_FL_ledger_55 : decode b_FL_ledger 55 = .ok (.iconst (-1), 1) := by decide +kernel
theorem d_FL_ledger_56 : decode b_FL_ledger 56 = .ok (.ireturn, 1) := by decide +kernel
theorem d_FL_firstUpWith_0 : decode b_FL_firstUpWith 0 = .ok (.iconst 0, 1) := by decide +kernel
theorem d_FL_firstUpWith_1 : decode b_FL_firstUpWith 1 = .ok (.istore_n 2, 1) := by decide +kernel
theorem d_FL_firstUpWith_2 : decode b_FL_firstUpWith 2 = .ok (.iload_n 2, 1) := by decide +kernel
theorem d_FL_firstUpWith_3 : decode b_FL_firstUpWith 3 = .ok (.aload_n 0, 1) := by decide +kernel
theorem d_FL_firstUpWith_4 : decode b_FL_firstUpWith 4 = .ok (.getfield 17, 3) := by decide +kernel
theorem d_FL_firstUpWith_7 : decode b_FL_firstUpWith 7 = .ok (.if_icmp .ge 44, 3) := by decide +kernel
theorem d_FL_firstUpWith_10 : decode b_FL_firstUpWith 10 = .ok (.aload_n 0, 1) := by decide +kernel
theorem d_FL_firstUpWith_11 : decode b_FL_firstUpWith 11 = .ok (.iload_n 1, 1) := by decide +kernel
theorem d_FL_firstUpWith_12 : decode b_FL_firstUpWith 12 = .ok (.iload_n 2, 1) := by decide +kernel
theorem d_FL_firstUpWith_13 : decode b_FL_firstUpWith 13 = .ok (.invokevirtual 198, 3) := by decide +kernel
theorem d_FL_firstUpWith_16 : decode b_FL_firstUpWith 16 = .ok (.istore_n 3, 1) := by decide +kernel
theorem d_FL_firstUpWith_17 : decode b_FL_firstUpWith 17 = .ok (.aload_n 0, 1) := by decide +kernel
theorem d_FL_firstUpWith_18 : decode b_FL_firstUpWith 18 = .ok (.getfield 25, 3) := by decide +kernel
theorem d_FL_firstUpWith_21 : decode b_FL_firstUpWith 21 = .ok (.iload_n 3, 1) := by decide +kernel
theorem d_FL_firstUpWith_22 : decode b_FL_firstUpWith 22 = .ok (.aaload, 1) := by decide +kernel
theorem d_FL_firstUpWith_23 : decode b_FL_firstUpWith 23 = .ok (.getfield 161, 3) := by decide +kernel
theorem d_FL_firstUpWith_26 : decode b_FL_firstUpWith 26 = .ok (.ifCond .eq 19, 3) := by decide +kernel
theorem d_FL_firstUpWith_29 : decode b_FL_firstUpWith 29 = .ok (.aload_n 0, 1) := by decide +kernel
theorem d_FL_firstUpWith_30 : decode b_FL_firstUpWith 30 = .ok (.getfield 25, 3) := by decide +kernel
theorem d_FL_firstUpWith_33 : decode b_FL_firstUpWith 33 = .ok (.iload_n 3, 1) := by decide +kernel
theorem d_FL_firstUpWith_34 : decode b_FL_firstUpWith 34 = .ok (.aaload, 1) := by decide +kernel
theorem d_FL_firstUpWith_35 : decode b_FL_firstUpWith 35 = .ok (.getfield 169, 3) := by decide +kernel
theorem d_FL_firstUpWith_38 : decode b_FL_firstUpWith 38 = .ok (.iload_n 1, 1) := by decide +kernel
theorem d_FL_firstUpWith_39 : decode b_FL_firstUpWith 39 = .ok (.baload, 1) := by decide +kernel
theorem d_FL_firstUpWith_40 : decode b_FL_firstUpWith 40 = .ok (.ifCond .eq 5, 3) := by decide +kernel
theorem d_FL_firstUpWith_43 : decode b_FL_firstUpWith 43 = .ok (.iload_n 3, 1) := by decide +kernel
theorem d_FL_firstUpWith_44 : decode b_FL_firstUpWith 44 = .ok (.ireturn, 1) := by decide +kernel
theorem d_FL_firstUpWith_45 : decode b_FL_firstUpWith 45 = .ok (.iinc 2 1, 3) := by decide +kernel
theorem d_FL_firstUpWith_48 : decode b_FL_firstUpWith 48 = .ok (.goto (-46), 3) := by decide +kernel
theorem d_FL_firstUpWith_51 : decode b_FL_firstUpWith 51 = .ok (.iconst (-1), 1) := by decide +kernel
theorem d_FL_firstUpWith_52 : decode b_FL_firstUpWith 52 = .ok (.ireturn, 1) := by decide +kernel
theorem d_FL_read_0 : decode b_FL_read 0 = .ok (.aload_n 0, 1) := by decide +kernel
theorem d_FL_read_1 : decode b_FL_read 1 = .ok (.getfield 53, 3) := by decide +kernel
theorem d_FL_read_4 : decode b_FL_read 4 = .ok (.iconst 2, 1) := by decide +kernel
theorem d_FL_read_5 : decode b_FL_read 5 = .ok (.if_icmp .eq 13, 3) := by decide +kernel
theorem d_FL_read_8 : decode b_FL_read 8 = .ok (.new 65, 3) := by decide +kernel
theorem d_FL_read_11 : decode b_FL_read 11 = .ok (.dup, 1) := by decide +kernel
theorem d_FL_read_12 : decode b_FL_read 12 = .ok (.ldc 173, 2) := by decide +kernel
theorem d_FL_read_14 : decode b_FL_read 14 = .ok (.invokespecial 69, 3) := by decide +kernel
theorem d_FL_read_17 : decode b_FL_read 17 = .ok (.athrow, 1) := by decide +kernel
theorem d_FL_read_18 : decode b_FL_read 18 = .ok (.iload_n 1, 1) := by decide +kernel
theorem d_FL_read_19 : decode b_FL_read 19 = .ok (.invokestatic 166, 3) := by decide +kernel
theorem d_FL_read_22 : decode b_FL_read 22 = .ok (.ifCond .eq 11, 3) := by decide +kernel
theorem d_FL_read_25 : decode b_FL_read 25 = .ok (.iload_n 1, 1) := by decide +kernel
theorem d_FL_read_26 : decode b_FL_read 26 = .ok (.aload_n 0, 1) := by decide +kernel
theorem d_FL_read_27 : decode b_FL_read 27 = .ok (.getfield 59, 3) := by decide +kernel
theorem d_FL_read_30 : decode b_FL_read 30 = .ok (.if_icmp .le 13, 3) := by decide +kernel
theorem d_FL_read_33 : decode b_FL_read 33 = .ok (.new 76, 3) := by decide +kernel
theorem d_FL_read_36 : decode b_FL_read 36 = .ok (.dup, 1) := by decide +kernel
theorem d_FL_read_37 : decode b_FL_read 37 = .ok (.ldc 175, 2) := by decide +kernel
theorem d_FL_read_39 : decode b_FL_read 39 = .ok (.invokespecial 80, 3) := by decide +kernel
theorem d_FL_read_42 : decode b_FL_read 42 = .ok (.athrow, 1) := by decide +kernel
theorem d_FL_read_43 : decode b_FL_read 43 = .ok (.aload_n 0, 1) := by decide +kernel
theorem d_FL_read_44 : decode b_FL_read 44 = .ok (.iload_n 1, 1) := by decide +kernel
theorem d_FL_read_45 : decode b_FL_read 45 = .ok (.invokevirtual 177, 3) := by decide +kernel
theorem d_FL_read_48 : decode b_FL_read 48 = .ok (.istore_n 2, 1) := by decide +kernel
theorem d_FL_read_49 : decode b_FL_read 49 = .ok (.iload_n 2, 1) := by decide +kernel
theorem d_FL_read_50 : decode b_FL_read 50 = .ok (.iconst (-1), 1) := by decide +kernel
theorem d_FL_read_51 : decode b_FL_read 51 = .ok (.if_icmp .ne 13, 3) := by decide +kernel
theorem d_FL_read_54 : decode b_FL_read 54 = .ok (.new 180, 3) := by decide +kernel
theorem d_FL_read_57 : decode b_FL_read 57 = .ok (.dup, 1) := by decide +kernel
theorem d_FL_read_58 : decode b_FL_read 58 = .ok (.ldc 182, 2) := by decide +kernel
theorem d_FL_read_60 : decode b_FL_read 60 = .ok (.invokespecial 184, 3) := by decide +kernel
theorem d_FL_read_63 : decode b_FL_read 63 = .ok (.athrow, 1) := by decide +kernel
theorem d_FL_read_64 : decode b_FL_read 64 = .ok (.aload_n 0, 1) := by decide +kernel
theorem d_FL_read_65 : decode b_FL_read 65 = .ok (.getfield 25, 3) := by decide +kernel
theorem d_FL_read_68 : decode b_FL_read 68 = .ok (.iload_n 2, 1) := by decide +kernel
theorem d_FL_read_69 : decode b_FL_read 69 = .ok (.aaload, 1) := by decide +kernel
theorem d_FL_read_70 : decode b_FL_read 70 = .ok (.getfield 185, 3) := by decide +kernel
theorem d_FL_read_73 : decode b_FL_read 73 = .ok (.iload_n 1, 1) := by decide +kernel
theorem d_FL_read_74 : decode b_FL_read 74 = .ok (.iaload, 1) := by decide +kernel
theorem d_FL_read_75 : decode b_FL_read 75 = .ok (.ireturn, 1) := by decide +kernel
theorem d_MD_init_0 : decode b_MD_init 0 = .ok (.aload_n 0, 1) := by decide +kernel
theorem d_MD_init_1 : decode b_MD_init 1 = .ok (.invokespecial 1, 3) := by decide +kernel
theorem d_MD_init_4 : decode b_MD_init 4 = .ok (.aload_n 0, 1) := by decide +kernel
theorem d_MD_init_5 : decode b_MD_init 5 = .ok (.iconst 5, 1) := by decide +kernel
theorem d_MD_init_6 : decode b_MD_init 6 = .ok (.newarray .boolean, 2) := by decide +kernel
theorem d_MD_init_8 : decode b_MD_init 8 = .ok (.putfield 7, 3) := by decide +kernel
theorem d_MD_init_11 : decode b_MD_init 11 = .ok (.aload_n 0, 1) := by decide +kernel
theorem d_MD_init_12 : decode b_MD_init 12 = .ok (.iconst 5, 1) := by decide +kernel
theorem d_MD_init_13 : decode b_MD_init 13 = .ok (.newarray .boolean, 2) := by decide +kernel
theorem d_MD_init_15 : decode b_MD_init 15 = .ok (.putfield 13, 3) := by decide +kernel
theorem d_MD_init_18 : decode b_MD_init 18 = .ok (.aload_n 0, 1) := by decide +kernel
theorem d_MD_init_19 : decode b_MD_init 19 = .ok (.iconst 5, 1) := by decide +kernel
theorem d_MD_init_20 : decode b_MD_init 20 = .ok (.newarray .int, 2) := by decide +kernel
theorem d_MD_init_22 : decode b_MD_init 22 = .ok (.putfield 16, 3) := by decide +kernel
theorem d_MD_init_25 : decode b_MD_init 25 = .ok (.aload_n 0, 1) := by decide +kernel
theorem d_MD_init_26 : decode b_MD_init 26 = .ok (.bipush 100, 2) := by decide +kernel
theorem d_MD_init_28 : decode b_MD_init 28 = .ok (.newarray .boolean, 2) := by decide +kernel
theorem d_MD_init_30 : decode b_MD_init 30 = .ok (.putfield 20, 3) := by decide +kernel
theorem d_MD_init_33 : decode b_MD_init 33 = .ok (.aload_n 0, 1) := by decide +kernel
theorem d_MD_init_34 : decode b_MD_init 34 = .ok (.bipush 100, 2) := by decide +kernel
theorem d_MD_init_36 : decode b_MD_init 36 = .ok (.newarray .int, 2) := by decide +kernel
theorem d_MD_init_38 : decode b_MD_init 38 = .ok (.putfield 23, 3) := by decide +kernel
theorem d_MD_init_41 : decode b_MD_init 41 = .ok (.aload_n 0, 1) := by decide +kernel
theorem d_MD_init_42 : decode b_MD_init 42 = .ok (.iconst (-1), 1) := by decide +kernel
theorem d_MD_init_43 : decode b_MD_init 43 = .ok (.putfield 26, 3) := by decide +kernel
theorem d_MD_init_46 : decode b_MD_init 46 = .ok (.aload_n 0, 1) := by decide +kernel
theorem d_MD_init_47 : decode b_MD_init 47 = .ok (.sipush 140, 3) := by decide +kernel
theorem d_MD_init_50 : decode b_MD_init 50 = .ok (.newarray .int, 2) := by decide +kernel
theorem d_MD_init_52 : decode b_MD_init 52 = .ok (.putfield 30, 3) := by decide +kernel
theorem d_MD_init_55 : decode b_MD_init 55 = .ok (.aload_n 0, 1) := by decide +kernel
theorem d_MD_init_56 : decode b_MD_init 56 = .ok (.iconst (-1), 1) := by decide +kernel
theorem d_MD_init_57 : decode b_MD_init 57 = .ok (.putfield 33, 3) := by decide +kernel
theorem d_MD_init_60 : decode b_MD_init 60 = .ok (.aload_n 0, 1) := by decide +kernel
theorem d_MD_init_61 : decode b_MD_init 61 = .ok (.bipush 20, 2) := by decide +kernel
theorem d_MD_init_63 : decode b_MD_init 63 = .ok (.newarray .int, 2) := by decide +kernel
theorem d_MD_init_65 : decode b_MD_init 65 = .ok (.putfield 36, 3) := by decide +kernel
theorem d_MD_init_68 : decode b_MD_init 68 = .ok (.aload_n 0, 1) := by decide +kernel
theorem d_MD_init_69 : decode b_MD_init 69 = .ok (.bipush 100, 2) := by decide +kernel
theorem d_MD_init_71 : decode b_MD_init 71 = .ok (.newarray .boolean, 2) := by decide +kernel
theorem d_MD_init_73 : decode b_MD_init 73 = .ok (.putfield 39, 3) := by decide +kernel
theorem d_MD_init_76 : decode b_MD_init 76 = .ok (.aload_n 0, 1) := by decide +kernel
theorem d_MD_init_77 : decode b_MD_init 77 = .ok (.iconst 3, 1) := by decide +kernel
theorem d_MD_init_78 : decode b_MD_init 78 = .ok (.newarray .int, 2) := by decide +kernel
theorem d_MD_init_80 : decode b_MD_init 80 = .ok (.putfield 42, 3) := by decide +kernel
theorem d_MD_init_83 : decode b_MD_init 83 = .ok (.aload_n 0, 1) := by decide +kernel
theorem d_MD_init_84 : decode b_MD_init 84 = .ok (.iconst 3, 1) := by decide +kernel
theorem d_MD_init_85 : decode b_MD_init 85 = .ok (.newarray .int, 2) := by decide +kernel
theorem d_MD_init_87 : decode b_MD_init 87 = .ok (.putfield 45, 3) := by decide +kernel
theorem d_MD_init_90 : decode b_MD_init 90 = .ok (.aload_n 0, 1) := by decide +kernel
theorem d_MD_init_91 : decode b_MD_init 91 = .ok (.iconst 3, 1) := by decide +kernel
theorem d_MD_init_92 : decode b_MD_init 92 = .ok (.newarray .int, 2) := by decide +kernel
theorem d_MD_init_94 : decode b_MD_init 94 = .ok (.putfield 48, 3) := by decide +kernel
theorem d_MD_init_97 : decode b_MD_init 97 = .ok (.aload_n 0, 1) := by decide +kernel
theorem d_MD_init_98 : decode b_MD_init 98 = .ok (.iconst 3, 1) := by decide +kernel
theorem d_MD_init_99 : decode b_MD_init 99 = .ok (.newarray .int, 2) := by decide +kernel
theorem d_MD_init_101 : decode b_MD_init 101 = .ok (.putfield 51, 3) := by decide +kernel
theorem d_MD_init_104 : decode b_MD_init 104 = .ok (.aload_n 0, 1) := by decide +kernel
theorem d_MD_init_105 : decode b_MD_init 105 = .ok (.iconst 3, 1) := by decide +kernel
theorem d_MD_init_106 : decode b_MD_init 106 = .ok (.newarray .int, 2) := by decide +kernel
theorem d_MD_init_108 : decode b_MD_init 108 = .ok (.putfield 54, 3) := by decide +kernel
theorem d_MD_init_111 : decode b_MD_init 111 = .ok (.aload_n 0, 1) := by decide +kernel
theorem d_MD_init_112 : decode b_MD_init 112 = .ok (.bipush 15, 2) := by decide +kernel
theorem d_MD_init_114 : decode b_MD_init 114 = .ok (.newarray .boolean, 2) := by decide +kernel
theorem d_MD_init_116 : decode b_MD_init 116 = .ok (.putfield 57, 3) := by decide +kernel
theorem d_MD_init_119 : decode b_MD_init 119 = .ok (.aload_n 0, 1) := by decide +kernel
theorem d_MD_init_120 : decode b_MD_init 120 = .ok (.iload_n 1, 1) := by decide +kernel
theorem d_MD_init_121 : decode b_MD_init 121 = .ok (.iconst 3, 1) := by decide +kernel
theorem d_MD_init_122 : decode b_MD_init 122 = .ok (.if_icmp .ge 7, 3) := by decide +kernel
theorem d_MD_init_125 : decode b_MD_init 125 = .ok (.iconst 3, 1) := by decide +kernel
theorem d_MD_init_126 : decode b_MD_init 126 = .ok (.goto 13, 3) := by decide +kernel
theorem d_MD_init_129 : decode b_MD_init 129 = .ok (.iload_n 1, 1) := by decide +kernel
theorem d_MD_init_130 : decode b_MD_init 130 = .ok (.iconst 5, 1) := by decide +kernel
theorem d_MD_init_131 : decode b_MD_init 131 = .ok (.if_icmp .le 7, 3) := by decide +kernel
theorem d_MD_init_134 : decode b_MD_init 134 = .ok (.iconst 5, 1) := by decide +kernel
theorem d_MD_init_135 : decode b_MD_init 135 = .ok (.goto 4, 3) := by decide +kernel
theorem d_MD_init_138 : decode b_MD_init 138 = .ok (.iload_n 1, 1) := by decide +kernel
theorem d_MD_init_139 : decode b_MD_init 139 = .ok (.putfield 60, 3) := by decide +kernel
theorem d_MD_init_142 : decode b_MD_init 142 = .ok (.aload_n 0, 1) := by decide +kernel
theorem d_MD_init_143 : decode b_MD_init 143 = .ok (.iload_n 2, 1) := by decide +kernel
theorem d_MD_init_144 : decode b_MD_init 144 = .ok (.iconst 2, 1) := by decide +kernel
theorem d_MD_init_145 : decode b_MD_init 145 = .ok (.if_icmp .ge 7, 3) := by decide +kernel
theorem d_MD_init_148 : decode b_MD_init 148 = .ok (.iconst 2, 1) := by decide +kernel
theorem d_MD_init_149 : decode b_MD_init 149 = .ok (.goto 19, 3) := by decide +kernel
theorem d_MD_init_152 : decode b_MD_init 152 = .ok (.iload_n 2, 1) := by decide +kernel
theorem d_MD_init_153 : decode b_MD_init 153 = .ok (.aload_n 0, 1) := by decide +kernel
theorem d_MD_init_154 : decode b_MD_init 154 = .ok (.getfield 60, 3) := by decide +kernel
theorem d_MD_init_157 : decode b_MD_init 157 = .ok (.if_icmp .le 10, 3) := by decide +kernel
theorem d_MD_init_160 : decode b_MD_init 160 = .ok (.aload_n 0, 1) := by decide +kernel
theorem d_MD_init_161 : decode b_MD_init 161 = .ok (.getfield 60, 3) := by decide +kernel
theorem d_MD_init_164 : decode b_MD_init 164 = .ok (.goto 4, 3) := by decide +kernel
theorem d_MD_init_167 : decode b_MD_init 167 = .ok (.iload_n 2, 1) := by decide +kernel
theorem d_MD_init_168 : decode b_MD_init 168 = .ok (.putfield 63, 3) := by decide +kernel
theorem d_MD_init_171 : decode b_MD_init 171 = .ok (.aload_n 0, 1) := by decide +kernel
theorem d_MD_init_172 : decode b_MD_init 172 = .ok (.iload_n 3, 1) := by decide +kernel
theorem d_MD_init_173 : decode b_MD_init 173 = .ok (.iconst 1, 1) := by decide +kernel
theorem d_MD_init_174 : decode b_MD_init 174 = .ok (.if_icmp .ge 7, 3) := by decide +kernel
theorem d_MD_init_177 : decode b_MD_init 177 = .ok (.iconst 1, 1) := by decide +kernel
theorem d_MD_init_178 : decode b_MD_init 178 = .ok (.goto 19, 3) := by decide +kernel
theorem d_MD_init_181 : decode b_MD_init 181 = .ok (.iload_n 3, 1) := by decide +kernel
theorem d_MD_init_182 : decode b_MD_init 182 = .ok (.aload_n 0, 1) := by decide +kernel
theorem d_MD_init_183 : decode b_MD_init 183 = .ok (.getfield 63, 3) := by decide +kernel
theorem d_MD_init_186 : decode b_MD_init 186 = .ok (.if_icmp .le 10, 3) := by decide +kernel
theorem d_MD_init_189 : decode b_MD_init 189 = .ok (.aload_n 0, 1) := by decide +kernel
theorem d_MD_init_190 : decode b_MD_init 190 = .ok (.getfield 63, 3) := by decide +kernel
theorem d_MD_init_193 : decode b_MD_init 193 = .ok (.goto 4, 3) := by decide +kernel
theorem d_MD_init_196 : decode b_MD_init 196 = .ok (.iload_n 3, 1) := by decide +kernel
theorem d_MD_init_197 : decode b_MD_init 197 = .ok (.putfield 66, 3) := by decide +kernel
theorem d_MD_init_200 : decode b_MD_init 200 = .ok (.iconst 0, 1) := by decide +kernel
theorem d_MD_init_201 : decode b_MD_init 201 = .ok (.istore 4, 2) := by decide +kernel
theorem d_MD_init_203 : decode b_MD_init 203 = .ok (.iload 4, 2) := by decide +kernel
theorem d_MD_init_205 : decode b_MD_init 205 = .ok (.iconst 5, 1) := by decide +kernel
theorem d_MD_init_206 : decode b_MD_init 206 = .ok (.if_icmp .ge 17, 3) := by decide +kernel
theorem d_MD_init_209 : decode b_MD_init 209 = .ok (.aload_n 0, 1) := by decide +kernel
theorem d_MD_init_210 : decode b_MD_init 210 = .ok (.getfield 16, 3) := by decide +kernel
theorem d_MD_init_213 : decode b_MD_init 213 = .ok (.iload 4, 2) := by decide +kernel
theorem d_MD_init_215 : decode b_MD_init 215 = .ok (.iconst (-1), 1) := by decide +kernel
theorem d_MD_init_216 : decode b_MD_init 216 = .ok (.iastore, 1) := by decide +kernel
theorem d_MD_init_217 : decode b_MD_init 217 = .ok (.iinc 4 1, 3) := by decide +kernel
theorem d_MD_init_220 : decode b_MD_init 220 = .ok (.goto (-17), 3) := by decide +kernel
theorem d_MD_init_223 : decode b_MD_init 223 = .ok (.aload_n 0, 1) := by decide +kernel
theorem d_MD_init_224 : decode b_MD_init 224 = .ok (.getfield 51, 3) := by decide +kernel
theorem d_MD_init_227 : decode b_MD_init 227 = .ok (.iconst 1, 1) := by decide +kernel
theorem d_MD_init_228 : decode b_MD_init 228 = .ok (.iconst (-1), 1) := by decide +kernel
theorem d_MD_init_229 : decode b_MD_init 229 = .ok (.iastore, 1) := by decide +kernel
theorem d_MD_init_230 : decode b_MD_init 230 = .ok (.aload_n 0, 1) := by decide +kernel
theorem d_MD_init_231 : decode b_MD_init 231 = .ok (.getfield 51, 3) := by decide +kernel
theorem d_MD_init_234 : decode b_MD_init 234 = .ok (.iconst 2, 1) := by decide +kernel
theorem d_MD_init_235 : decode b_MD_init 235 = .ok (.iconst (-1), 1) := by decide +kernel
theorem d_MD_init_236 : decode b_MD_init 236 = .ok (.iastore, 1) := by decide +kernel
theorem d_MD_init_237 : decode b_MD_init 237 = .ok (.return_, 1) := by decide +kernel
theorem d_MD_thrown_0 : decode b_MD_thrown 0 = .ok (.aload_n 0, 1) := by decide +kernel
theorem d_MD_thrown_1 : decode b_MD_thrown 1 = .ok (.getfield 69, 3) := by decide +kernel
theorem d_MD_thrown_4 : decode b_MD_thrown 4 = .ok (.ireturn, 1) := by decide +kernel
theorem d_MD_send_0 : decode b_MD_send 0 = .ok (.aload_n 0, 1) := by decide +kernel
theorem d_MD_send_1 : decode b_MD_send 1 = .ok (.getfield 72, 3) := by decide +kernel
theorem d_MD_send_4 : decode b_MD_send 4 = .ok (.bipush 20, 2) := by decide +kernel
theorem d_MD_send_6 : decode b_MD_send 6 = .ok (.if_icmp .ne 4, 3) := by decide +kernel
theorem d_MD_send_9 : decode b_MD_send 9 = .ok (.return_, 1) := by decide +kernel
theorem d_MD_send_10 : decode b_MD_send 10 = .ok (.bipush 7, 2) := by decide +kernel
theorem d_MD_send_12 : decode b_MD_send 12 = .ok (.aload_n 0, 1) := by decide +kernel
theorem d_MD_send_13 : decode b_MD_send 13 = .ok (.getfield 72, 3) := by decide +kernel
theorem d_MD_send_16 : decode b_MD_send 16 = .ok (.imul, 1) := by decide +kernel
theorem d_MD_send_17 : decode b_MD_send 17 = .ok (.istore 8, 2) := by decide +kernel
theorem d_MD_send_19 : decode b_MD_send 19 = .ok (.aload_n 0, 1) := by decide +kernel
theorem d_MD_send_20 : decode b_MD_send 20 = .ok (.getfield 30, 3) := by decide +kernel
theorem d_MD_send_23 : decode b_MD_send 23 = .ok (.iload 8, 2) := by decide +kernel
theorem d_MD_send_25 : decode b_MD_send 25 = .ok (.iload_n 1, 1) := by decide +kernel
theorem d_MD_send_26 : decode b_MD_send 26 = .ok (.iastore, 1) := by decide +kernel
theorem d_MD_send_27 : decode b_MD_send 27 = .ok (.aload_n 0, 1) := by decide +kernel
theorem d_MD_send_28 : decode b_MD_send 28 = .ok (.getfield 30, 3) := by decide +kernel
theorem d_MD_send_31 : decode b_MD_send 31 = .ok (.iload 8, 2) := by decide +kernel
theorem d_MD_send_33 : decode b_MD_send 33 = .ok (.iconst 1, 1) := by decide +kernel
theorem d_MD_send_34 : decode b_MD_send 34 = .ok (.iadd, 1) := by decide +kernel
theorem d_MD_send_35 : decode b_MD_send 35 = .ok (.iload_n 2, 1) := by decide +kernel
theorem d_MD_send_36 : decode b_MD_send 36 = .ok (.iastore, 1) := by decide +kernel
theorem d_MD_send_37 : decode b_MD_send 37 = .ok (.aload_n 0, 1) := by decide +kernel
theorem d_MD_send_38 : decode b_MD_send 38 = .ok (.getfield 30, 3) := by decide +kernel
theorem d_MD_send_41 : decode b_MD_send 41 = .ok (.iload 8, 2) := by decide +kernel
theorem d_MD_send_43 : decode b_MD_send 43 = .ok (.iconst 2, 1) := by decide +kernel
theorem d_MD_send_44 : decode b_MD_send 44 = .ok (.iadd, 1) := by decide +kernel
theorem d_MD_send_45 : decode b_MD_send 45 = .ok (.iload_n 3, 1) := by decide +kernel
theorem d_MD_send_46 : decode b_MD_send 46 = .ok (.iastore, 1) := by decide +kernel
theorem d_MD_send_47 : decode b_MD_send 47 = .ok (.aload_n 0, 1) := by decide +kernel
theorem d_MD_send_48 : decode b_MD_send 48 = .ok (.getfield 30, 3) := by decide +kernel
theorem d_MD_send_51 : decode b_MD_send 51 = .ok (.iload 8, 2) := by decide +kernel
theorem d_MD_send_53 : decode b_MD_send 53 = .ok (.iconst 3, 1) := by decide +kernel
theorem d_MD_send_54 : decode b_MD_send 54 = .ok (.iadd, 1) := by decide +kernel
theorem d_MD_send_55 : decode b_MD_send 55 = .ok (.iload 4, 2) := by decide +kernel
theorem d_MD_send_57 : decode b_MD_send 57 = .ok (.iastore, 1) := by decide +kernel
theorem d_MD_send_58 : decode b_MD_send 58 = .ok (.aload_n 0, 1) := by decide +kernel
theorem d_MD_send_59 : decode b_MD_send 59 = .ok (.getfield 30, 3) := by decide +kernel
theorem d_MD_send_62 : decode b_MD_send 62 = .ok (.iload 8, 2) := by decide +kernel
theorem d_MD_send_64 : decode b_MD_send 64 = .ok (.iconst 4, 1) := by decide +kernel
theorem d_MD_send_65 : decode b_MD_send 65 = .ok (.iadd, 1) := by decide +kernel
theorem d_MD_send_66 : decode b_MD_send 66 = .ok (.iload 5, 2) := by decide +kernel
theorem d_MD_send_68 : decode b_MD_send 68 = .ok (.iastore, 1) := by decide +kernel
theorem d_MD_send_69 : decode b_MD_send 69 = .ok (.aload_n 0, 1) := by decide +kernel
theorem d_MD_send_70 : decode b_MD_send 70 = .ok (.getfield 30, 3) := by decide +kernel
theorem d_MD_send_73 : decode b_MD_send 73 = .ok (.iload 8, 2) := by decide +kernel
theorem d_MD_send_75 : decode b_MD_send 75 = .ok (.iconst 5, 1) := by decide +kernel
theorem d_MD_send_76 : decode b_MD_send 76 = .ok (.iadd, 1) := by decide +kernel
theorem d_MD_send_77 : decode b_MD_send 77 = .ok (.iload 6, 2) := by decide +kernel
theorem d_MD_send_79 : decode b_MD_send 79 = .ok (.iastore, 1) := by decide +kernel
theorem d_MD_send_80 : decode b_MD_send 80 = .ok (.aload_n 0, 1) := by decide +kernel
theorem d_MD_send_81 : decode b_MD_send 81 = .ok (.getfield 30, 3) := by decide +kernel
theorem d_MD_send_84 : decode b_MD_send 84 = .ok (.iload 8, 2) := by decide +kernel
theorem d_MD_send_86 : decode b_MD_send 86 = .ok (.bipush 6, 2) := by decide +kernel
theorem d_MD_send_88 : decode b_MD_send 88 = .ok (.iadd, 1) := by decide +kernel
theorem d_MD_send_89 : decode b_MD_send 89 = .ok (.iload 7, 2) := by decide +kernel
theorem d_MD_send_91 : decode b_MD_send 91 = .ok (.iastore, 1) := by decide +kernel
theorem d_MD_send_92 : decode b_MD_send 92 = .ok (.aload_n 0, 1) := by decide +kernel
theorem d_MD_send_93 : decode b_MD_send 93 = .ok (.dup, 1) := by decide +kernel
theorem d_MD_send_94 : decode b_MD_send 94 = .ok (.getfield 72, 3) := by decide +kernel
theorem d_MD_send_97 : decode b_MD_send 97 = .ok (.iconst 1, 1) := by decide +kernel
theorem d_MD_send_98 : decode b_MD_send 98 = .ok (.iadd, 1) := by decide +kernel
theorem d_MD_send_99 : decode b_MD_send 99 = .ok (.putfield 72, 3) := by decide +kernel
theorem d_MD_send_102 : decode b_MD_send 102 = .ok (.return_, 1) := by decide +kernel
theorem d_MD_remove_0 : decode b_MD_remove 0 = .ok (.aload_n 0, 1) := by decide +kernel
theorem d_MD_remove_1 : decode b_MD_remove 1 = .ok (.dup, 1) := by decide +kernel
theorem d_MD_remove_2 : decode b_MD_remove 2 = .ok (.getfield 72, 3) := by decide +kernel
theorem d_MD_remove_5 : decode b_MD_remove 5 = .ok (.iconst 1, 1) := by decide +kernel
theorem d_MD_remove_6 : decode b_MD_remove 6 = .ok (.isub, 1) := by decide +kernel
theorem d_MD_remove_7 : decode b_MD_remove 7 = .ok (.putfield 72, 3) := by decide +kernel
theorem d_MD_remove_10 : decode b_MD_remove 10 = .ok (.bipush 7, 2) := by decide +kernel
theorem d_MD_remove_12 : decode b_MD_remove 12 = .ok (.iload_n 1, 1) := by decide +kernel
theorem d_MD_remove_13 : decode b_MD_remove 13 = .ok (.imul, 1) := by decide +kernel
theorem d_MD_remove_14 : decode b_MD_remove 14 = .ok (.istore_n 2, 1) := by decide +kernel
theorem d_MD_remove_15 : decode b_MD_remove 15 = .ok (.iload_n 2, 1) := by decide +kernel
theorem d_MD_remove_16 : decode b_MD_remove 16 = .ok (.bipush 7, 2) := by decide +kernel
theorem d_MD_remove_18 : decode b_MD_remove 18 = .ok (.aload_n 0, 1) := by decide +kernel
theorem d_MD_remove_19 : decode b_MD_remove 19 = .ok (.getfield 72, 3) := by decide +kernel
theorem d_MD_remove_22 : decode b_MD_remove 22 = .ok (.imul, 1) := by decide +kernel
theorem d_MD_remove_23 : decode b_MD_remove 23 = .ok (.if_icmp .ge 24, 3) := by decide +kernel
theorem d_MD_remove_26 : decode b_MD_remove 26 = .ok (.aload_n 0, 1) := by decide +kernel
theorem d_MD_remove_27 : decode b_MD_remove 27 = .ok (.getfield 30, 3) := by decide +kernel
theorem d_MD_remove_30 : decode b_MD_remove 30 = .ok (.iload_n 2, 1) := by decide +kernel
theorem d_MD_remove_31 : decode b_MD_remove 31 = .ok (.aload_n 0, 1) := by decide +kernel
theorem d_MD_remove_32 : decode b_MD_remove 32 = .ok (.getfield 30, 3) := by decide +kernel
theorem d_MD_remove_35 : decode b_MD_remove 35 = .ok (.iload_n 2, 1) := by decide +kernel
theorem d_MD_remove_36 : decode b_MD_remove 36 = .ok (.bipush 7, 2) := by decide +kernel
theorem d_MD_remove_38 : decode b_MD_remove 38 = .ok (.iadd, 1) := by decide +kernel
theorem d_MD_remove_39 : decode b_MD_remove 39 = .ok (.iaload, 1) := by decide +kernel
theorem d_MD_remove_40 : decode b_MD_remove 40 = .ok (.iastore, 1) := by decide +kernel
theorem d_MD_remove_41 : decode b_MD_remove 41 = .ok (.iinc 2 1, 3) := by decide +kernel
theorem d_MD_remove_44 : decode b_MD_remove 44 = .ok (.goto (-29), 3) := by decide +kernel
theorem d_MD_remove_47 : decode b_MD_remove 47 = .ok (.return_, 1) := by decide +kernel
theorem d_MD_isMessage_0 : decode b_MD_isMessage 0 = .ok (.iload_n 1, 1) := by decide +kernel
theorem d_MD_isMessage_1 : decode b_MD_isMessage 1 = .ok (.ifCond .lt 15, 3) := by decide +kernel
theorem d_MD_isMessage_4 : decode b_MD_isMessage 4 = .ok (.iload_n 1, 1) := by decide +kernel
theorem d_MD_isMessage_5 : decode b_MD_isMessage 5 = .ok (.aload_n 0, 1) := by decide +kernel
theorem d_MD_isMessage_6 : decode b_MD_isMessage 6 = .ok (.getfield 72, 3) := by decide +kernel
theorem d_MD_isMessage_9 : decode b_MD_isMessage 9 = .ok (.if_icmp .ge 7, 3) := by decide +kernel
theorem d_MD_isMessage_12 : decode b_MD_isMessage 12 = .ok (.iconst 1, 1) := by decide +kernel
theorem d_MD_isMessage_13 : decode b_MD_isMessage 13 = .ok (.goto 4, 3) := by decide +kernel
theorem d_MD_isMessage_16 : decode b_MD_isMessage 16 = .ok (.iconst 0, 1) := by decide +kernel
theorem d_MD_isMessage_17 : decode b_MD_isMessage 17 = .ok (.ireturn, 1) := by decide +kernel
theorem d_MD_answerCount_0 : decode b_MD_answerCount 0 = .ok (.iconst 0, 1) := by decide +kernel
theorem d_MD_answerCount_1 : decode b_MD_answerCount 1 = .ok (.istore_n 2, 1) := by decide +kernel
theorem d_MD_answerCount_2 : decode b_MD_answerCount 2 = .ok (.iconst 0, 1) := by decide +kernel
theorem d_MD_answerCount_3 : decode b_MD_answerCount 3 = .ok (.istore_n 3, 1) := by decide +kernel
theorem d_MD_answerCount_4 : decode b_MD_answerCount 4 = .ok (.iload_n 3, 1) := by decide +kernel
theorem d_MD_answerCount_5 : decode b_MD_answerCount 5 = .ok (.aload_n 0, 1) := by decide +kernel
theorem d_MD_answerCount_6 : decode b_MD_answerCount 6 = .ok (.getfield 60, 3) := by decide +kernel
theorem d_MD_answerCount_9 : decode b_MD_answerCount 9 = .ok (.if_icmp .ge 30, 3) := by decide +kernel
theorem d_MD_answerCount_12 : decode b_MD_answerCount 12 = .ok (.iload_n 2, 1) := by decide +kernel
theorem d_MD_answerCount_13 : decode b_MD_answerCount 13 = .ok (.aload_n 0, 1) := by decide +kernel
theorem d_MD_answerCount_14 : decode b_MD_answerCount 14 = .ok (.getfield 57, 3) := by decide +kernel
theorem d_MD_answerCount_17 : decode b_MD_answerCount 17 = .ok (.iconst 5, 1) := by decide +kernel
theorem d_MD_answerCount_18 : decode b_MD_answerCount 18 = .ok (.iload_n 1, 1) := by decide +kernel
theorem d_MD_answerCount_19 : decode b_MD_answerCount 19 = .ok (.imul, 1) := by decide +kernel
