theorem d_MS_init_0 : decode b_MS_init 0 = .ok (.aload_n 0, 1) := by decide +kernel
theorem d_MS_init_1 : decode b_MS_init 1 = .ok (.invokespecial 3, 3) := by decide +kernel
theorem d_MS_init_4 : decode b_MS_init 4 = .ok (.aload_n 0, 1) := by decide +kernel
theorem d_MS_init_5 : decode b_MS_init 5 = .ok (.iconst 0, 1) := by decide +kernel
theorem d_MS_init_6 : decode b_MS_init 6 = .ok (.putfield 9, 3) := by decide +kernel
theorem d_MS_init_9 : decode b_MS_init 9 = .ok (.aload_n 0, 1) := by decide +kernel
theorem d_MS_init_10 : decode b_MS_init 10 = .ok (.iconst 0, 1) := by decide +kernel
theorem d_MS_init_11 : decode b_MS_init 11 = .ok (.putfield 15, 3) := by decide +kernel
theorem d_MS_init_14 : decode b_MS_init 14 = .ok (.aload_n 0, 1) := by decide +kernel
theorem d_MS_init_15 : decode b_MS_init 15 = .ok (.iconst 0, 1) := by decide +kernel
theorem d_MS_init_16 : decode b_MS_init 16 = .ok (.putfield 18, 3) := by decide +kernel
theorem d_MS_init_19 : decode b_MS_init 19 = .ok (.aload_n 0, 1) := by decide +kernel
theorem d_MS_init_20 : decode b_MS_init 20 = .ok (.iconst 0, 1) := by decide +kernel
theorem d_MS_init_21 : decode b_MS_init 21 = .ok (.putfield 21, 3) := by decide +kernel
theorem d_MS_init_24 : decode b_MS_init 24 = .ok (.aload_n 0, 1) := by decide +kernel
theorem d_MS_init_25 : decode b_MS_init 25 = .ok (.iconst 0, 1) := by decide +kernel
theorem d_MS_init_26 : decode b_MS_init 26 = .ok (.putfield 24, 3) := by decide +kernel
theorem d_MS_init_29 : decode b_MS_init 29 = .ok (.aload_n 0, 1) := by decide +kernel
theorem d_MS_init_30 : decode b_MS_init 30 = .ok (.iconst 0, 1) := by decide +kernel
theorem d_MS_init_31 : decode b_MS_init 31 = .ok (.putfield 27, 3) := by decide +kernel
theorem d_MS_init_34 : decode b_MS_init 34 = .ok (.aload_n 0, 1) := by decide +kernel
theorem d_MS_init_35 : decode b_MS_init 35 = .ok (.iconst 0, 1) := by decide +kernel
theorem d_MS_init_36 : decode b_MS_init 36 = .ok (.putfield 30, 3) := by decide +kernel
theorem d_MS_init_39 : decode b_MS_init 39 = .ok (.return_, 1) := by decide +kernel
theorem d_CH_init_0 : decode b_CH_init 0 = .ok (.aload_n 0, 1) := by decide +kernel
theorem d_CH_init_1 : decode b_CH_init 1 = .ok (.invokespecial 3, 3) := by decide +kernel
theorem d_CH_init_4 : decode b_CH_init 4 = .ok (.aload_n 0, 1) := by decide +kernel
theorem d_CH_init_5 : decode b_CH_init 5 = .ok (.bipush 20, 2) := by decide +kernel
theorem d_CH_init_7 : decode b_CH_init 7 = .ok (.anewarray 9, 3) := by decide +kernel
theorem d_CH_init_10 : decode b_CH_init 10 = .ok (.putfield 11, 3) := by decide +kernel
theorem d_CH_init_13 : decode b_CH_init 13 = .ok (.aload_n 0, 1) := by decide +kernel
theorem d_CH_init_14 : decode b_CH_init 14 = .ok (.new 9, 3) := by decide +kernel
theorem d_CH_init_17 : decode b_CH_init 17 = .ok (.dup, 1) := by decide +kernel
theorem d_CH_init_18 : decode b_CH_init 18 = .ok (.invokespecial 17, 3) := by decide +kernel
theorem d_CH_init_21 : decode b_CH_init 21 = .ok (.putfield 18, 3) := by decide +kernel
theorem d_CH_init_24 : decode b_CH_init 24 = .ok (.aload_n 0, 1) := by decide +kernel
theorem d_CH_init_25 : decode b_CH_init 25 = .ok (.iconst 0, 1) := by decide +kernel
theorem d_CH_init_26 : decode b_CH_init 26 = .ok (.putfield 22, 3) := by decide +kernel
theorem d_CH_init_29 : decode b_CH_init 29 = .ok (.iconst 0, 1) := by decide +kernel
theorem d_CH_init_30 : decode b_CH_init 30 = .ok (.istore_n 1, 1) := by decide +kernel
theorem d_CH_init_31 : decode b_CH_init 31 = .ok (.iload_n 1, 1) := by decide +kernel
theorem d_CH_init_32 : decode b_CH_init 32 = .ok (.bipush 20, 2) := by decide +kernel
theorem d_CH_init_34 : decode b_CH_init 34 = .ok (.if_icmp .ge 22, 3) := by decide +kernel
theorem d_CH_init_37 : decode b_CH_init 37 = .ok (.aload_n 0, 1) := by decide +kernel
theorem d_CH_init_38 : decode b_CH_init 38 = .ok (.getfield 11, 3) := by decide +kernel
theorem d_CH_init_41 : decode b_CH_init 41 = .ok (.iload_n 1, 1) := by decide +kernel
theorem d_CH_init_42 : decode b_CH_init 42 = .ok (.new 9, 3) := by decide +kernel
theorem d_CH_init_45 : decode b_CH_init 45 = .ok (.dup, 1) := by decide +kernel
theorem d_CH_init_46 : decode b_CH_init 46 = .ok (.invokespecial 17, 3) := by decide +kernel
theorem d_CH_init_49 : decode b_CH_init 49 = .ok (.aastore, 1) := by decide +kernel
theorem d_CH_init_50 : decode b_CH_init 50 = .ok (.iinc 1 1, 3) := by decide +kernel
theorem d_CH_init_53 : decode b_CH_init 53 = .ok (.goto (-22), 3) := by decide +kernel
theorem d_CH_init_56 : decode b_CH_init 56 = .ok (.return_, 1) := by decide +kernel
theorem d_CH_holds_0 : decode b_CH_holds 0 = .ok (.iload_n 1, 1) := by decide +kernel
theorem d_CH_holds_1 : decode b_CH_holds 1 = .ok (.ifCond .lt 15, 3) := by decide +kernel
theorem d_CH_holds_4 : decode b_CH_holds 4 = .ok (.iload_n 1, 1) := by decide +kernel
theorem d_CH_holds_5 : decode b_CH_holds 5 = .ok (.aload_n 0, 1) := by decide +kernel
theorem d_CH_holds_6 : decode b_CH_holds 6 = .ok (.getfield 22, 3) := by decide +kernel
theorem d_CH_holds_9 : decode b_CH_holds 9 = .ok (.if_icmp .ge 7, 3) := by decide +kernel
theorem d_CH_holds_12 : decode b_CH_holds 12 = .ok (.iconst 1, 1) := by decide +kernel
theorem d_CH_holds_13 : decode b_CH_holds 13 = .ok (.goto 4, 3) := by decide +kernel
theorem d_CH_holds_16 : decode b_CH_holds 16 = .ok (.iconst 0, 1) := by decide +kernel
theorem d_CH_holds_17 : decode b_CH_holds 17 = .ok (.ireturn, 1) := by decide +kernel
theorem d_CH_send_0 : decode b_CH_send 0 = .ok (.aload_n 0, 1) := by decide +kernel
theorem d_CH_send_1 : decode b_CH_send 1 = .ok (.getfield 22, 3) := by decide +kernel
theorem d_CH_send_4 : decode b_CH_send 4 = .ok (.bipush 20, 2) := by decide +kernel
theorem d_CH_send_6 : decode b_CH_send 6 = .ok (.if_icmp .lt 4, 3) := by decide +kernel
theorem d_CH_send_9 : decode b_CH_send 9 = .ok (.return_, 1) := by decide +kernel
theorem d_CH_send_10 : decode b_CH_send 10 = .ok (.aload_n 0, 1) := by decide +kernel
theorem d_CH_send_11 : decode b_CH_send 11 = .ok (.getfield 11, 3) := by decide +kernel
theorem d_CH_send_14 : decode b_CH_send 14 = .ok (.aload_n 0, 1) := by decide +kernel
theorem d_CH_send_15 : decode b_CH_send 15 = .ok (.getfield 22, 3) := by decide +kernel
theorem d_CH_send_18 : decode b_CH_send 18 = .ok (.aaload, 1) := by decide +kernel
theorem d_CH_send_19 : decode b_CH_send 19 = .ok (.astore 8, 2) := by decide +kernel
theorem d_CH_send_21 : decode b_CH_send 21 = .ok (.aload 8, 2) := by decide +kernel
theorem d_CH_send_23 : decode b_CH_send 23 = .ok (.iload_n 1, 1) := by decide +kernel
theorem d_CH_send_24 : decode b_CH_send 24 = .ok (.putfield 26, 3) := by decide +kernel
theorem d_CH_send_27 : decode b_CH_send 27 = .ok (.aload 8, 2) := by decide +kernel
theorem d_CH_send_29 : decode b_CH_send 29 = .ok (.iload_n 2, 1) := by decide +kernel
theorem d_CH_send_30 : decode b_CH_send 30 = .ok (.putfield 29, 3) := by decide +kernel
theorem d_CH_send_33 : decode b_CH_send 33 = .ok (.aload 8, 2) := by decide +kernel
theorem d_CH_send_35 : decode b_CH_send 35 = .ok (.iload_n 3, 1) := by decide +kernel
theorem d_CH_send_36 : decode b_CH_send 36 = .ok (.putfield 32, 3) := by decide +kernel
theorem d_CH_send_39 : decode b_CH_send 39 = .ok (.aload 8, 2) := by decide +kernel
theorem d_CH_send_41 : decode b_CH_send 41 = .ok (.iload 4, 2) := by decide +kernel
theorem d_CH_send_43 : decode b_CH_send 43 = .ok (.putfield 35, 3) := by decide +kernel
theorem d_CH_send_46 : decode b_CH_send 46 = .ok (.aload 8, 2) := by decide +kernel
theorem d_CH_send_48 : decode b_CH_send 48 = .ok (.iload 5, 2) := by decide +kernel
theorem d_CH_send_50 : decode b_CH_send 50 = .ok (.putfield 38, 3) := by decide +kernel
theorem d_CH_send_53 : decode b_CH_send 53 = .ok (.aload 8, 2) := by decide +kernel
theorem d_CH_send_55 : decode b_CH_send 55 = .ok (.iload 6, 2) := by decide +kernel
theorem d_CH_send_57 : decode b_CH_send 57 = .ok (.putfield 41, 3) := by decide +kernel
theorem d_CH_send_60 : decode b_CH_send 60 = .ok (.aload 8, 2) := by decide +kernel
theorem d_CH_send_62 : decode b_CH_send 62 = .ok (.iload 7, 2) := by decide +kernel
theorem d_CH_send_64 : decode b_CH_send 64 = .ok (.putfield 44, 3) := by decide +kernel
theorem d_CH_send_67 : decode b_CH_send 67 = .ok (.aload_n 0, 1) := by decide +kernel
theorem d_CH_send_68 : decode b_CH_send 68 = .ok (.dup, 1) := by decide +kernel
theorem d_CH_send_69 : decode b_CH_send 69 = .ok (.getfield 22, 3) := by decide +kernel
theorem d_CH_send_72 : decode b_CH_send 72 = .ok (.iconst 1, 1) := by decide +kernel
theorem d_CH_send_73 : decode b_CH_send 73 = .ok (.iadd, 1) := by decide +kernel
theorem d_CH_send_74 : decode b_CH_send 74 = .ok (.putfield 22, 3) := by decide +kernel
theorem d_CH_send_77 : decode b_CH_send 77 = .ok (.return_, 1) := by decide +kernel
theorem d_CH_takeOut_0 : decode b_CH_takeOut 0 = .ok (.aload_n 0, 1) := by decide +kernel
theorem d_CH_takeOut_1 : decode b_CH_takeOut 1 = .ok (.getfield 18, 3) := by decide +kernel
theorem d_CH_takeOut_4 : decode b_CH_takeOut 4 = .ok (.astore_n 2, 1) := by decide +kernel
theorem d_CH_takeOut_5 : decode b_CH_takeOut 5 = .ok (.aload_n 0, 1) := by decide +kernel
theorem d_CH_takeOut_6 : decode b_CH_takeOut 6 = .ok (.aload_n 0, 1) := by decide +kernel
theorem d_CH_takeOut_7 : decode b_CH_takeOut 7 = .ok (.getfield 11, 3) := by decide +kernel
theorem d_CH_takeOut_10 : decode b_CH_takeOut 10 = .ok (.iload_n 1, 1) := by decide +kernel
theorem d_CH_takeOut_11 : decode b_CH_takeOut 11 = .ok (.aaload, 1) := by decide +kernel
theorem d_CH_takeOut_12 : decode b_CH_takeOut 12 = .ok (.putfield 18, 3) := by decide +kernel
theorem d_CH_takeOut_15 : decode b_CH_takeOut 15 = .ok (.iload_n 1, 1) := by decide +kernel
theorem d_CH_takeOut_16 : decode b_CH_takeOut 16 = .ok (.iconst 1, 1) := by decide +kernel
theorem d_CH_takeOut_17 : decode b_CH_takeOut 17 = .ok (.iadd, 1) := by decide +kernel
theorem d_CH_takeOut_18 : decode b_CH_takeOut 18 = .ok (.istore_n 3, 1) := by decide +kernel
theorem d_CH_takeOut_19 : decode b_CH_takeOut 19 = .ok (.iload_n 3, 1) := by decide +kernel
theorem d_CH_takeOut_20 : decode b_CH_takeOut 20 = .ok (.aload_n 0, 1) := by decide +kernel
theorem d_CH_takeOut_21 : decode b_CH_takeOut 21 = .ok (.getfield 22, 3) := by decide +kernel
theorem d_CH_takeOut_24 : decode b_CH_takeOut 24 = .ok (.if_icmp .ge 23, 3) := by decide +kernel
theorem d_CH_takeOut_27 : decode b_CH_takeOut 27 = .ok (.aload_n 0, 1) := by decide +kernel
theorem d_CH_takeOut_28 : decode b_CH_takeOut 28 = .ok (.getfield 11, 3) := by decide +kernel
theorem d_CH_takeOut_31 : decode b_CH_takeOut 31 = .ok (.iload_n 3, 1) := by decide +kernel
theorem d_CH_takeOut_32 : decode b_CH_takeOut 32 = .ok (.iconst 1, 1) := by decide +kernel
theorem d_CH_takeOut_33 : decode b_CH_takeOut 33 = .ok (.isub, 1) := by decide +kernel
theorem d_CH_takeOut_34 : decode b_CH_takeOut 34 = .ok (.aload_n 0, 1) := by decide +kernel
theorem d_CH_takeOut_35 : decode b_CH_takeOut 35 = .ok (.getfield 11, 3) := by decide +kernel
theorem d_CH_takeOut_38 : decode b_CH_takeOut 38 = .ok (.iload_n 3, 1) := by decide +kernel
theorem d_CH_takeOut_39 : decode b_CH_takeOut 39 = .ok (.aaload, 1) := by decide +kernel
theorem d_CH_takeOut_40 : decode b_CH_takeOut 40 = .ok (.aastore, 1) := by decide +kernel
theorem d_CH_takeOut_41 : decode b_CH_takeOut 41 = .ok (.iinc 3 1, 3) := by decide +kernel
theorem d_CH_takeOut_44 : decode b_CH_takeOut 44 = .ok (.goto (-25), 3) := by decide +kernel
theorem d_CH_takeOut_47 : decode b_CH_takeOut 47 = .ok (.aload_n 0, 1) := by decide +kernel
theorem d_CH_takeOut_48 : decode b_CH_takeOut 48 = .ok (.dup, 1) := by decide +kernel
theorem d_CH_takeOut_49 : decode b_CH_takeOut 49 = .ok (.getfield 22, 3) := by decide +kernel
theorem d_CH_takeOut_52 : decode b_CH_takeOut 52 = .ok (.iconst 1, 1) := by decide +kernel
theorem d_CH_takeOut_53 : decode b_CH_takeOut 53 = .ok (.isub, 1) := by decide +kernel
theorem d_CH_takeOut_54 : decode b_CH_takeOut 54 = .ok (.putfield 22, 3) := by decide +kernel
theorem d_CH_takeOut_57 : decode b_CH_takeOut 57 = .ok (.aload_n 0, 1) := by decide +kernel
theorem d_CH_takeOut_58 : decode b_CH_takeOut 58 = .ok (.getfield 11, 3) := by decide +kernel
theorem d_CH_takeOut_61 : decode b_CH_takeOut 61 = .ok (.aload_n 0, 1) := by decide +kernel
theorem d_CH_takeOut_62 : decode b_CH_takeOut 62 = .ok (.getfield 22, 3) := by decide +kernel
theorem d_CH_takeOut_65 : decode b_CH_takeOut 65 = .ok (.aload_n 2, 1) := by decide +kernel
theorem d_CH_takeOut_66 : decode b_CH_takeOut 66 = .ok (.aastore, 1) := by decide +kernel
theorem d_CH_takeOut_67 : decode b_CH_takeOut 67 = .ok (.aload_n 0, 1) := by decide +kernel
theorem d_CH_takeOut_68 : decode b_CH_takeOut 68 = .ok (.getfield 18, 3) := by decide +kernel
theorem d_CH_takeOut_71 : decode b_CH_takeOut 71 = .ok (.areturn, 1) := by decide +kernel
theorem d_MS_isToStore_0 : decode b_MS_isToStore 0 = .ok (.aload_n 0, 1) := by decide +kernel
theorem d_MS_isToStore_1 : decode b_MS_isToStore 1 = .ok (.getfield 9, 3) := by decide +kernel
theorem d_MS_isToStore_4 : decode b_MS_isToStore 4 = .ok (.ifCond .eq 19, 3) := by decide +kernel
theorem d_MS_isToStore_7 : decode b_MS_isToStore 7 = .ok (.aload_n 0, 1) := by decide +kernel
theorem d_MS_isToStore_8 : decode b_MS_isToStore 8 = .ok (.getfield 9, 3) := by decide +kernel
theorem d_MS_isToStore_11 : decode b_MS_isToStore 11 = .ok (.iconst 1, 1) := by decide +kernel
theorem d_MS_isToStore_12 : decode b_MS_isToStore 12 = .ok (.if_icmp .eq 11, 3) := by decide +kernel
theorem d_MS_isToStore_15 : decode b_MS_isToStore 15 = .ok (.aload_n 0, 1) := by decide +kernel
theorem d_MS_isToStore_16 : decode b_MS_isToStore 16 = .ok (.getfield 9, 3) := by decide +kernel
theorem d_MS_isToStore_19 : decode b_MS_isToStore 19 = .ok (.iconst 2, 1) := by decide +kernel
theorem d_MS_isToStore_20 : decode b_MS_isToStore 20 = .ok (.if_icmp .ne 7, 3) := by decide +kernel
theorem d_MS_isToStore_23 : decode b_MS_isToStore 23 = .ok (.iconst 1, 1) := by decide +kernel
theorem d_MS_isToStore_24 : decode b_MS_isToStore 24 = .ok (.goto 4, 3) := by decide +kernel
theorem d_MS_isToStore_27 : decode b_MS_isToStore 27 = .ok (.iconst 0, 1) := by decide +kernel
theorem d_MS_isToStore_28 : decode b_MS_isToStore 28 = .ok (.ireturn, 1) := by decide +kernel
theorem d_MS_detail_0 : decode b_MS_detail 0 = .ok (.iload_n 1, 1) := by decide +kernel
theorem d_MS_detail_1 : decode b_MS_detail 1 = .ok (.tableswitch 78 0 6 #[43, 48, 53, 58, 63, 68, 73], 43) := by decide +kernel
theorem d_MS_detail_44 : decode b_MS_detail 44 = .ok (.aload_n 0, 1) := by decide +kernel
theorem d_MS_detail_45 : decode b_MS_detail 45 = .ok (.getfield 9, 3) := by decide +kernel
theorem d_MS_detail_48 : decode b_MS_detail 48 = .ok (.ireturn, 1) := by decide +kernel
theorem d_MS_detail_49 : decode b_MS_detail 49 = .ok (.aload_n 0, 1) := by decide +kernel
theorem d_MS_detail_50 : decode b_MS_detail 50 = .ok (.getfield 15, 3) := by decide +kernel
theorem d_MS_detail_53 : decode b_MS_detail 53 = .ok (.ireturn, 1) := by decide +kernel
theorem d_MS_detail_54 : decode b_MS_detail 54 = .ok (.aload_n 0, 1) := by decide +kernel
theorem d_MS_detail_55 : decode b_MS_detail 55 = .ok (.getfield 18, 3) := by decide +kernel
theorem d_MS_detail_58 : decode b_MS_detail 58 = .ok (.ireturn, 1) := by decide +kernel
theorem d_MS_detail_59 : decode b_MS_detail 59 = .ok (.aload_n 0, 1) := by decide +kernel
theorem d_MS_detail_60 : decode b_MS_detail 60 = .ok (.getfield 21, 3) := by decide +kernel
theorem d_MS_detail_63 : decode b_MS_detail 63 = .ok (.ireturn, 1) := by decide +kernel
theorem d_MS_detail_64 : decode b_MS_detail 64 = .ok (.aload_n 0, 1) := by decide +kernel
theorem d_MS_detail_65 : decode b_MS_detail 65 = .ok (.getfield 24, 3) := by decide +kernel
theorem d_MS_detail_68 : decode b_MS_detail 68 = .ok (.ireturn, 1) := by decide +kernel
theorem d_MS_detail_69 : decode b_MS_detail 69 = .ok (.aload_n 0, 1) := by decide +kernel
theorem d_MS_detail_70 : decode b_MS_detail 70 = .ok (.getfield 27, 3) := by decide +kernel
theorem d_MS_detail_73 : decode b_MS_detail 73 = .ok (.ireturn, 1) := by decide +kernel
theorem d_MS_detail_74 : decode b_MS_detail 74 = .ok (.aload_n 0, 1) := by decide +kernel
theorem d_MS_detail_75 : decode b_MS_detail 75 = .ok (.getfield 30, 3) := by decide +kernel
theorem d_MS_detail_78 : decode b_MS_detail 78 = .ok (.ireturn, 1) := by decide +kernel
theorem d_MS_detail_79 : decode b_MS_detail 79 = .ok (.iconst (-1), 1) := by decide +kernel
theorem d_MS_detail_80 : decode b_MS_detail 80 = .ok (.ireturn, 1) := by decide +kernel
theorem d_RC_init_0 : decode b_RC_init 0 = .ok (.aload_n 0, 1) := by decide +kernel
theorem d_RC_init_1 : decode b_RC_init 1 = .ok (.invokespecial 3, 3) := by decide +kernel
theorem d_RC_init_4 : decode b_RC_init 4 = .ok (.aload_n 0, 1) := by decide +kernel
theorem d_RC_init_5 : decode b_RC_init 5 = .ok (.iconst 0, 1) := by decide +kernel
theorem d_RC_init_6 : decode b_RC_init 6 = .ok (.putfield 9, 3) := by decide +kernel
theorem d_RC_init_9 : decode b_RC_init 9 = .ok (.aload_n 0, 1) := by decide +kernel
theorem d_RC_init_10 : decode b_RC_init 10 = .ok (.iconst 0, 1) := by decide +kernel
theorem d_RC_init_11 : decode b_RC_init 11 = .ok (.putfield 15, 3) := by decide +kernel
theorem d_RC_init_14 : decode b_RC_init 14 = .ok (.aload_n 0, 1) := by decide +kernel
theorem d_RC_init_15 : decode b_RC_init 15 = .ok (.iconst 0, 1) := by decide +kernel
theorem d_RC_init_16 : decode b_RC_init 16 = .ok (.putfield 18, 3) := by decide +kernel
theorem d_RC_init_19 : decode b_RC_init 19 = .ok (.aload_n 0, 1) := by decide +kernel
theorem d_RC_init_20 : decode b_RC_init 20 = .ok (.iconst 0, 1) := by decide +kernel
theorem d_RC_init_21 : decode b_RC_init 21 = .ok (.putfield 21, 3) := by decide +kernel
theorem d_RC_init_24 : decode b_RC_init 24 = .ok (.aload_n 0, 1) := by decide +kernel
theorem d_RC_init_25 : decode b_RC_init 25 = .ok (.iconst (-1), 1) := by decide +kernel
theorem d_RC_init_26 : decode b_RC_init 26 = .ok (.putfield 24, 3) := by decide +kernel
theorem d_RC_init_29 : decode b_RC_init 29 = .ok (.aload_n 0, 1) := by decide +kernel
theorem d_RC_init_30 : decode b_RC_init 30 = .ok (.iconst 0, 1) := by decide +kernel
theorem d_RC_init_31 : decode b_RC_init 31 = .ok (.putfield 27, 3) := by decide +kernel
theorem d_RC_init_34 : decode b_RC_init 34 = .ok (.aload_n 0, 1) := by decide +kernel
theorem d_RC_init_35 : decode b_RC_init 35 = .ok (.iload_n 1, 1) := by decide +kernel
theorem d_RC_init_36 : decode b_RC_init 36 = .ok (.putfield 30, 3) := by decide +kernel
theorem d_RC_init_39 : decode b_RC_init 39 = .ok (.return_, 1) := by decide +kernel
theorem d_RC_isBusy_0 : decode b_RC_isBusy 0 = .ok (.aload_n 0, 1) := by decide +kernel
theorem d_RC_isBusy_1 : decode b_RC_isBusy 1 = .ok (.getfield 9, 3) := by decide +kernel
theorem d_RC_isBusy_4 : decode b_RC_isBusy 4 = .ok (.ifCond .eq 15, 3) := by decide +kernel
theorem d_RC_isBusy_7 : decode b_RC_isBusy 7 = .ok (.aload_n 0, 1) := by decide +kernel
theorem d_RC_isBusy_8 : decode b_RC_isBusy 8 = .ok (.getfield 9, 3) := by decide +kernel
theorem d_RC_isBusy_11 : decode b_RC_isBusy 11 = .ok (.iconst 4, 1) := by decide +kernel
theorem d_RC_isBusy_12 : decode b_RC_isBusy 12 = .ok (.if_icmp .eq 7, 3) := by decide +kernel
theorem d_RC_isBusy_15 : decode b_RC_isBusy 15 = .ok (.iconst 1, 1) := by decide +kernel
theorem d_RC_isBusy_16 : decode b_RC_isBusy 16 = .ok (.goto 4, 3) := by decide +kernel
theorem d_RC_isBusy_19 : decode b_RC_isBusy 19 = .ok (.iconst 0, 1) := by decide +kernel
theorem d_RC_isBusy_20 : decode b_RC_isBusy 20 = .ok (.ireturn, 1) := by decide +kernel
theorem d_RC_awaits_0 : decode b_RC_awaits 0 = .ok (.aload_n 0, 1) := by decide +kernel
theorem d_RC_awaits_1 : decode b_RC_awaits 1 = .ok (.getfield 9, 3) := by decide +kernel
theorem d_RC_awaits_4 : decode b_RC_awaits 4 = .ok (.iload_n 1, 1) := by decide +kernel
theorem d_RC_awaits_5 : decode b_RC_awaits 5 = .ok (.if_icmp .ne 15, 3) := by decide +kernel
theorem d_RC_awaits_8 : decode b_RC_awaits 8 = .ok (.aload_n 0, 1) := by decide +kernel
theorem d_RC_awaits_9 : decode b_RC_awaits 9 = .ok (.getfield 18, 3) := by decide +kernel
theorem d_RC_awaits_12 : decode b_RC_awaits 12 = .ok (.iload_n 2, 1) := by decide +kernel
theorem d_RC_awaits_13 : decode b_RC_awaits 13 = .ok (.if_icmp .ne 7, 3) := by decide +kernel
theorem d_RC_awaits_16 : decode b_RC_awaits 16 = .ok (.iconst 1, 1) := by decide +kernel
theorem d_RC_awaits_17 : decode b_RC_awaits 17 = .ok (.goto 4, 3) := by decide +kernel
theorem d_RC_awaits_20 : decode b_RC_awaits 20 = .ok (.iconst 0, 1) := by decide +kernel
theorem d_RC_awaits_21 : decode b_RC_awaits 21 = .ok (.ireturn, 1) := by decide +kernel
theorem d_RC_beginFencing_0 : decode b_RC_beginFencing 0 = .ok (.aload_n 0, 1) := by decide +kernel
theorem d_RC_beginFencing_1 : decode b_RC_beginFencing 1 = .ok (.iload_n 1, 1) := by decide +kernel
theorem d_RC_beginFencing_2 : decode b_RC_beginFencing 2 = .ok (.putfield 15, 3) := by decide +kernel
theorem d_RC_beginFencing_5 : decode b_RC_beginFencing 5 = .ok (.aload_n 0, 1) := by decide +kernel
theorem d_RC_beginFencing_6 : decode b_RC_beginFencing 6 = .ok (.iconst 0, 1) := by decide +kernel
theorem d_RC_beginFencing_7 : decode b_RC_beginFencing 7 = .ok (.putfield 21, 3) := by decide +kernel
theorem d_RC_beginFencing_10 : decode b_RC_beginFencing 10 = .ok (.aload_n 0, 1) := by decide +kernel
theorem d_RC_beginFencing_11 : decode b_RC_beginFencing 11 = .ok (.iconst (-1), 1) := by decide +kernel
theorem d_RC_beginFencing_12 : decode b_RC_beginFencing 12 = .ok (.putfield 24, 3) := by decide +kernel
theorem d_RC_beginFencing_15 : decode b_RC_beginFencing 15 = .ok (.aload_n 0, 1) := by decide +kernel
theorem d_RC_beginFencing_16 : decode b_RC_beginFencing 16 = .ok (.iconst 1, 1) := by decide +kernel
theorem d_RC_beginFencing_17 : decode b_RC_beginFencing 17 = .ok (.putfield 9, 3) := by decide +kernel
theorem d_RC_beginFencing_20 : decode b_RC_beginFencing 20 = .ok (.return_, 1) := by decide +kernel
theorem d_RC_beginReading_0 : decode b_RC_beginReading 0 = .ok (.aload_n 0, 1) := by decide +kernel
theorem d_RC_beginReading_1 : decode b_RC_beginReading 1 = .ok (.iload_n 1, 1) := by decide +kernel
theorem d_RC_beginReading_2 : decode b_RC_beginReading 2 = .ok (.putfield 18, 3) := by decide +kernel
theorem d_RC_beginReading_5 : decode b_RC_beginReading 5 = .ok (.aload_n 0, 1) := by decide +kernel
theorem d_RC_beginReading_6 : decode b_RC_beginReading 6 = .ok (.iconst 0, 1) := by decide +kernel
theorem d_RC_beginReading_7 : decode b_RC_beginReading 7 = .ok (.putfield 21, 3) := by decide +kernel
theorem d_RC_beginReading_10 : decode b_RC_beginReading 10 = .ok (.aload_n 0, 1) := by decide +kernel
theorem d_RC_beginReading_11 : decode b_RC_beginReading 11 = .ok (.iconst 2, 1) := by decide +kernel
theorem d_RC_beginReading_12 : decode b_RC_beginReading 12 = .ok (.putfield 9, 3) := by decide +kernel
theorem d_RC_beginReading_15 : decode b_RC_beginReading 15 = .ok (.return_, 1) := by decide +kernel
theorem d_RC_beginWritingBack_0 : decode b_RC_beginWritingBack 0 = .ok (.aload_n 0, 1) := by decide +kernel
theorem d_RC_beginWritingBack_1 : decode b_RC_beginWritingBack 1 = .ok (.iload_n 1, 1) := by decide +kernel
theorem d_RC_beginWritingBack_2 : decode b_RC_beginWritingBack 2 = .ok (.putfield 27, 3) := by decide +kernel
theorem d_RC_beginWritingBack_5 : decode b_RC_beginWritingBack 5 = .ok (.aload_n 0, 1) := by decide +kernel
theorem d_RC_beginWritingBack_6 : decode b_RC_beginWritingBack 6 = .ok (.iconst 0, 1) := by decide +kernel
theorem d_RC_beginWritingBack_7 : decode b_RC_beginWritingBack 7 = .ok (.putfield 21, 3) := by decide +kernel
theorem d_RC_beginWritingBack_10 : decode b_RC_beginWritingBack 10 = .ok (.aload_n 0, 1) := by decide +kernel
theorem d_RC_beginWritingBack_11 : decode b_RC_beginWritingBack 11 = .ok (.iconst 3, 1) := by decide +kernel
theorem d_RC_beginWritingBack_12 : decode b_RC_beginWritingBack 12 = .ok (.putfield 9, 3) := by decide +kernel
theorem d_RC_beginWritingBack_15 : decode b_RC_beginWritingBack 15 = .ok (.return_, 1) := by decide +kernel
theorem d_RC_noteAnswer_0 : decode b_RC_noteAnswer 0 = .ok (.aload_n 0, 1) := by decide +kernel
theorem d_RC_noteAnswer_1 : decode b_RC_noteAnswer 1 = .ok (.dup, 1) := by decide +kernel
theorem d_RC_noteAnswer_2 : decode b_RC_noteAnswer 2 = .ok (.getfield 21, 3) := by decide +kernel
theorem d_RC_noteAnswer_5 : decode b_RC_noteAnswer 5 = .ok (.iconst 1, 1) := by decide +kernel
theorem d_RC_noteAnswer_6 : decode b_RC_noteAnswer 6 = .ok (.iload_n 1, 1) := by decide +kernel
theorem d_RC_noteAnswer_7 : decode b_RC_noteAnswer 7 = .ok (.ishl, 1) := by decide +kernel
theorem d_RC_noteAnswer_8 : decode b_RC_noteAnswer 8 = .ok (.ior, 1) := by decide +kernel
theorem d_RC_noteAnswer_9 : decode b_RC_noteAnswer 9 = .ok (.putfield 21, 3) := by decide +kernel
theorem d_RC_noteAnswer_12 : decode b_RC_noteAnswer 12 = .ok (.return_, 1) := by decide +kernel
theorem d_JI_bitCount_0 : decode b_JI_bitCount 0 = .ok (.iload_n 0, 1) := by decide +kernel
theorem d_JI_bitCount_1 : decode b_JI_bitCount 1 = .ok (.iload_n 0, 1) := by decide +kernel
theorem d_JI_bitCount_2 : decode b_JI_bitCount 2 = .ok (.iconst 1, 1) := by decide +kernel
theorem d_JI_bitCount_3 : decode b_JI_bitCount 3 = .ok (.iushr, 1) := by decide +kernel
theorem d_JI_bitCount_4 : decode b_JI_bitCount 4 = .ok (.ldc_w 265, 3) := by decide +kernel
theorem d_JI_bitCount_7 : decode b_JI_bitCount 7 = .ok (.iand, 1) := by decide +kernel
theorem d_JI_bitCount_8 : decode b_JI_bitCount 8 = .ok (.isub, 1) := by decide +kernel
theorem d_JI_bitCount_9 : decode b_JI_bitCount 9 = .ok (.istore_n 0, 1) := by decide +kernel
theorem d_JI_bitCount_10 : decode b_JI_bitCount 10 = .ok (.iload_n 0, 1) := by decide +kernel
theorem d_JI_bitCount_11 : decode b_JI_bitCount 11 = .ok (.ldc_w 266, 3) := by decide +kernel
theorem d_JI_bitCount_14 : decode b_JI_bitCount 14 = .ok (.iand, 1) := by decide +kernel
theorem d_JI_bitCount_15 : decode b_JI_bitCount 15 = .ok (.iload_n 0, 1) := by decide +kernel
theorem d_JI_bitCount_16 : decode b_JI_bitCount 16 = .ok (.iconst 2, 1) := by decide +kernel
theorem d_JI_bitCount_17 : decode b_JI_bitCount 17 = .ok (.iushr, 1) := by decide +kernel
theorem d_JI_bitCount_18 : decode b_JI_bitCount 18 = .ok (.ldc_w 266, 3) := by decide +kernel
theorem d_JI_bitCount_21 : decode b_JI_bitCount 21 = .ok (.iand, 1) := by decide +kernel
theorem d_JI_bitCount_22 : decode b_JI_bitCount 22 = .ok (.iadd, 1) := by decide +kernel
theorem d_JI_bitCount_23 : decode b_JI_bitCount 23 = .ok (.istore_n 0, 1) := by decide +kernel
theorem d_JI_bitCount_24 : decode b_JI_bitCount 24 = .ok (.iload_n 0, 1) := by decide +kernel
theorem d_JI_bitCount_25 : decode b_JI_bitCount 25 = .ok (.iload_n 0, 1) := by decide +kernel
theorem d_JI_bitCount_26 : decode b_JI_bitCount 26 = .ok (.iconst 4, 1) := by decide +kernel
theorem d_JI_bitCount_27 : decode b_JI_bitCount 27 = .ok (.iushr, 1) := by decide +kernel
theorem d_JI_bitCount_28 : decode b_JI_bitCount 28 = .ok (.iadd, 1) := by decide +kernel
theorem d_JI_bitCount_29 : decode b_JI_bitCount 29 = .ok (.ldc_w 267, 3) := by decide +kernel
theorem d_JI_bitCount_32 : decode b_JI_bitCount 32 = .ok (.iand, 1) := by decide +kernel
theorem d_JI_bitCount_33 : decode b_JI_bitCount 33 = .ok (.istore_n 0, 1) := by decide +kernel
theorem d_JI_bitCount_34 : decode b_JI_bitCount 34 = .ok (.iload_n 0, 1) := by decide +kernel
theorem d_JI_bitCount_35 : decode b_JI_bitCount 35 = .ok (.iload_n 0, 1) := by decide +kernel
theorem d_JI_bitCount_36 : decode b_JI_bitCount 36 = .ok (.bipush 8, 2) := by decide +kernel
theorem d_JI_bitCount_38 : decode b_JI_bitCount 38 = .ok (.iushr, 1) := by decide +kernel
theorem d_JI_bitCount_39 : decode b_JI_bitCount 39 = .ok (.iadd, 1) := by decide +kernel
theorem d_JI_bitCount_40 : decode b_JI_bitCount 40 = .ok (.istore_n 0, 1) := by decide +kernel
theorem d_JI_bitCount_41 : decode b_JI_bitCount 41 = .ok (.iload_n 0, 1) := by decide +kernel
theorem d_JI_bitCount_42 : decode b_JI_bitCount 42 = .ok (.iload_n 0, 1) := by decide +kernel
theorem d_JI_bitCount_43 : decode b_JI_bitCount 43 = .ok (.bipush 16, 2) := by decide +kernel
theorem d_JI_bitCount_45 : decode b_JI_bitCount 45 = .ok (.iushr, 1) := by decide +kernel
theorem d_JI_bitCount_46 : decode b_JI_bitCount 46 = .ok (.iadd, 1) := by decide +kernel
theorem d_JI_bitCount_47 : decode b_JI_bitCount 47 = .ok (.istore_n 0, 1) := by decide +kernel
theorem d_JI_bitCount_48 : decode b_JI_bitCount 48 = .ok (.iload_n 0, 1) := by decide +kernel
theorem d_JI_bitCount_49 : decode b_JI_bitCount 49 = .ok (.bipush 63, 2) := by decide +kernel
theorem d_JI_bitCount_51 : decode b_JI_bitCount 51 = .ok (.iand, 1) := by decide +kernel
theorem d_JI_bitCount_52 : decode b_JI_bitCount 52 = .ok (.ireturn, 1) := by decide +kernel
theorem d_RC_countAnswered_0 : decode b_RC_countAnswered 0 = .ok (.aload_n 0, 1) := by decide +kernel
theorem d_RC_countAnswered_1 : decode b_RC_countAnswered 1 = .ok (.getfield 21, 3) := by decide +kernel
theorem d_RC_countAnswered_4 : decode b_RC_countAnswered 4 = .ok (.invokestatic 33, 3) := by decide +kernel
theorem d_RC_countAnswered_7 : decode b_RC_countAnswered 7 = .ok (.ireturn, 1) := by decide +kernel
theorem d_RC_detail_0 : decode b_RC_detail 0 = .ok (.iload_n 1, 1) := by decide +kernel
theorem d_RC_detail_1 : decode b_RC_detail 1 = .ok (.tableswitch 60 0 4 #[35, 40, 45, 50, 55], 35) := by decide +kernel
theorem d_RC_detail_36 : decode b_RC_detail 36 = .ok (.aload_n 0, 1) := by decide +kernel
theorem d_RC_detail_37 : decode b_RC_detail 37 = .ok (.getfield 9, 3) := by decide +kernel
theorem d_RC_detail_40 : decode b_RC_detail 40 = .ok (.ireturn, 1) := by decide +kernel
theorem d_RC_detail_41 : decode b_RC_detail 41 = .ok (.aload_n 0, 1) := by decide +kernel
theorem d_RC_detail_42 : decode b_RC_detail 42 = .ok (.getfield 15, 3) := by decide +kernel
theorem d_RC_detail_45 : decode b_RC_detail 45 = .ok (.ireturn, 1) := by decide +kernel
theorem d_RC_detail_46 : decode b_RC_detail 46 = .ok (.aload_n 0, 1) := by decide +kernel
theorem d_RC_detail_47 : decode b_RC_detail 47 = .ok (.getfield 18, 3) := by decide +kernel
theorem d_RC_detail_50 : decode b_RC_detail 50 = .ok (.ireturn, 1) := by decide +kernel
theorem d_RC_detail_51 : decode b_RC_detail 51 = .ok (.aload_n 0, 1) := by decide +kernel
theorem d_RC_detail_52 : decode b_RC_detail 52 = .ok (.invokevirtual 39, 3) := by decide +kernel
theorem d_RC_detail_55 : decode b_RC_detail 55 = .ok (.ireturn, 1) := by decide +kernel
theorem d_RC_detail_56 : decode b_RC_detail 56 = .ok (.aload_n 0, 1) := by decide +kernel
theorem d_RC_detail_57 : decode b_RC_detail 57 = .ok (.getfield 24, 3) := by decide +kernel
theorem d_RC_detail_60 : decode b_RC_detail 60 = .ok (.ireturn, 1) := by decide +kernel
theorem d_RC_detail_61 : decode b_RC_detail 61 = .ok (.iconst (-1), 1) := by decide +kernel
theorem d_RC_detail_62 : decode b_RC_detail 62 = .ok (.ireturn, 1) := by decide +kernel
theorem d_ST_init_0 : decode b_ST_init 0 = .ok (.aload_n 0, 1) := by decide +kernel
theorem d_ST_init_1 : decode b_ST_init 1 = .ok (.invokespecial 3, 3) := by decide +kernel
theorem d_ST_init_4 : decode b_ST_init 4 = .ok (.aload_n 0, 1) := by decide +kernel
theorem d_ST_init_5 : decode b_ST_init 5 = .ok (.bipush 20, 2) := by decide +kernel
theorem d_ST_init_7 : decode b_ST_init 7 = .ok (.newarray .boolean, 2) := by decide +kernel
theorem d_ST_init_9 : decode b_ST_init 9 = .ok (.putfield 9, 3) := by decide +kernel
theorem d_ST_init_12 : decode b_ST_init 12 = .ok (.aload_n 0, 1) := by decide +kernel
theorem d_ST_init_13 : decode b_ST_init 13 = .ok (.bipush 20, 2) := by decide +kernel
theorem d_ST_init_15 : decode b_ST_init 15 = .ok (.newarray .int, 2) := by decide +kernel
theorem d_ST_init_17 : decode b_ST_init 17 = .ok (.putfield 15, 3) := by decide +kernel
theorem d_ST_init_20 : decode b_ST_init 20 = .ok (.aload_n 0, 1) := by decide +kernel
theorem d_ST_init_21 : decode b_ST_init 21 = .ok (.iconst 1, 1) := by decide +kernel
theorem d_ST_init_22 : decode b_ST_init 22 = .ok (.putfield 19, 3) := by decide +kernel
theorem d_ST_init_25 : decode b_ST_init 25 = .ok (.aload_n 0, 1) := by decide +kernel
theorem d_ST_init_26 : decode b_ST_init 26 = .ok (.iconst 0, 1) := by decide +kernel
theorem d_ST_init_27 : decode b_ST_init 27 = .ok (.putfield 23, 3) := by decide +kernel
theorem d_ST_init_30 : decode b_ST_init 30 = .ok (.aload_n 0, 1) := by decide +kernel
theorem d_ST_init_31 : decode b_ST_init 31 = .ok (.iconst (-1), 1) := by decide +kernel
theorem d_ST_init_32 : decode b_ST_init 32 = .ok (.putfield 26, 3) := by decide +kernel
theorem d_ST_init_35 : decode b_ST_init 35 = .ok (.aload_n 0, 1) := by decide +kernel
theorem d_ST_init_36 : decode b_ST_init 36 = .ok (.iconst 0, 1) := by decide +kernel
theorem d_ST_init_37 : decode b_ST_init 37 = .ok (.putfield 30, 3) := by decide +kernel
theorem d_ST_init_40 : decode b_ST_init 40 = .ok (.return_, 1) := by decide +kernel
theorem d_ST_keep_0 : decode b_ST_keep 0 = .ok (.aload_n 0, 1) := by decide +kernel
theorem d_ST_keep_1 : decode b_ST_keep 1 = .ok (.getfield 9, 3) := by decide +kernel
theorem d_ST_keep_4 : decode b_ST_keep 4 = .ok (.iload_n 1, 1) := by decide +kernel
theorem d_ST_keep_5 : decode b_ST_keep 5 = .ok (.baload, 1) := by decide +kernel
theorem d_ST_keep_6 : decode b_ST_keep 6 = .ok (.ifCond .ne 20, 3) := by decide +kernel
theorem d_ST_keep_9 : decode b_ST_keep 9 = .ok (.aload_n 0, 1) := by decide +kernel
theorem d_ST_keep_10 : decode b_ST_keep 10 = .ok (.getfield 9, 3) := by decide +kernel
theorem d_ST_keep_13 : decode b_ST_keep 13 = .ok (.iload_n 1, 1) := by decide +kernel
theorem d_ST_keep_14 : decode b_ST_keep 14 = .ok (.iconst 1, 1) := by decide +kernel
theorem d_ST_keep_15 : decode b_ST_keep 15 = .ok (.bastore, 1) := by decide +kernel
theorem d_ST_keep_16 : decode b_ST_keep 16 = .ok (.aload_n 0, 1) := by decide +kernel
theorem d_ST_keep_17 : decode b_ST_keep 17 = .ok (.dup, 1) := by decide +kernel
theorem d_ST_keep_18 : decode b_ST_keep 18 = .ok (.getfield 30, 3) := by decide +kernel
theorem d_ST_keep_21 : decode b_ST_keep 21 = .ok (.iconst 1, 1) := by decide +kernel
theorem d_ST_keep_22 : decode b_ST_keep 22 = .ok (.iadd, 1) := by decide +kernel
theorem d_ST_keep_23 : decode b_ST_keep 23 = .ok (.putfield 30, 3) := by decide +kernel
theorem d_ST_keep_26 : decode b_ST_keep 26 = .ok (.aload_n 0, 1) := by decide +kernel
theorem d_ST_keep_27 : decode b_ST_keep 27 = .ok (.getfield 15, 3) := by decide +kernel
theorem d_ST_keep_30 : decode b_ST_keep 30 = .ok (.iload_n 1, 1) := by decide +kernel
theorem d_ST_keep_31 : decode b_ST_keep 31 = .ok (.iload_n 2, 1) := by decide +kernel
theorem d_ST_keep_32 : decode b_ST_keep 32 = .ok (.iastore, 1) := by decide +kernel
theorem d_ST_keep_33 : decode b_ST_keep 33 = .ok (.aload_n 0, 1) := by decide +kernel
theorem d_ST_keep_34 : decode b_ST_keep 34 = .ok (.aload_n 0, 1) := by decide +kernel
theorem d_ST_keep_35 : decode b_ST_keep 35 = .ok (.getfield 26, 3) := by decide +kernel
theorem d_ST_keep_38 : decode b_ST_keep 38 = .ok (.iload_n 3, 1) := by decide +kernel
theorem d_ST_keep_39 : decode b_ST_keep 39 = .ok (.invokestatic 33, 3) := by decide +kernel
theorem d_ST_keep_42 : decode b_ST_keep 42 = .ok (.putfield 26, 3) := by decide +kernel
theorem d_ST_keep_45 : decode b_ST_keep 45 = .ok (.return_, 1) := by decide +kernel
theorem d_ST_detail_0 : decode b_ST_detail 0 = .ok (.iload_n 1, 1) := by decide +kernel
theorem d_ST_detail_1 : decode b_ST_detail 1 = .ok (.tableswitch 67 0 3 #[31, 44, 57, 62], 31) := by decide +kernel
theorem d_ST_detail_32 : decode b_ST_detail 32 = .ok (.aload_n 0, 1) := by decide +kernel
theorem d_ST_detail_33 : decode b_ST_detail 33 = .ok (.getfield 19, 3) := by decide +kernel
theorem d_ST_detail_36 : decode b_ST_detail 36 = .ok (.ifCond .eq 7, 3) := by decide +kernel
theorem d_ST_detail_39 : decode b_ST_detail 39 = .ok (.iconst 1, 1) := by decide +kernel
theorem d_ST_detail_40 : decode b_ST_detail 40 = .ok (.goto 4, 3) := by decide +kernel
theorem d_ST_detail_43 : decode b_ST_detail 43 = .ok (.iconst 0, 1) := by decide +kernel
theorem d_ST_detail_44 : decode b_ST_detail 44 = .ok (.ireturn, 1) := by decide +kernel
theorem d_ST_detail_45 : decode b_ST_detail 45 = .ok (.aload_n 0, 1) := by decide +kernel
theorem d_ST_detail_46 : decode b_ST_detail 46 = .ok (.getfield 23, 3) := by decide +kernel
theorem d_ST_detail_49 : decode b_ST_detail 49 = .ok (.ifCond .eq 7, 3) := by decide +kernel
theorem d_ST_detail_52 : decode b_ST_detail 52 = .ok (.iconst 1, 1) := by decide +kernel
theorem d_ST_detail_53 : decode b_ST_detail 53 = .ok (.goto 4, 3) := by decide +kernel
theorem d_ST_detail_56 : decode b_ST_detail 56 = .ok (.iconst 0, 1) := by decide +kernel
theorem d_ST_detail_57 : decode b_ST_detail 57 = .ok (.ireturn, 1) := by decide +kernel
theorem d_ST_detail_58 : decode b_ST_detail 58 = .ok (.aload_n 0, 1) := by decide +kernel
theorem d_ST_detail_59 : decode b_ST_detail 59 = .ok (.getfield 26, 3) := by decide +kernel
theorem d_ST_detail_62 : decode b_ST_detail 62 = .ok (.ireturn, 1) := by decide +kernel
theorem d_ST_detail_63 : decode b_ST_detail 63 = .ok (.aload_n 0, 1) := by decide +kernel
theorem d_ST_detail_64 : decode b_ST_detail 64 = .ok (.getfield 30, 3) := by decide +kernel
theorem d_ST_detail_67 : decode b_ST_detail 67 = .ok (.ireturn, 1) := by decide +kernel
theorem d_ST_detail_68 : decode b_ST_detail 68 = .ok (.iconst (-1), 1) := by decide +kernel
theorem d_ST_detail_69 : decode b_ST_detail 69 = .ok (.ireturn, 1) := by decide +kernel
theorem d_WR_init_0 : decode b_WR_init 0 = .ok (.aload_n 0, 1) := by decide +kernel
theorem d_WR_init_1 : decode b_WR_init 1 = .ok (.invokespecial 3, 3) := by decide +kernel
theorem d_WR_init_4 : decode b_WR_init 4 = .ok (.aload_n 0, 1) := by decide +kernel
theorem d_WR_init_5 : decode b_WR_init 5 = .ok (.bipush 20, 2) := by decide +kernel
theorem d_WR_init_7 : decode b_WR_init 7 = .ok (.newarray .int, 2) := by decide +kernel
theorem d_WR_init_9 : decode b_WR_init 9 = .ok (.putfield 9, 3) := by decide +kernel
theorem d_WR_init_12 : decode b_WR_init 12 = .ok (.aload_n 0, 1) := by decide +kernel
theorem d_WR_init_13 : decode b_WR_init 13 = .ok (.bipush 20, 2) := by decide +kernel
theorem d_WR_init_15 : decode b_WR_init 15 = .ok (.newarray .int, 2) := by decide +kernel
theorem d_WR_init_17 : decode b_WR_init 17 = .ok (.putfield 15, 3) := by decide +kernel
theorem d_WR_init_20 : decode b_WR_init 20 = .ok (.aload_n 0, 1) := by decide +kernel
theorem d_WR_init_21 : decode b_WR_init 21 = .ok (.iconst 0, 1) := by decide +kernel
theorem d_WR_init_22 : decode b_WR_init 22 = .ok (.putfield 18, 3) := by decide +kernel
theorem d_WR_init_25 : decode b_WR_init 25 = .ok (.aload_n 0, 1) := by decide +kernel
theorem d_WR_init_26 : decode b_WR_init 26 = .ok (.iconst 0, 1) := by decide +kernel
theorem d_WR_init_27 : decode b_WR_init 27 = .ok (.putfield 22, 3) := by decide +kernel
theorem d_WR_init_30 : decode b_WR_init 30 = .ok (.aload_n 0, 1) := by decide +kernel
theorem d_WR_init_31 : decode b_WR_init 31 = .ok (.iconst (-1), 1) := by decide +kernel
theorem d_WR_init_32 : decode b_WR_init 32 = .ok (.putfield 25, 3) := by decide +kernel
theorem d_WR_init_35 : decode b_WR_init 35 = .ok (.return_, 1) := by decide +kernel
theorem d_WR_isFull_0 : decode b_WR_isFull 0 = .ok (.aload_n 0, 1) := by decide +kernel
theorem d_WR_isFull_1 : decode b_WR_isFull 1 = .ok (.getfield 22, 3) := by decide +kernel
theorem d_WR_isFull_4 : decode b_WR_isFull 4 = .ok (.bipush 20, 2) := by decide +kernel
theorem d_WR_isFull_6 : decode b_WR_isFull 6 = .ok (.if_icmp .ge 18, 3) := by decide +kernel
theorem d_WR_isFull_9 : decode b_WR_isFull 9 = .ok (.aload_n 0, 1) := by decide +kernel
theorem d_WR_isFull_10 : decode b_WR_isFull 10 = .ok (.getfield 22, 3) := by decide +kernel
theorem d_WR_isFull_13 : decode b_WR_isFull 13 = .ok (.aload_n 0, 1) := by decide +kernel
theorem d_WR_isFull_14 : decode b_WR_isFull 14 = .ok (.getfield 25, 3) := by decide +kernel
theorem d_WR_isFull_17 : decode b_WR_isFull 17 = .ok (.iconst 1, 1) := by decide +kernel
theorem d_WR_isFull_18 : decode b_WR_isFull 18 = .ok (.iadd, 1) := by decide +kernel
theorem d_WR_isFull_19 : decode b_WR_isFull 19 = .ok (.isub, 1) := by decide +kernel
theorem d_WR_isFull_20 : decode b_WR_isFull 20 = .ok (.iconst 4, 1) := by decide +kernel
theorem d_WR_isFull_21 : decode b_WR_isFull 21 = .ok (.if_icmp .lt 7, 3) := by decide +kernel
theorem d_WR_isFull_24 : decode b_WR_isFull 24 = .ok (.iconst 1, 1) := by decide +kernel
theorem d_WR_isFull_25 : decode b_WR_isFull 25 = .ok (.goto 4, 3) := by decide +kernel
