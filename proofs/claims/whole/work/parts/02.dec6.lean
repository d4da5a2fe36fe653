theorem d_MD_hears_10 : decode b_MD_hears 10 = .ok (.if_icmp .ne 8, 3) := by decide +kernel
theorem d_MD_hears_13 : decode b_MD_hears 13 = .ok (.aload_n 0, 1) := by decide +kernel
theorem d_MD_hears_14 : decode b_MD_hears 14 = .ok (.iconst 1, 1) := by decide +kernel
theorem d_MD_hears_15 : decode b_MD_hears 15 = .ok (.putfield 102, 3) := by decide +kernel
theorem d_MD_hears_18 : decode b_MD_hears 18 = .ok (.iload_n 1, 1) := by decide +kernel
theorem d_MD_hears_19 : decode b_MD_hears 19 = .ok (.iconst 3, 1) := by decide +kernel
theorem d_MD_hears_20 : decode b_MD_hears 20 = .ok (.if_icmp .eq 4, 3) := by decide +kernel
theorem d_MD_hears_23 : decode b_MD_hears 23 = .ok (.return_, 1) := by decide +kernel
theorem d_MD_hears_24 : decode b_MD_hears 24 = .ok (.aload_n 0, 1) := by decide +kernel
theorem d_MD_hears_25 : decode b_MD_hears 25 = .ok (.getfield 39, 3) := by decide +kernel
theorem d_MD_hears_28 : decode b_MD_hears 28 = .ok (.bipush 20, 2) := by decide +kernel
theorem d_MD_hears_30 : decode b_MD_hears 30 = .ok (.iload_n 2, 1) := by decide +kernel
theorem d_MD_hears_31 : decode b_MD_hears 31 = .ok (.imul, 1) := by decide +kernel
theorem d_MD_hears_32 : decode b_MD_hears 32 = .ok (.iload_n 3, 1) := by decide +kernel
theorem d_MD_hears_33 : decode b_MD_hears 33 = .ok (.iadd, 1) := by decide +kernel
theorem d_MD_hears_34 : decode b_MD_hears 34 = .ok (.iconst 1, 1) := by decide +kernel
theorem d_MD_hears_35 : decode b_MD_hears 35 = .ok (.bastore, 1) := by decide +kernel
theorem d_MD_hears_36 : decode b_MD_hears 36 = .ok (.iconst 1, 1) := by decide +kernel
theorem d_MD_hears_37 : decode b_MD_hears 37 = .ok (.istore 4, 2) := by decide +kernel
theorem d_MD_hears_39 : decode b_MD_hears 39 = .ok (.iconst 0, 1) := by decide +kernel
theorem d_MD_hears_40 : decode b_MD_hears 40 = .ok (.istore 5, 2) := by decide +kernel
theorem d_MD_hears_42 : decode b_MD_hears 42 = .ok (.iload 5, 2) := by decide +kernel
theorem d_MD_hears_44 : decode b_MD_hears 44 = .ok (.bipush 20, 2) := by decide +kernel
theorem d_MD_hears_46 : decode b_MD_hears 46 = .ok (.if_icmp .ge 87, 3) := by decide +kernel
theorem d_MD_hears_49 : decode b_MD_hears 49 = .ok (.iload 4, 2) := by decide +kernel
theorem d_MD_hears_51 : decode b_MD_hears 51 = .ok (.ifCond .eq 82, 3) := by decide +kernel
theorem d_MD_hears_54 : decode b_MD_hears 54 = .ok (.aload_n 0, 1) := by decide +kernel
theorem d_MD_hears_55 : decode b_MD_hears 55 = .ok (.getfield 33, 3) := by decide +kernel
theorem d_MD_hears_58 : decode b_MD_hears 58 = .ok (.iconst 1, 1) := by decide +kernel
theorem d_MD_hears_59 : decode b_MD_hears 59 = .ok (.iadd, 1) := by decide +kernel
theorem d_MD_hears_60 : decode b_MD_hears 60 = .ok (.aload_n 0, 1) := by decide +kernel
theorem d_MD_hears_61 : decode b_MD_hears 61 = .ok (.getfield 105, 3) := by decide +kernel
theorem d_MD_hears_64 : decode b_MD_hears 64 = .ok (.if_icmp .ge 41, 3) := by decide +kernel
theorem d_MD_hears_67 : decode b_MD_hears 67 = .ok (.aload_n 0, 1) := by decide +kernel
theorem d_MD_hears_68 : decode b_MD_hears 68 = .ok (.aload_n 0, 1) := by decide +kernel
theorem d_MD_hears_69 : decode b_MD_hears 69 = .ok (.getfield 33, 3) := by decide +kernel
theorem d_MD_hears_72 : decode b_MD_hears 72 = .ok (.iconst 1, 1) := by decide +kernel
theorem d_MD_hears_73 : decode b_MD_hears 73 = .ok (.iadd, 1) := by decide +kernel
theorem d_MD_hears_74 : decode b_MD_hears 74 = .ok (.aload_n 0, 1) := by decide +kernel
theorem d_MD_hears_75 : decode b_MD_hears 75 = .ok (.getfield 105, 3) := by decide +kernel
theorem d_MD_hears_78 : decode b_MD_hears 78 = .ok (.if_icmp .ge 12, 3) := by decide +kernel
theorem d_MD_hears_81 : decode b_MD_hears 81 = .ok (.aload_n 0, 1) := by decide +kernel
theorem d_MD_hears_82 : decode b_MD_hears 82 = .ok (.getfield 33, 3) := by decide +kernel
theorem d_MD_hears_85 : decode b_MD_hears 85 = .ok (.iconst 1, 1) := by decide +kernel
theorem d_MD_hears_86 : decode b_MD_hears 86 = .ok (.iadd, 1) := by decide +kernel
theorem d_MD_hears_87 : decode b_MD_hears 87 = .ok (.goto 4, 3) := by decide +kernel
theorem d_MD_hears_90 : decode b_MD_hears 90 = .ok (.iconst 0, 1) := by decide +kernel
theorem d_MD_hears_91 : decode b_MD_hears 91 = .ok (.invokevirtual 108, 3) := by decide +kernel
theorem d_MD_hears_94 : decode b_MD_hears 94 = .ok (.aload_n 0, 1) := by decide +kernel
theorem d_MD_hears_95 : decode b_MD_hears 95 = .ok (.getfield 66, 3) := by decide +kernel
theorem d_MD_hears_98 : decode b_MD_hears 98 = .ok (.if_icmp .lt 7, 3) := by decide +kernel
theorem d_MD_hears_101 : decode b_MD_hears 101 = .ok (.iconst 1, 1) := by decide +kernel
theorem d_MD_hears_102 : decode b_MD_hears 102 = .ok (.goto 4, 3) := by decide +kernel
theorem d_MD_hears_105 : decode b_MD_hears 105 = .ok (.iconst 0, 1) := by decide +kernel
theorem d_MD_hears_106 : decode b_MD_hears 106 = .ok (.istore 4, 2) := by decide +kernel
theorem d_MD_hears_108 : decode b_MD_hears 108 = .ok (.aload_n 0, 1) := by decide +kernel
theorem d_MD_hears_109 : decode b_MD_hears 109 = .ok (.dup, 1) := by decide +kernel
theorem d_MD_hears_110 : decode b_MD_hears 110 = .ok (.getfield 33, 3) := by decide +kernel
theorem d_MD_hears_113 : decode b_MD_hears 113 = .ok (.iload 4, 2) := by decide +kernel
theorem d_MD_hears_115 : decode b_MD_hears 115 = .ok (.ifCond .eq 7, 3) := by decide +kernel
theorem d_MD_hears_118 : decode b_MD_hears 118 = .ok (.iconst 1, 1) := by decide +kernel
theorem d_MD_hears_119 : decode b_MD_hears 119 = .ok (.goto 4, 3) := by decide +kernel
theorem d_MD_hears_122 : decode b_MD_hears 122 = .ok (.iconst 0, 1) := by decide +kernel
theorem d_MD_hears_123 : decode b_MD_hears 123 = .ok (.iadd, 1) := by decide +kernel
theorem d_MD_hears_124 : decode b_MD_hears 124 = .ok (.putfield 33, 3) := by decide +kernel
theorem d_MD_hears_127 : decode b_MD_hears 127 = .ok (.iinc 5 1, 3) := by decide +kernel
theorem d_MD_hears_130 : decode b_MD_hears 130 = .ok (.goto (-88), 3) := by decide +kernel
theorem d_MD_hears_133 : decode b_MD_hears 133 = .ok (.return_, 1) := by decide +kernel
theorem d_MD_fence_0 : decode b_MD_fence 0 = .ok (.aload_n 0, 1) := by decide +kernel
theorem d_MD_fence_1 : decode b_MD_fence 1 = .ok (.getfield 13, 3) := by decide +kernel
theorem d_MD_fence_4 : decode b_MD_fence 4 = .ok (.iload_n 3, 1) := by decide +kernel
theorem d_MD_fence_5 : decode b_MD_fence 5 = .ok (.iconst 1, 1) := by decide +kernel
theorem d_MD_fence_6 : decode b_MD_fence 6 = .ok (.bastore, 1) := by decide +kernel
theorem d_MD_fence_7 : decode b_MD_fence 7 = .ok (.iload_n 1, 1) := by decide +kernel
theorem d_MD_fence_8 : decode b_MD_fence 8 = .ok (.iconst 1, 1) := by decide +kernel
theorem d_MD_fence_9 : decode b_MD_fence 9 = .ok (.if_icmp .ne 23, 3) := by decide +kernel
theorem d_MD_fence_12 : decode b_MD_fence 12 = .ok (.aload_n 0, 1) := by decide +kernel
theorem d_MD_fence_13 : decode b_MD_fence 13 = .ok (.iconst 5, 1) := by decide +kernel
theorem d_MD_fence_14 : decode b_MD_fence 14 = .ok (.iload_n 2, 1) := by decide +kernel
theorem d_MD_fence_15 : decode b_MD_fence 15 = .ok (.iload_n 3, 1) := by decide +kernel
theorem d_MD_fence_16 : decode b_MD_fence 16 = .ok (.iconst 0, 1) := by decide +kernel
theorem d_MD_fence_17 : decode b_MD_fence 17 = .ok (.aload_n 0, 1) := by decide +kernel
theorem d_MD_fence_18 : decode b_MD_fence 18 = .ok (.getfield 16, 3) := by decide +kernel
theorem d_MD_fence_21 : decode b_MD_fence 21 = .ok (.iload_n 3, 1) := by decide +kernel
theorem d_MD_fence_22 : decode b_MD_fence 22 = .ok (.iaload, 1) := by decide +kernel
theorem d_MD_fence_23 : decode b_MD_fence 23 = .ok (.iload 5, 2) := by decide +kernel
theorem d_MD_fence_25 : decode b_MD_fence 25 = .ok (.iconst 0, 1) := by decide +kernel
theorem d_MD_fence_26 : decode b_MD_fence 26 = .ok (.invokevirtual 98, 3) := by decide +kernel
theorem d_MD_fence_29 : decode b_MD_fence 29 = .ok (.goto 60, 3) := by decide +kernel
theorem d_MD_fence_32 : decode b_MD_fence 32 = .ok (.aload_n 0, 1) := by decide +kernel
theorem d_MD_fence_33 : decode b_MD_fence 33 = .ok (.getfield 20, 3) := by decide +kernel
theorem d_MD_fence_36 : decode b_MD_fence 36 = .ok (.bipush 20, 2) := by decide +kernel
theorem d_MD_fence_38 : decode b_MD_fence 38 = .ok (.iload_n 3, 1) := by decide +kernel
theorem d_MD_fence_39 : decode b_MD_fence 39 = .ok (.imul, 1) := by decide +kernel
theorem d_MD_fence_40 : decode b_MD_fence 40 = .ok (.iload 4, 2) := by decide +kernel
theorem d_MD_fence_42 : decode b_MD_fence 42 = .ok (.iadd, 1) := by decide +kernel
theorem d_MD_fence_43 : decode b_MD_fence 43 = .ok (.baload, 1) := by decide +kernel
theorem d_MD_fence_44 : decode b_MD_fence 44 = .ok (.ifCond .eq 31, 3) := by decide +kernel
theorem d_MD_fence_47 : decode b_MD_fence 47 = .ok (.aload_n 0, 1) := by decide +kernel
theorem d_MD_fence_48 : decode b_MD_fence 48 = .ok (.bipush 6, 2) := by decide +kernel
theorem d_MD_fence_50 : decode b_MD_fence 50 = .ok (.iload_n 2, 1) := by decide +kernel
theorem d_MD_fence_51 : decode b_MD_fence 51 = .ok (.iload_n 3, 1) := by decide +kernel
theorem d_MD_fence_52 : decode b_MD_fence 52 = .ok (.iload 4, 2) := by decide +kernel
theorem d_MD_fence_54 : decode b_MD_fence 54 = .ok (.aload_n 0, 1) := by decide +kernel
theorem d_MD_fence_55 : decode b_MD_fence 55 = .ok (.getfield 23, 3) := by decide +kernel
theorem d_MD_fence_58 : decode b_MD_fence 58 = .ok (.bipush 20, 2) := by decide +kernel
theorem d_MD_fence_60 : decode b_MD_fence 60 = .ok (.iload_n 3, 1) := by decide +kernel
theorem d_MD_fence_61 : decode b_MD_fence 61 = .ok (.imul, 1) := by decide +kernel
theorem d_MD_fence_62 : decode b_MD_fence 62 = .ok (.iload 4, 2) := by decide +kernel
theorem d_MD_fence_64 : decode b_MD_fence 64 = .ok (.iadd, 1) := by decide +kernel
theorem d_MD_fence_65 : decode b_MD_fence 65 = .ok (.iaload, 1) := by decide +kernel
theorem d_MD_fence_66 : decode b_MD_fence 66 = .ok (.iload 5, 2) := by decide +kernel
theorem d_MD_fence_68 : decode b_MD_fence 68 = .ok (.iconst 0, 1) := by decide +kernel
theorem d_MD_fence_69 : decode b_MD_fence 69 = .ok (.invokevirtual 98, 3) := by decide +kernel
theorem d_MD_fence_72 : decode b_MD_fence 72 = .ok (.goto 17, 3) := by decide +kernel
theorem d_MD_fence_75 : decode b_MD_fence 75 = .ok (.aload_n 0, 1) := by decide +kernel
theorem d_MD_fence_76 : decode b_MD_fence 76 = .ok (.bipush 7, 2) := by decide +kernel
theorem d_MD_fence_78 : decode b_MD_fence 78 = .ok (.iload_n 2, 1) := by decide +kernel
theorem d_MD_fence_79 : decode b_MD_fence 79 = .ok (.iload_n 3, 1) := by decide +kernel
theorem d_MD_fence_80 : decode b_MD_fence 80 = .ok (.iload 4, 2) := by decide +kernel
theorem d_MD_fence_82 : decode b_MD_fence 82 = .ok (.iconst 0, 1) := by decide +kernel
theorem d_MD_fence_83 : decode b_MD_fence 83 = .ok (.iload 5, 2) := by decide +kernel
theorem d_MD_fence_85 : decode b_MD_fence 85 = .ok (.iconst 0, 1) := by decide +kernel
theorem d_MD_fence_86 : decode b_MD_fence 86 = .ok (.invokevirtual 98, 3) := by decide +kernel
theorem d_MD_fence_89 : decode b_MD_fence 89 = .ok (.return_, 1) := by decide +kernel
theorem d_MD_keep_0 : decode b_MD_keep 0 = .ok (.iload_n 1, 1) := by decide +kernel
theorem d_MD_keep_1 : decode b_MD_keep 1 = .ok (.ifCond .ne 24, 3) := by decide +kernel
theorem d_MD_keep_4 : decode b_MD_keep 4 = .ok (.aload_n 0, 1) := by decide +kernel
theorem d_MD_keep_5 : decode b_MD_keep 5 = .ok (.getfield 13, 3) := by decide +kernel
theorem d_MD_keep_8 : decode b_MD_keep 8 = .ok (.iload_n 2, 1) := by decide +kernel
theorem d_MD_keep_9 : decode b_MD_keep 9 = .ok (.baload, 1) := by decide +kernel
theorem d_MD_keep_10 : decode b_MD_keep 10 = .ok (.ifCond .eq 15, 3) := by decide +kernel
theorem d_MD_keep_13 : decode b_MD_keep 13 = .ok (.aload_n 0, 1) := by decide +kernel
theorem d_MD_keep_14 : decode b_MD_keep 14 = .ok (.iconst 4, 1) := by decide +kernel
theorem d_MD_keep_15 : decode b_MD_keep 15 = .ok (.iload_n 1, 1) := by decide +kernel
theorem d_MD_keep_16 : decode b_MD_keep 16 = .ok (.iload_n 2, 1) := by decide +kernel
theorem d_MD_keep_17 : decode b_MD_keep 17 = .ok (.iload_n 3, 1) := by decide +kernel
theorem d_MD_keep_18 : decode b_MD_keep 18 = .ok (.iconst 0, 1) := by decide +kernel
theorem d_MD_keep_19 : decode b_MD_keep 19 = .ok (.iconst 0, 1) := by decide +kernel
theorem d_MD_keep_20 : decode b_MD_keep 20 = .ok (.iconst 0, 1) := by decide +kernel
theorem d_MD_keep_21 : decode b_MD_keep 21 = .ok (.invokevirtual 98, 3) := by decide +kernel
theorem d_MD_keep_24 : decode b_MD_keep 24 = .ok (.return_, 1) := by decide +kernel
theorem d_MD_keep_25 : decode b_MD_keep 25 = .ok (.aload_n 0, 1) := by decide +kernel
theorem d_MD_keep_26 : decode b_MD_keep 26 = .ok (.getfield 20, 3) := by decide +kernel
theorem d_MD_keep_29 : decode b_MD_keep 29 = .ok (.bipush 20, 2) := by decide +kernel
theorem d_MD_keep_31 : decode b_MD_keep 31 = .ok (.iload_n 2, 1) := by decide +kernel
theorem d_MD_keep_32 : decode b_MD_keep 32 = .ok (.imul, 1) := by decide +kernel
theorem d_MD_keep_33 : decode b_MD_keep 33 = .ok (.iload_n 3, 1) := by decide +kernel
theorem d_MD_keep_34 : decode b_MD_keep 34 = .ok (.iadd, 1) := by decide +kernel
theorem d_MD_keep_35 : decode b_MD_keep 35 = .ok (.iconst 1, 1) := by decide +kernel
theorem d_MD_keep_36 : decode b_MD_keep 36 = .ok (.bastore, 1) := by decide +kernel
theorem d_MD_keep_37 : decode b_MD_keep 37 = .ok (.aload_n 0, 1) := by decide +kernel
theorem d_MD_keep_38 : decode b_MD_keep 38 = .ok (.getfield 23, 3) := by decide +kernel
theorem d_MD_keep_41 : decode b_MD_keep 41 = .ok (.bipush 20, 2) := by decide +kernel
theorem d_MD_keep_43 : decode b_MD_keep 43 = .ok (.iload_n 2, 1) := by decide +kernel
theorem d_MD_keep_44 : decode b_MD_keep 44 = .ok (.imul, 1) := by decide +kernel
theorem d_MD_keep_45 : decode b_MD_keep 45 = .ok (.iload_n 3, 1) := by decide +kernel
theorem d_MD_keep_46 : decode b_MD_keep 46 = .ok (.iadd, 1) := by decide +kernel
theorem d_MD_keep_47 : decode b_MD_keep 47 = .ok (.iload 4, 2) := by decide +kernel
theorem d_MD_keep_49 : decode b_MD_keep 49 = .ok (.iastore, 1) := by decide +kernel
theorem d_MD_keep_50 : decode b_MD_keep 50 = .ok (.aload_n 0, 1) := by decide +kernel
theorem d_MD_keep_51 : decode b_MD_keep 51 = .ok (.getfield 16, 3) := by decide +kernel
theorem d_MD_keep_54 : decode b_MD_keep 54 = .ok (.iload_n 2, 1) := by decide +kernel
theorem d_MD_keep_55 : decode b_MD_keep 55 = .ok (.iload 6, 2) := by decide +kernel
theorem d_MD_keep_57 : decode b_MD_keep 57 = .ok (.aload_n 0, 1) := by decide +kernel
theorem d_MD_keep_58 : decode b_MD_keep 58 = .ok (.getfield 16, 3) := by decide +kernel
theorem d_MD_keep_61 : decode b_MD_keep 61 = .ok (.iload_n 2, 1) := by decide +kernel
theorem d_MD_keep_62 : decode b_MD_keep 62 = .ok (.iaload, 1) := by decide +kernel
theorem d_MD_keep_63 : decode b_MD_keep 63 = .ok (.if_icmp .le 8, 3) := by decide +kernel
theorem d_MD_keep_66 : decode b_MD_keep 66 = .ok (.iload 6, 2) := by decide +kernel
theorem d_MD_keep_68 : decode b_MD_keep 68 = .ok (.goto 9, 3) := by decide +kernel
theorem d_MD_keep_71 : decode b_MD_keep 71 = .ok (.aload_n 0, 1) := by decide +kernel
theorem d_MD_keep_72 : decode b_MD_keep 72 = .ok (.getfield 16, 3) := by decide +kernel
theorem d_MD_keep_75 : decode b_MD_keep 75 = .ok (.iload_n 2, 1) := by decide +kernel
theorem d_MD_keep_76 : decode b_MD_keep 76 = .ok (.iaload, 1) := by decide +kernel
theorem d_MD_keep_77 : decode b_MD_keep 77 = .ok (.iastore, 1) := by decide +kernel
theorem d_MD_keep_78 : decode b_MD_keep 78 = .ok (.aload_n 0, 1) := by decide +kernel
theorem d_MD_keep_79 : decode b_MD_keep 79 = .ok (.iconst 3, 1) := by decide +kernel
theorem d_MD_keep_80 : decode b_MD_keep 80 = .ok (.iload_n 1, 1) := by decide +kernel
theorem d_MD_keep_81 : decode b_MD_keep 81 = .ok (.iload_n 2, 1) := by decide +kernel
theorem d_MD_keep_82 : decode b_MD_keep 82 = .ok (.iload_n 3, 1) := by decide +kernel
theorem d_MD_keep_83 : decode b_MD_keep 83 = .ok (.iconst 0, 1) := by decide +kernel
theorem d_MD_keep_84 : decode b_MD_keep 84 = .ok (.iload 5, 2) := by decide +kernel
theorem d_MD_keep_86 : decode b_MD_keep 86 = .ok (.iconst 0, 1) := by decide +kernel
theorem d_MD_keep_87 : decode b_MD_keep 87 = .ok (.invokevirtual 98, 3) := by decide +kernel
theorem d_MD_keep_90 : decode b_MD_keep 90 = .ok (.return_, 1) := by decide +kernel
theorem d_MD_deliver_0 : decode b_MD_deliver 0 = .ok (.aload_n 0, 1) := by decide +kernel
theorem d_MD_deliver_1 : decode b_MD_deliver 1 = .ok (.iconst 0, 1) := by decide +kernel
theorem d_MD_deliver_2 : decode b_MD_deliver 2 = .ok (.putfield 69, 3) := by decide +kernel
theorem d_MD_deliver_5 : decode b_MD_deliver 5 = .ok (.aload_n 0, 1) := by decide +kernel
theorem d_MD_deliver_6 : decode b_MD_deliver 6 = .ok (.iload_n 1, 1) := by decide +kernel
theorem d_MD_deliver_7 : decode b_MD_deliver 7 = .ok (.invokevirtual 75, 3) := by decide +kernel
theorem d_MD_deliver_10 : decode b_MD_deliver 10 = .ok (.ifCond .ne 5, 3) := by decide +kernel
theorem d_MD_deliver_13 : decode b_MD_deliver 13 = .ok (.iconst (-1), 1) := by decide +kernel
theorem d_MD_deliver_14 : decode b_MD_deliver 14 = .ok (.ireturn, 1) := by decide +kernel
theorem d_MD_deliver_15 : decode b_MD_deliver 15 = .ok (.bipush 7, 2) := by decide +kernel
theorem d_MD_deliver_17 : decode b_MD_deliver 17 = .ok (.iload_n 1, 1) := by decide +kernel
theorem d_MD_deliver_18 : decode b_MD_deliver 18 = .ok (.imul, 1) := by decide +kernel
theorem d_MD_deliver_19 : decode b_MD_deliver 19 = .ok (.istore_n 2, 1) := by decide +kernel
theorem d_MD_deliver_20 : decode b_MD_deliver 20 = .ok (.aload_n 0, 1) := by decide +kernel
theorem d_MD_deliver_21 : decode b_MD_deliver 21 = .ok (.getfield 30, 3) := by decide +kernel
theorem d_MD_deliver_24 : decode b_MD_deliver 24 = .ok (.iload_n 2, 1) := by decide +kernel
theorem d_MD_deliver_25 : decode b_MD_deliver 25 = .ok (.iaload, 1) := by decide +kernel
theorem d_MD_deliver_26 : decode b_MD_deliver 26 = .ok (.istore_n 3, 1) := by decide +kernel
theorem d_MD_deliver_27 : decode b_MD_deliver 27 = .ok (.aload_n 0, 1) := by decide +kernel
theorem d_MD_deliver_28 : decode b_MD_deliver 28 = .ok (.getfield 30, 3) := by decide +kernel
theorem d_MD_deliver_31 : decode b_MD_deliver 31 = .ok (.iload_n 2, 1) := by decide +kernel
theorem d_MD_deliver_32 : decode b_MD_deliver 32 = .ok (.iconst 1, 1) := by decide +kernel
theorem d_MD_deliver_33 : decode b_MD_deliver 33 = .ok (.iadd, 1) := by decide +kernel
theorem d_MD_deliver_34 : decode b_MD_deliver 34 = .ok (.iaload, 1) := by decide +kernel
theorem d_MD_deliver_35 : decode b_MD_deliver 35 = .ok (.istore 4, 2) := by decide +kernel
theorem d_MD_deliver_37 : decode b_MD_deliver 37 = .ok (.aload_n 0, 1) := by decide +kernel
theorem d_MD_deliver_38 : decode b_MD_deliver 38 = .ok (.getfield 30, 3) := by decide +kernel
theorem d_MD_deliver_41 : decode b_MD_deliver 41 = .ok (.iload_n 2, 1) := by decide +kernel
theorem d_MD_deliver_42 : decode b_MD_deliver 42 = .ok (.iconst 2, 1) := by decide +kernel
theorem d_MD_deliver_43 : decode b_MD_deliver 43 = .ok (.iadd, 1) := by decide +kernel
theorem d_MD_deliver_44 : decode b_MD_deliver 44 = .ok (.iaload, 1) := by decide +kernel
theorem d_MD_deliver_45 : decode b_MD_deliver 45 = .ok (.istore 5, 2) := by decide +kernel
theorem d_MD_deliver_47 : decode b_MD_deliver 47 = .ok (.aload_n 0, 1) := by decide +kernel
theorem d_MD_deliver_48 : decode b_MD_deliver 48 = .ok (.getfield 30, 3) := by decide +kernel
theorem d_MD_deliver_51 : decode b_MD_deliver 51 = .ok (.iload_n 2, 1) := by decide +kernel
theorem d_MD_deliver_52 : decode b_MD_deliver 52 = .ok (.iconst 3, 1) := by decide +kernel
theorem d_MD_deliver_53 : decode b_MD_deliver 53 = .ok (.iadd, 1) := by decide +kernel
theorem d_MD_deliver_54 : decode b_MD_deliver 54 = .ok (.iaload, 1) := by decide +kernel
theorem d_MD_deliver_55 : decode b_MD_deliver 55 = .ok (.istore 6, 2) := by decide +kernel
theorem d_MD_deliver_57 : decode b_MD_deliver 57 = .ok (.aload_n 0, 1) := by decide +kernel
theorem d_MD_deliver_58 : decode b_MD_deliver 58 = .ok (.getfield 30, 3) := by decide +kernel
theorem d_MD_deliver_61 : decode b_MD_deliver 61 = .ok (.iload_n 2, 1) := by decide +kernel
theorem d_MD_deliver_62 : decode b_MD_deliver 62 = .ok (.iconst 4, 1) := by decide +kernel
theorem d_MD_deliver_63 : decode b_MD_deliver 63 = .ok (.iadd, 1) := by decide +kernel
theorem d_MD_deliver_64 : decode b_MD_deliver 64 = .ok (.iaload, 1) := by decide +kernel
theorem d_MD_deliver_65 : decode b_MD_deliver 65 = .ok (.istore 7, 2) := by decide +kernel
theorem d_MD_deliver_67 : decode b_MD_deliver 67 = .ok (.aload_n 0, 1) := by decide +kernel
theorem d_MD_deliver_68 : decode b_MD_deliver 68 = .ok (.getfield 30, 3) := by decide +kernel
theorem d_MD_deliver_71 : decode b_MD_deliver 71 = .ok (.iload_n 2, 1) := by decide +kernel
theorem d_MD_deliver_72 : decode b_MD_deliver 72 = .ok (.iconst 5, 1) := by decide +kernel
theorem d_MD_deliver_73 : decode b_MD_deliver 73 = .ok (.iadd, 1) := by decide +kernel
theorem d_MD_deliver_74 : decode b_MD_deliver 74 = .ok (.iaload, 1) := by decide +kernel
theorem d_MD_deliver_75 : decode b_MD_deliver 75 = .ok (.istore 8, 2) := by decide +kernel
theorem d_MD_deliver_77 : decode b_MD_deliver 77 = .ok (.aload_n 0, 1) := by decide +kernel
theorem d_MD_deliver_78 : decode b_MD_deliver 78 = .ok (.getfield 30, 3) := by decide +kernel
theorem d_MD_deliver_81 : decode b_MD_deliver 81 = .ok (.iload_n 2, 1) := by decide +kernel
theorem d_MD_deliver_82 : decode b_MD_deliver 82 = .ok (.bipush 6, 2) := by decide +kernel
theorem d_MD_deliver_84 : decode b_MD_deliver 84 = .ok (.iadd, 1) := by decide +kernel
theorem d_MD_deliver_85 : decode b_MD_deliver 85 = .ok (.iaload, 1) := by decide +kernel
theorem d_MD_deliver_86 : decode b_MD_deliver 86 = .ok (.istore 9, 2) := by decide +kernel
theorem d_MD_deliver_88 : decode b_MD_deliver 88 = .ok (.aload_n 0, 1) := by decide +kernel
theorem d_MD_deliver_89 : decode b_MD_deliver 89 = .ok (.iload_n 1, 1) := by decide +kernel
theorem d_MD_deliver_90 : decode b_MD_deliver 90 = .ok (.invokevirtual 79, 3) := by decide +kernel
theorem d_MD_deliver_93 : decode b_MD_deliver 93 = .ok (.iload_n 3, 1) := by decide +kernel
theorem d_MD_deliver_94 : decode b_MD_deliver 94 = .ok (.ifCond .ne 32, 3) := by decide +kernel
theorem d_MD_deliver_97 : decode b_MD_deliver 97 = .ok (.aload_n 0, 1) := by decide +kernel
theorem d_MD_deliver_98 : decode b_MD_deliver 98 = .ok (.getfield 7, 3) := by decide +kernel
theorem d_MD_deliver_101 : decode b_MD_deliver 101 = .ok (.iload 5, 2) := by decide +kernel
theorem d_MD_deliver_103 : decode b_MD_deliver 103 = .ok (.baload, 1) := by decide +kernel
theorem d_MD_deliver_104 : decode b_MD_deliver 104 = .ok (.ifCond .ne 22, 3) := by decide +kernel
theorem d_MD_deliver_107 : decode b_MD_deliver 107 = .ok (.aload_n 0, 1) := by decide +kernel
theorem d_MD_deliver_108 : decode b_MD_deliver 108 = .ok (.iload 4, 2) := by decide +kernel
theorem d_MD_deliver_110 : decode b_MD_deliver 110 = .ok (.iload 5, 2) := by decide +kernel
theorem d_MD_deliver_112 : decode b_MD_deliver 112 = .ok (.iload 6, 2) := by decide +kernel
theorem d_MD_deliver_114 : decode b_MD_deliver 114 = .ok (.iload 7, 2) := by decide +kernel
theorem d_MD_deliver_116 : decode b_MD_deliver 116 = .ok (.iload 8, 2) := by decide +kernel
theorem d_MD_deliver_118 : decode b_MD_deliver 118 = .ok (.iload 9, 2) := by decide +kernel
theorem d_MD_deliver_120 : decode b_MD_deliver 120 = .ok (.invokevirtual 83, 3) := by decide +kernel
theorem d_MD_deliver_123 : decode b_MD_deliver 123 = .ok (.goto 86, 3) := by decide +kernel
theorem d_MD_deliver_126 : decode b_MD_deliver 126 = .ok (.iload_n 3, 1) := by decide +kernel
theorem d_MD_deliver_127 : decode b_MD_deliver 127 = .ok (.iconst 3, 1) := by decide +kernel
theorem d_MD_deliver_128 : decode b_MD_deliver 128 = .ok (.if_icmp .ge 29, 3) := by decide +kernel
theorem d_MD_deliver_131 : decode b_MD_deliver 131 = .ok (.aload_n 0, 1) := by decide +kernel
theorem d_MD_deliver_132 : decode b_MD_deliver 132 = .ok (.getfield 7, 3) := by decide +kernel
theorem d_MD_deliver_135 : decode b_MD_deliver 135 = .ok (.iload 5, 2) := by decide +kernel
theorem d_MD_deliver_137 : decode b_MD_deliver 137 = .ok (.baload, 1) := by decide +kernel
theorem d_MD_deliver_138 : decode b_MD_deliver 138 = .ok (.ifCond .ne 19, 3) := by decide +kernel
theorem d_MD_deliver_141 : decode b_MD_deliver 141 = .ok (.aload_n 0, 1) := by decide +kernel
theorem d_MD_deliver_142 : decode b_MD_deliver 142 = .ok (.iload_n 3, 1) := by decide +kernel
theorem d_MD_deliver_143 : decode b_MD_deliver 143 = .ok (.iload 4, 2) := by decide +kernel
theorem d_MD_deliver_145 : decode b_MD_deliver 145 = .ok (.iload 5, 2) := by decide +kernel
theorem d_MD_deliver_147 : decode b_MD_deliver 147 = .ok (.iload 6, 2) := by decide +kernel
theorem d_MD_deliver_149 : decode b_MD_deliver 149 = .ok (.iload 8, 2) := by decide +kernel
theorem d_MD_deliver_151 : decode b_MD_deliver 151 = .ok (.invokevirtual 87, 3) := by decide +kernel
theorem d_MD_deliver_154 : decode b_MD_deliver 154 = .ok (.goto 55, 3) := by decide +kernel
theorem d_MD_deliver_157 : decode b_MD_deliver 157 = .ok (.iload_n 3, 1) := by decide +kernel
theorem d_MD_deliver_158 : decode b_MD_deliver 158 = .ok (.iconst 3, 1) := by decide +kernel
theorem d_MD_deliver_159 : decode b_MD_deliver 159 = .ok (.if_icmp .lt 20, 3) := by decide +kernel
theorem d_MD_deliver_162 : decode b_MD_deliver 162 = .ok (.iload 4, 2) := by decide +kernel
theorem d_MD_deliver_164 : decode b_MD_deliver 164 = .ok (.ifCond .ne 15, 3) := by decide +kernel
theorem d_MD_deliver_167 : decode b_MD_deliver 167 = .ok (.aload_n 0, 1) := by decide +kernel
theorem d_MD_deliver_168 : decode b_MD_deliver 168 = .ok (.iload_n 3, 1) := by decide +kernel
theorem d_MD_deliver_169 : decode b_MD_deliver 169 = .ok (.iload 5, 2) := by decide +kernel
theorem d_MD_deliver_171 : decode b_MD_deliver 171 = .ok (.iload 6, 2) := by decide +kernel
theorem d_MD_deliver_173 : decode b_MD_deliver 173 = .ok (.invokevirtual 91, 3) := by decide +kernel
theorem d_MD_deliver_176 : decode b_MD_deliver 176 = .ok (.goto 33, 3) := by decide +kernel
theorem d_MD_deliver_179 : decode b_MD_deliver 179 = .ok (.iload_n 3, 1) := by decide +kernel
theorem d_MD_deliver_180 : decode b_MD_deliver 180 = .ok (.iconst 3, 1) := by decide +kernel
theorem d_MD_deliver_181 : decode b_MD_deliver 181 = .ok (.if_icmp .lt 28, 3) := by decide +kernel
theorem d_MD_deliver_184 : decode b_MD_deliver 184 = .ok (.iload 8, 2) := by decide +kernel
theorem d_MD_deliver_186 : decode b_MD_deliver 186 = .ok (.aload_n 0, 1) := by decide +kernel
theorem d_MD_deliver_187 : decode b_MD_deliver 187 = .ok (.getfield 45, 3) := by decide +kernel
theorem d_MD_deliver_190 : decode b_MD_deliver 190 = .ok (.iload 4, 2) := by decide +kernel
theorem d_MD_deliver_192 : decode b_MD_deliver 192 = .ok (.iaload, 1) := by decide +kernel
theorem d_MD_deliver_193 : decode b_MD_deliver 193 = .ok (.if_icmp .ne 16, 3) := by decide +kernel
theorem d_MD_deliver_196 : decode b_MD_deliver 196 = .ok (.aload_n 0, 1) := by decide +kernel
theorem d_MD_deliver_197 : decode b_MD_deliver 197 = .ok (.iload_n 3, 1) := by decide +kernel
theorem d_MD_deliver_198 : decode b_MD_deliver 198 = .ok (.iload 4, 2) := by decide +kernel
theorem d_MD_deliver_200 : decode b_MD_deliver 200 = .ok (.iload 5, 2) := by decide +kernel
theorem d_MD_deliver_202 : decode b_MD_deliver 202 = .ok (.iload 6, 2) := by decide +kernel
theorem d_MD_deliver_204 : decode b_MD_deliver 204 = .ok (.iload 7, 2) := by decide +kernel
theorem d_MD_deliver_206 : decode b_MD_deliver 206 = .ok (.invokevirtual 95, 3) := by decide +kernel
theorem d_MD_deliver_209 : decode b_MD_deliver 209 = .ok (.iload_n 3, 1) := by decide +kernel
theorem d_MD_deliver_210 : decode b_MD_deliver 210 = .ok (.ireturn, 1) := by decide +kernel
theorem d_MD_lose_0 : decode b_MD_lose 0 = .ok (.aload_n 0, 1) := by decide +kernel
theorem d_MD_lose_1 : decode b_MD_lose 1 = .ok (.iconst 0, 1) := by decide +kernel
theorem d_MD_lose_2 : decode b_MD_lose 2 = .ok (.putfield 69, 3) := by decide +kernel
theorem d_MD_lose_5 : decode b_MD_lose 5 = .ok (.aload_n 0, 1) := by decide +kernel
theorem d_MD_lose_6 : decode b_MD_lose 6 = .ok (.iload_n 1, 1) := by decide +kernel
theorem d_MD_lose_7 : decode b_MD_lose 7 = .ok (.invokevirtual 75, 3) := by decide +kernel
theorem d_MD_lose_10 : decode b_MD_lose 10 = .ok (.ifCond .ne 5, 3) := by decide +kernel
theorem d_MD_lose_13 : decode b_MD_lose 13 = .ok (.iconst 0, 1) := by decide +kernel
theorem d_MD_lose_14 : decode b_MD_lose 14 = .ok (.ireturn, 1) := by decide +kernel
theorem d_MD_lose_15 : decode b_MD_lose 15 = .ok (.aload_n 0, 1) := by decide +kernel
theorem d_MD_lose_16 : decode b_MD_lose 16 = .ok (.iload_n 1, 1) := by decide +kernel
theorem d_MD_lose_17 : decode b_MD_lose 17 = .ok (.invokevirtual 79, 3) := by decide +kernel
theorem d_MD_lose_20 : decode b_MD_lose 20 = .ok (.iconst 1, 1) := by decide +kernel
theorem d_MD_lose_21 : decode b_MD_lose 21 = .ok (.ireturn, 1) := by decide +kernel
theorem d_MD_flight_0 : decode b_MD_flight 0 = .ok (.aload_n 0, 1) := by decide +kernel
theorem d_MD_flight_1 : decode b_MD_flight 1 = .ok (.iconst 0, 1) := by decide +kernel
theorem d_MD_flight_2 : decode b_MD_flight 2 = .ok (.putfield 69, 3) := by decide +kernel
theorem d_MD_flight_5 : decode b_MD_flight 5 = .ok (.aload_n 0, 1) := by decide +kernel
theorem d_MD_flight_6 : decode b_MD_flight 6 = .ok (.getfield 72, 3) := by decide +kernel
theorem d_MD_flight_9 : decode b_MD_flight 9 = .ok (.ireturn, 1) := by decide +kernel
theorem d_MD_message_0 : decode b_MD_message 0 = .ok (.aload_n 0, 1) := by decide +kernel
theorem d_MD_message_1 : decode b_MD_message 1 = .ok (.iconst 0, 1) := by decide +kernel
theorem d_MD_message_2 : decode b_MD_message 2 = .ok (.putfield 69, 3) := by decide +kernel
theorem d_MD_message_5 : decode b_MD_message 5 = .ok (.aload_n 0, 1) := by decide +kernel
theorem d_MD_message_6 : decode b_MD_message 6 = .ok (.iload_n 1, 1) := by decide +kernel
theorem d_MD_message_7 : decode b_MD_message 7 = .ok (.invokevirtual 75, 3) := by decide +kernel
theorem d_MD_message_10 : decode b_MD_message 10 = .ok (.ifCond .eq 27, 3) := by decide +kernel
theorem d_MD_message_13 : decode b_MD_message 13 = .ok (.iload_n 2, 1) := by decide +kernel
theorem d_MD_message_14 : decode b_MD_message 14 = .ok (.ifCond .lt 23, 3) := by decide +kernel
theorem d_MD_message_17 : decode b_MD_message 17 = .ok (.iload_n 2, 1) := by decide +kernel
theorem d_MD_message_18 : decode b_MD_message 18 = .ok (.bipush 7, 2) := by decide +kernel
theorem d_MD_message_20 : decode b_MD_message 20 = .ok (.if_icmp .ge 17, 3) := by decide +kernel
theorem d_MD_message_23 : decode b_MD_message 23 = .ok (.aload_n 0, 1) := by decide +kernel
theorem d_MD_message_24 : decode b_MD_message 24 = .ok (.getfield 30, 3) := by decide +kernel
theorem d_MD_message_27 : decode b_MD_message 27 = .ok (.bipush 7, 2) := by decide +kernel
theorem d_MD_message_29 : decode b_MD_message 29 = .ok (.iload_n 1, 1) := by decide +kernel
theorem d_MD_message_30 : decode b_MD_message 30 = .ok (.imul, 1) := by decide +kernel
theorem d_MD_message_31 : decode b_MD_message 31 = .ok (.iload_n 2, 1) := by decide +kernel
theorem d_MD_message_32 : decode b_MD_message 32 = .ok (.iadd, 1) := by decide +kernel
theorem d_MD_message_33 : decode b_MD_message 33 = .ok (.iaload, 1) := by decide +kernel
theorem d_MD_message_34 : decode b_MD_message 34 = .ok (.goto 4, 3) := by decide +kernel
theorem d_MD_message_37 : decode b_MD_message 37 = .ok (.iconst (-1), 1) := by decide +kernel
theorem d_MD_message_38 : decode b_MD_message 38 = .ok (.ireturn, 1) := by decide +kernel
theorem d_MD_spread_0 : decode b_MD_spread 0 = .ok (.iconst 0, 1) := by decide +kernel
theorem d_MD_spread_1 : decode b_MD_spread 1 = .ok (.istore_n 2, 1) := by decide +kernel
theorem d_MD_spread_2 : decode b_MD_spread 2 = .ok (.iconst 0, 1) := by decide +kernel
theorem d_MD_spread_3 : decode b_MD_spread 3 = .ok (.istore_n 3, 1) := by decide +kernel
theorem d_MD_spread_4 : decode b_MD_spread 4 = .ok (.iload_n 3, 1) := by decide +kernel
theorem d_MD_spread_5 : decode b_MD_spread 5 = .ok (.aload_n 0, 1) := by decide +kernel
theorem d_MD_spread_6 : decode b_MD_spread 6 = .ok (.getfield 63, 3) := by decide +kernel
theorem d_MD_spread_9 : decode b_MD_spread 9 = .ok (.if_icmp .ge 57, 3) := by decide +kernel
theorem d_MD_spread_12 : decode b_MD_spread 12 = .ok (.iload_n 1, 1) := by decide +kernel
theorem d_MD_spread_13 : decode b_MD_spread 13 = .ok (.iload_n 3, 1) := by decide +kernel
theorem d_MD_spread_14 : decode b_MD_spread 14 = .ok (.iadd, 1) := by decide +kernel
theorem d_MD_spread_15 : decode b_MD_spread 15 = .ok (.aload_n 0, 1) := by decide +kernel
theorem d_MD_spread_16 : decode b_MD_spread 16 = .ok (.getfield 60, 3) := by decide +kernel
theorem d_MD_spread_19 : decode b_MD_spread 19 = .ok (.irem, 1) := by decide +kernel
theorem d_MD_spread_20 : decode b_MD_spread 20 = .ok (.istore 4, 2) := by decide +kernel
theorem d_MD_spread_22 : decode b_MD_spread 22 = .ok (.aload_n 0, 1) := by decide +kernel
theorem d_MD_spread_23 : decode b_MD_spread 23 = .ok (.getfield 39, 3) := by decide +kernel
theorem d_MD_spread_26 : decode b_MD_spread 26 = .ok (.bipush 20, 2) := by decide +kernel
theorem d_MD_spread_28 : decode b_MD_spread 28 = .ok (.iload 4, 2) := by decide +kernel
theorem d_MD_spread_30 : decode b_MD_spread 30 = .ok (.imul, 1) := by decide +kernel
theorem d_MD_spread_31 : decode b_MD_spread 31 = .ok (.iload_n 1, 1) := by decide +kernel
theorem d_MD_spread_32 : decode b_MD_spread 32 = .ok (.iadd, 1) := by decide +kernel
theorem d_MD_spread_33 : decode b_MD_spread 33 = .ok (.baload, 1) := by decide +kernel
theorem d_MD_spread_34 : decode b_MD_spread 34 = .ok (.ifCond .ne 26, 3) := by decide +kernel
theorem d_MD_spread_37 : decode b_MD_spread 37 = .ok (.aload_n 0, 1) := by decide +kernel
theorem d_MD_spread_38 : decode b_MD_spread 38 = .ok (.iconst 0, 1) := by decide +kernel
theorem d_MD_spread_39 : decode b_MD_spread 39 = .ok (.iconst 0, 1) := by decide +kernel
theorem d_MD_spread_40 : decode b_MD_spread 40 = .ok (.iload 4, 2) := by decide +kernel
theorem d_MD_spread_42 : decode b_MD_spread 42 = .ok (.iload_n 1, 1) := by decide +kernel
theorem d_MD_spread_43 : decode b_MD_spread 43 = .ok (.aload_n 0, 1) := by decide +kernel
theorem d_MD_spread_44 : decode b_MD_spread 44 = .ok (.getfield 36, 3) := by decide +kernel
theorem d_MD_spread_47 : decode b_MD_spread 47 = .ok (.iload_n 1, 1) := by decide +kernel
theorem d_MD_spread_48 : decode b_MD_spread 48 = .ok (.iaload, 1) := by decide +kernel
theorem d_MD_spread_49 : decode b_MD_spread 49 = .ok (.iconst 0, 1) := by decide +kernel
theorem d_MD_spread_50 : decode b_MD_spread 50 = .ok (.aload_n 0, 1) := by decide +kernel
theorem d_MD_spread_51 : decode b_MD_spread 51 = .ok (.getfield 33, 3) := by decide +kernel
theorem d_MD_spread_54 : decode b_MD_spread 54 = .ok (.invokevirtual 98, 3) := by decide +kernel
theorem d_MD_spread_57 : decode b_MD_spread 57 = .ok (.iinc 2 1, 3) := by decide +kernel
theorem d_MD_spread_60 : decode b_MD_spread 60 = .ok (.iinc 3 1, 3) := by decide +kernel
theorem d_MD_spread_63 : decode b_MD_spread 63 = .ok (.goto (-59), 3) := by decide +kernel
theorem d_MD_spread_66 : decode b_MD_spread 66 = .ok (.iload_n 2, 1) := by decide +kernel
theorem d_MD_spread_67 : decode b_MD_spread 67 = .ok (.ireturn, 1) := by decide +kernel
theorem d_MD_add_0 : decode b_MD_add 0 = .ok (.aload_n 0, 1) := by decide +kernel
theorem d_MD_add_1 : decode b_MD_add 1 = .ok (.aload_n 0, 1) := by decide +kernel
theorem d_MD_add_2 : decode b_MD_add 2 = .ok (.getfield 102, 3) := by decide +kernel
theorem d_MD_add_5 : decode b_MD_add 5 = .ok (.ifCond .eq 7, 3) := by decide +kernel
theorem d_MD_add_8 : decode b_MD_add 8 = .ok (.iconst 1, 1) := by decide +kernel
theorem d_MD_add_9 : decode b_MD_add 9 = .ok (.goto 32, 3) := by decide +kernel
theorem d_MD_add_12 : decode b_MD_add 12 = .ok (.aload_n 0, 1) := by decide +kernel
theorem d_MD_add_13 : decode b_MD_add 13 = .ok (.getfield 105, 3) := by decide +kernel
theorem d_MD_add_16 : decode b_MD_add 16 = .ok (.bipush 20, 2) := by decide +kernel
theorem d_MD_add_18 : decode b_MD_add 18 = .ok (.if_icmp .eq 18, 3) := by decide +kernel
theorem d_MD_add_21 : decode b_MD_add 21 = .ok (.aload_n 0, 1) := by decide +kernel
theorem d_MD_add_22 : decode b_MD_add 22 = .ok (.getfield 105, 3) := by decide +kernel
theorem d_MD_add_25 : decode b_MD_add 25 = .ok (.iconst 1, 1) := by decide +kernel
theorem d_MD_add_26 : decode b_MD_add 26 = .ok (.isub, 1) := by decide +kernel
theorem d_MD_add_27 : decode b_MD_add 27 = .ok (.aload_n 0, 1) := by decide +kernel
theorem d_MD_add_28 : decode b_MD_add 28 = .ok (.getfield 33, 3) := by decide +kernel
theorem d_MD_add_31 : decode b_MD_add 31 = .ok (.isub, 1) := by decide +kernel
theorem d_MD_add_32 : decode b_MD_add 32 = .ok (.iconst 4, 1) := by decide +kernel
theorem d_MD_add_33 : decode b_MD_add 33 = .ok (.if_icmp .lt 7, 3) := by decide +kernel
theorem d_MD_add_36 : decode b_MD_add 36 = .ok (.iconst 2, 1) := by decide +kernel
theorem d_MD_add_37 : decode b_MD_add 37 = .ok (.goto 4, 3) := by decide +kernel
theorem d_MD_add_40 : decode b_MD_add 40 = .ok (.iconst 0, 1) := by decide +kernel
theorem d_MD_add_41 : decode b_MD_add 41 = .ok (.putfield 69, 3) := by decide +kernel
theorem d_MD_add_44 : decode b_MD_add 44 = .ok (.aload_n 0, 1) := by decide +kernel
theorem d_MD_add_45 : decode b_MD_add 45 = .ok (.getfield 69, 3) := by decide +kernel
theorem d_MD_add_48 : decode b_MD_add 48 = .ok (.ifCond .le 5, 3) := by decide +kernel
theorem d_MD_add_51 : decode b_MD_add 51 = .ok (.iconst 0, 1) := by decide +kernel
theorem d_MD_add_52 : decode b_MD_add 52 = .ok (.ireturn, 1) := by decide +kernel
theorem d_MD_add_53 : decode b_MD_add 53 = .ok (.aload_n 0, 1) := by decide +kernel
theorem d_MD_add_54 : decode b_MD_add 54 = .ok (.getfield 105, 3) := by decide +kernel
theorem d_MD_add_57 : decode b_MD_add 57 = .ok (.istore_n 2, 1) := by decide +kernel
theorem d_MD_add_58 : decode b_MD_add 58 = .ok (.aload_n 0, 1) := by decide +kernel
theorem d_MD_add_59 : decode b_MD_add 59 = .ok (.getfield 36, 3) := by decide +kernel
theorem d_MD_add_62 : decode b_MD_add 62 = .ok (.iload_n 2, 1) := by decide +kernel
theorem d_MD_add_63 : decode b_MD_add 63 = .ok (.iload_n 1, 1) := by decide +kernel
theorem d_MD_add_64 : decode b_MD_add 64 = .ok (.iastore, 1) := by decide +kernel
theorem d_MD_add_65 : decode b_MD_add 65 = .ok (.aload_n 0, 1) := by decide +kernel
theorem d_MD_add_66 : decode b_MD_add 66 = .ok (.dup, 1) := by decide +kernel
theorem d_MD_add_67 : decode b_MD_add 67 = .ok (.getfield 105, 3) := by decide +kernel
theorem d_MD_add_70 : decode b_MD_add 70 = .ok (.iconst 1, 1) := by decide +kernel
theorem d_MD_add_71 : decode b_MD_add 71 = .ok (.iadd, 1) := by decide +kernel
theorem d_MD_add_72 : decode b_MD_add 72 = .ok (.putfield 105, 3) := by decide +kernel
theorem d_MD_add_75 : decode b_MD_add 75 = .ok (.aload_n 0, 1) := by decide +kernel
theorem d_MD_add_76 : decode b_MD_add 76 = .ok (.iload_n 2, 1) := by decide +kernel
theorem d_MD_add_77 : decode b_MD_add 77 = .ok (.invokevirtual 112, 3) := by decide +kernel
theorem d_MD_add_80 : decode b_MD_add 80 = .ok (.istore_n 3, 1) := by decide +kernel
theorem d_MD_add_81 : decode b_MD_add 81 = .ok (.iload_n 2, 1) := by decide +kernel
theorem d_MD_add_82 : decode b_MD_add 82 = .ok (.ireturn, 1) := by decide +kernel
theorem d_MD_resend_0 : decode b_MD_resend 0 = .ok (.aload_n 0, 1) := by decide +kernel
theorem d_MD_resend_1 : decode b_MD_resend 1 = .ok (.iconst 0, 1) := by decide +kernel
theorem d_MD_resend_2 : decode b_MD_resend 2 = .ok (.putfield 69, 3) := by decide +kernel
theorem d_MD_resend_5 : decode b_MD_resend 5 = .ok (.aload_n 0, 1) := by decide +kernel
theorem d_MD_resend_6 : decode b_MD_resend 6 = .ok (.getfield 102, 3) := by decide +kernel
theorem d_MD_resend_9 : decode b_MD_resend 9 = .ok (.ifCond .ne 15, 3) := by decide +kernel
theorem d_MD_resend_12 : decode b_MD_resend 12 = .ok (.iload_n 1, 1) := by decide +kernel
