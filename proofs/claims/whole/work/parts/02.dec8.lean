theorem d_MD_read_9 : decode b_MD_read 9 = .ok (.iconst 1, 1) := by decide +kernel
theorem d_MD_read_10 : decode b_MD_read 10 = .ok (.goto 20, 3) := by decide +kernel
theorem d_MD_read_13 : decode b_MD_read 13 = .ok (.iload_n 1, 1) := by decide +kernel
theorem d_MD_read_14 : decode b_MD_read 14 = .ok (.ifCond .lt 11, 3) := by decide +kernel
theorem d_MD_read_17 : decode b_MD_read 17 = .ok (.iload_n 1, 1) := by decide +kernel
theorem d_MD_read_18 : decode b_MD_read 18 = .ok (.aload_n 0, 1) := by decide +kernel
theorem d_MD_read_19 : decode b_MD_read 19 = .ok (.getfield 26, 3) := by decide +kernel
theorem d_MD_read_22 : decode b_MD_read 22 = .ok (.if_icmp .le 7, 3) := by decide +kernel
theorem d_MD_read_25 : decode b_MD_read 25 = .ok (.iconst 2, 1) := by decide +kernel
theorem d_MD_read_26 : decode b_MD_read 26 = .ok (.goto 4, 3) := by decide +kernel
theorem d_MD_read_29 : decode b_MD_read 29 = .ok (.iconst 3, 1) := by decide +kernel
theorem d_MD_read_30 : decode b_MD_read 30 = .ok (.putfield 69, 3) := by decide +kernel
theorem d_MD_read_33 : decode b_MD_read 33 = .ok (.aload_n 0, 1) := by decide +kernel
theorem d_MD_read_34 : decode b_MD_read 34 = .ok (.getfield 69, 3) := by decide +kernel
theorem d_MD_read_37 : decode b_MD_read 37 = .ok (.iconst 3, 1) := by decide +kernel
theorem d_MD_read_38 : decode b_MD_read 38 = .ok (.if_icmp .ge 5, 3) := by decide +kernel
theorem d_MD_read_41 : decode b_MD_read 41 = .ok (.iconst 0, 1) := by decide +kernel
theorem d_MD_read_42 : decode b_MD_read 42 = .ok (.ireturn, 1) := by decide +kernel
theorem d_MD_read_43 : decode b_MD_read 43 = .ok (.iconst 0, 1) := by decide +kernel
theorem d_MD_read_44 : decode b_MD_read 44 = .ok (.istore_n 2, 1) := by decide +kernel
theorem d_MD_read_45 : decode b_MD_read 45 = .ok (.iload_n 2, 1) := by decide +kernel
theorem d_MD_read_46 : decode b_MD_read 46 = .ok (.aload_n 0, 1) := by decide +kernel
theorem d_MD_read_47 : decode b_MD_read 47 = .ok (.getfield 63, 3) := by decide +kernel
theorem d_MD_read_50 : decode b_MD_read 50 = .ok (.if_icmp .ge 58, 3) := by decide +kernel
theorem d_MD_read_53 : decode b_MD_read 53 = .ok (.iload_n 1, 1) := by decide +kernel
theorem d_MD_read_54 : decode b_MD_read 54 = .ok (.iload_n 2, 1) := by decide +kernel
theorem d_MD_read_55 : decode b_MD_read 55 = .ok (.iadd, 1) := by decide +kernel
theorem d_MD_read_56 : decode b_MD_read 56 = .ok (.aload_n 0, 1) := by decide +kernel
theorem d_MD_read_57 : decode b_MD_read 57 = .ok (.getfield 60, 3) := by decide +kernel
theorem d_MD_read_60 : decode b_MD_read 60 = .ok (.irem, 1) := by decide +kernel
theorem d_MD_read_61 : decode b_MD_read 61 = .ok (.istore_n 3, 1) := by decide +kernel
theorem d_MD_read_62 : decode b_MD_read 62 = .ok (.aload_n 0, 1) := by decide +kernel
theorem d_MD_read_63 : decode b_MD_read 63 = .ok (.getfield 7, 3) := by decide +kernel
theorem d_MD_read_66 : decode b_MD_read 66 = .ok (.iload_n 3, 1) := by decide +kernel
theorem d_MD_read_67 : decode b_MD_read 67 = .ok (.baload, 1) := by decide +kernel
theorem d_MD_read_68 : decode b_MD_read 68 = .ok (.ifCond .ne 34, 3) := by decide +kernel
theorem d_MD_read_71 : decode b_MD_read 71 = .ok (.aload_n 0, 1) := by decide +kernel
theorem d_MD_read_72 : decode b_MD_read 72 = .ok (.getfield 20, 3) := by decide +kernel
theorem d_MD_read_75 : decode b_MD_read 75 = .ok (.bipush 20, 2) := by decide +kernel
theorem d_MD_read_77 : decode b_MD_read 77 = .ok (.iload_n 3, 1) := by decide +kernel
theorem d_MD_read_78 : decode b_MD_read 78 = .ok (.imul, 1) := by decide +kernel
theorem d_MD_read_79 : decode b_MD_read 79 = .ok (.iload_n 1, 1) := by decide +kernel
theorem d_MD_read_80 : decode b_MD_read 80 = .ok (.iadd, 1) := by decide +kernel
theorem d_MD_read_81 : decode b_MD_read 81 = .ok (.baload, 1) := by decide +kernel
theorem d_MD_read_82 : decode b_MD_read 82 = .ok (.ifCond .eq 20, 3) := by decide +kernel
theorem d_MD_read_85 : decode b_MD_read 85 = .ok (.aload_n 0, 1) := by decide +kernel
theorem d_MD_read_86 : decode b_MD_read 86 = .ok (.iconst 0, 1) := by decide +kernel
theorem d_MD_read_87 : decode b_MD_read 87 = .ok (.putfield 69, 3) := by decide +kernel
theorem d_MD_read_90 : decode b_MD_read 90 = .ok (.aload_n 0, 1) := by decide +kernel
theorem d_MD_read_91 : decode b_MD_read 91 = .ok (.getfield 23, 3) := by decide +kernel
theorem d_MD_read_94 : decode b_MD_read 94 = .ok (.bipush 20, 2) := by decide +kernel
theorem d_MD_read_96 : decode b_MD_read 96 = .ok (.iload_n 3, 1) := by decide +kernel
theorem d_MD_read_97 : decode b_MD_read 97 = .ok (.imul, 1) := by decide +kernel
theorem d_MD_read_98 : decode b_MD_read 98 = .ok (.iload_n 1, 1) := by decide +kernel
theorem d_MD_read_99 : decode b_MD_read 99 = .ok (.iadd, 1) := by decide +kernel
theorem d_MD_read_100 : decode b_MD_read 100 = .ok (.iaload, 1) := by decide +kernel
theorem d_MD_read_101 : decode b_MD_read 101 = .ok (.ireturn, 1) := by decide +kernel
theorem d_MD_read_102 : decode b_MD_read 102 = .ok (.iinc 2 1, 3) := by decide +kernel
theorem d_MD_read_105 : decode b_MD_read 105 = .ok (.goto (-60), 3) := by decide +kernel
theorem d_MD_read_108 : decode b_MD_read 108 = .ok (.iconst 0, 1) := by decide +kernel
theorem d_MD_read_109 : decode b_MD_read 109 = .ok (.ireturn, 1) := by decide +kernel
