theorem d_MD_answerCount_20 : decode b_MD_answerCount 20 = .ok (.iload_n 3, 1) := by decide +kernel
theorem d_MD_answerCount_21 : decode b_MD_answerCount 21 = .ok (.iadd, 1) := by decide +kernel
theorem d_MD_answerCount_22 : decode b_MD_answerCount 22 = .ok (.baload, 1) := by decide +kernel
theorem d_MD_answerCount_23 : decode b_MD_answerCount 23 = .ok (.ifCond .eq 7, 3) := by decide +kernel
theorem d_MD_answerCount_26 : decode b_MD_answerCount 26 = .ok (.iconst 1, 1) := by decide +kernel
theorem d_MD_answerCount_27 : decode b_MD_answerCount 27 = .ok (.goto 4, 3) := by decide +kernel
theorem d_MD_answerCount_30 : decode b_MD_answerCount 30 = .ok (.iconst 0, 1) := by decide +kernel
theorem d_MD_answerCount_31 : decode b_MD_answerCount 31 = .ok (.iadd, 1) := by decide +kernel
theorem d_MD_answerCount_32 : decode b_MD_answerCount 32 = .ok (.istore_n 2, 1) := by decide +kernel
theorem d_MD_answerCount_33 : decode b_MD_answerCount 33 = .ok (.iinc 3 1, 3) := by decide +kernel
theorem d_MD_answerCount_36 : decode b_MD_answerCount 36 = .ok (.goto (-32), 3) := by decide +kernel
theorem d_MD_answerCount_39 : decode b_MD_answerCount 39 = .ok (.iload_n 2, 1) := by decide +kernel
theorem d_MD_answerCount_40 : decode b_MD_answerCount 40 = .ok (.ireturn, 1) := by decide +kernel
theorem d_MD_forget_0 : decode b_MD_forget 0 = .ok (.iconst 0, 1) := by decide +kernel
theorem d_MD_forget_1 : decode b_MD_forget 1 = .ok (.istore_n 2, 1) := by decide +kernel
theorem d_MD_forget_2 : decode b_MD_forget 2 = .ok (.iload_n 2, 1) := by decide +kernel
theorem d_MD_forget_3 : decode b_MD_forget 3 = .ok (.iconst 5, 1) := by decide +kernel
theorem d_MD_forget_4 : decode b_MD_forget 4 = .ok (.if_icmp .ge 20, 3) := by decide +kernel
theorem d_MD_forget_7 : decode b_MD_forget 7 = .ok (.aload_n 0, 1) := by decide +kernel
theorem d_MD_forget_8 : decode b_MD_forget 8 = .ok (.getfield 57, 3) := by decide +kernel
theorem d_MD_forget_11 : decode b_MD_forget 11 = .ok (.iconst 5, 1) := by decide +kernel
theorem d_MD_forget_12 : decode b_MD_forget 12 = .ok (.iload_n 1, 1) := by decide +kernel
theorem d_MD_forget_13 : decode b_MD_forget 13 = .ok (.imul, 1) := by decide +kernel
theorem d_MD_forget_14 : decode b_MD_forget 14 = .ok (.iload_n 2, 1) := by decide +kernel
theorem d_MD_forget_15 : decode b_MD_forget 15 = .ok (.iadd, 1) := by decide +kernel
theorem d_MD_forget_16 : decode b_MD_forget 16 = .ok (.iconst 0, 1) := by decide +kernel
theorem d_MD_forget_17 : decode b_MD_forget 17 = .ok (.bastore, 1) := by decide +kernel
theorem d_MD_forget_18 : decode b_MD_forget 18 = .ok (.iinc 2 1, 3) := by decide +kernel
theorem d_MD_forget_21 : decode b_MD_forget 21 = .ok (.goto (-19), 3) := by decide +kernel
theorem d_MD_forget_24 : decode b_MD_forget 24 = .ok (.return_, 1) := by decide +kernel
theorem d_MD_ask_0 : decode b_MD_ask 0 = .ok (.iconst 0, 1) := by decide +kernel
theorem d_MD_ask_1 : decode b_MD_ask 1 = .ok (.istore_n 2, 1) := by decide +kernel
theorem d_MD_ask_2 : decode b_MD_ask 2 = .ok (.aload_n 0, 1) := by decide +kernel
theorem d_MD_ask_3 : decode b_MD_ask 3 = .ok (.getfield 42, 3) := by decide +kernel
theorem d_MD_ask_6 : decode b_MD_ask 6 = .ok (.iload_n 1, 1) := by decide +kernel
theorem d_MD_ask_7 : decode b_MD_ask 7 = .ok (.iaload, 1) := by decide +kernel
theorem d_MD_ask_8 : decode b_MD_ask 8 = .ok (.iconst 1, 1) := by decide +kernel
theorem d_MD_ask_9 : decode b_MD_ask 9 = .ok (.if_icmp .ne 10, 3) := by decide +kernel
theorem d_MD_ask_12 : decode b_MD_ask 12 = .ok (.aload_n 0, 1) := by decide +kernel
theorem d_MD_ask_13 : decode b_MD_ask 13 = .ok (.getfield 60, 3) := by decide +kernel
theorem d_MD_ask_16 : decode b_MD_ask 16 = .ok (.goto 7, 3) := by decide +kernel
theorem d_MD_ask_19 : decode b_MD_ask 19 = .ok (.aload_n 0, 1) := by decide +kernel
theorem d_MD_ask_20 : decode b_MD_ask 20 = .ok (.getfield 63, 3) := by decide +kernel
theorem d_MD_ask_23 : decode b_MD_ask 23 = .ok (.istore_n 3, 1) := by decide +kernel
theorem d_MD_ask_24 : decode b_MD_ask 24 = .ok (.iconst 0, 1) := by decide +kernel
theorem d_MD_ask_25 : decode b_MD_ask 25 = .ok (.istore 4, 2) := by decide +kernel
theorem d_MD_ask_27 : decode b_MD_ask 27 = .ok (.iload 4, 2) := by decide +kernel
theorem d_MD_ask_29 : decode b_MD_ask 29 = .ok (.iload_n 3, 1) := by decide +kernel
theorem d_MD_ask_30 : decode b_MD_ask 30 = .ok (.if_icmp .ge 156, 3) := by decide +kernel
theorem d_MD_ask_33 : decode b_MD_ask 33 = .ok (.aload_n 0, 1) := by decide +kernel
theorem d_MD_ask_34 : decode b_MD_ask 34 = .ok (.getfield 42, 3) := by decide +kernel
theorem d_MD_ask_37 : decode b_MD_ask 37 = .ok (.iload_n 1, 1) := by decide +kernel
theorem d_MD_ask_38 : decode b_MD_ask 38 = .ok (.iaload, 1) := by decide +kernel
theorem d_MD_ask_39 : decode b_MD_ask 39 = .ok (.iconst 1, 1) := by decide +kernel
theorem d_MD_ask_40 : decode b_MD_ask 40 = .ok (.if_icmp .ne 8, 3) := by decide +kernel
theorem d_MD_ask_43 : decode b_MD_ask 43 = .ok (.iload 4, 2) := by decide +kernel
theorem d_MD_ask_45 : decode b_MD_ask 45 = .ok (.goto 17, 3) := by decide +kernel
theorem d_MD_ask_48 : decode b_MD_ask 48 = .ok (.aload_n 0, 1) := by decide +kernel
theorem d_MD_ask_49 : decode b_MD_ask 49 = .ok (.getfield 48, 3) := by decide +kernel
theorem d_MD_ask_52 : decode b_MD_ask 52 = .ok (.iload_n 1, 1) := by decide +kernel
theorem d_MD_ask_53 : decode b_MD_ask 53 = .ok (.iaload, 1) := by decide +kernel
theorem d_MD_ask_54 : decode b_MD_ask 54 = .ok (.iload 4, 2) := by decide +kernel
theorem d_MD_ask_56 : decode b_MD_ask 56 = .ok (.iadd, 1) := by decide +kernel
theorem d_MD_ask_57 : decode b_MD_ask 57 = .ok (.aload_n 0, 1) := by decide +kernel
theorem d_MD_ask_58 : decode b_MD_ask 58 = .ok (.getfield 60, 3) := by decide +kernel
theorem d_MD_ask_61 : decode b_MD_ask 61 = .ok (.irem, 1) := by decide +kernel
theorem d_MD_ask_62 : decode b_MD_ask 62 = .ok (.istore 5, 2) := by decide +kernel
theorem d_MD_ask_64 : decode b_MD_ask 64 = .ok (.aload_n 0, 1) := by decide +kernel
theorem d_MD_ask_65 : decode b_MD_ask 65 = .ok (.getfield 57, 3) := by decide +kernel
theorem d_MD_ask_68 : decode b_MD_ask 68 = .ok (.iconst 5, 1) := by decide +kernel
theorem d_MD_ask_69 : decode b_MD_ask 69 = .ok (.iload_n 1, 1) := by decide +kernel
theorem d_MD_ask_70 : decode b_MD_ask 70 = .ok (.imul, 1) := by decide +kernel
theorem d_MD_ask_71 : decode b_MD_ask 71 = .ok (.iload 5, 2) := by decide +kernel
theorem d_MD_ask_73 : decode b_MD_ask 73 = .ok (.iadd, 1) := by decide +kernel
theorem d_MD_ask_74 : decode b_MD_ask 74 = .ok (.baload, 1) := by decide +kernel
theorem d_MD_ask_75 : decode b_MD_ask 75 = .ok (.ifCond .ne 105, 3) := by decide +kernel
theorem d_MD_ask_78 : decode b_MD_ask 78 = .ok (.aload_n 0, 1) := by decide +kernel
theorem d_MD_ask_79 : decode b_MD_ask 79 = .ok (.getfield 42, 3) := by decide +kernel
theorem d_MD_ask_82 : decode b_MD_ask 82 = .ok (.iload_n 1, 1) := by decide +kernel
theorem d_MD_ask_83 : decode b_MD_ask 83 = .ok (.iaload, 1) := by decide +kernel
theorem d_MD_ask_84 : decode b_MD_ask 84 = .ok (.iconst 1, 1) := by decide +kernel
theorem d_MD_ask_85 : decode b_MD_ask 85 = .ok (.if_icmp .ne 23, 3) := by decide +kernel
theorem d_MD_ask_88 : decode b_MD_ask 88 = .ok (.aload_n 0, 1) := by decide +kernel
theorem d_MD_ask_89 : decode b_MD_ask 89 = .ok (.iconst 1, 1) := by decide +kernel
theorem d_MD_ask_90 : decode b_MD_ask 90 = .ok (.iload_n 1, 1) := by decide +kernel
theorem d_MD_ask_91 : decode b_MD_ask 91 = .ok (.iload 5, 2) := by decide +kernel
theorem d_MD_ask_93 : decode b_MD_ask 93 = .ok (.iconst 0, 1) := by decide +kernel
theorem d_MD_ask_94 : decode b_MD_ask 94 = .ok (.iconst 0, 1) := by decide +kernel
theorem d_MD_ask_95 : decode b_MD_ask 95 = .ok (.aload_n 0, 1) := by decide +kernel
theorem d_MD_ask_96 : decode b_MD_ask 96 = .ok (.getfield 45, 3) := by decide +kernel
theorem d_MD_ask_99 : decode b_MD_ask 99 = .ok (.iload_n 1, 1) := by decide +kernel
theorem d_MD_ask_100 : decode b_MD_ask 100 = .ok (.iaload, 1) := by decide +kernel
theorem d_MD_ask_101 : decode b_MD_ask 101 = .ok (.iconst 0, 1) := by decide +kernel
theorem d_MD_ask_102 : decode b_MD_ask 102 = .ok (.invokevirtual 98, 3) := by decide +kernel
theorem d_MD_ask_105 : decode b_MD_ask 105 = .ok (.goto 72, 3) := by decide +kernel
theorem d_MD_ask_108 : decode b_MD_ask 108 = .ok (.aload_n 0, 1) := by decide +kernel
theorem d_MD_ask_109 : decode b_MD_ask 109 = .ok (.getfield 42, 3) := by decide +kernel
theorem d_MD_ask_112 : decode b_MD_ask 112 = .ok (.iload_n 1, 1) := by decide +kernel
theorem d_MD_ask_113 : decode b_MD_ask 113 = .ok (.iaload, 1) := by decide +kernel
theorem d_MD_ask_114 : decode b_MD_ask 114 = .ok (.iconst 2, 1) := by decide +kernel
theorem d_MD_ask_115 : decode b_MD_ask 115 = .ok (.if_icmp .ne 28, 3) := by decide +kernel
theorem d_MD_ask_118 : decode b_MD_ask 118 = .ok (.aload_n 0, 1) := by decide +kernel
theorem d_MD_ask_119 : decode b_MD_ask 119 = .ok (.iconst 2, 1) := by decide +kernel
theorem d_MD_ask_120 : decode b_MD_ask 120 = .ok (.iload_n 1, 1) := by decide +kernel
theorem d_MD_ask_121 : decode b_MD_ask 121 = .ok (.iload 5, 2) := by decide +kernel
theorem d_MD_ask_123 : decode b_MD_ask 123 = .ok (.aload_n 0, 1) := by decide +kernel
theorem d_MD_ask_124 : decode b_MD_ask 124 = .ok (.getfield 48, 3) := by decide +kernel
theorem d_MD_ask_127 : decode b_MD_ask 127 = .ok (.iload_n 1, 1) := by decide +kernel
theorem d_MD_ask_128 : decode b_MD_ask 128 = .ok (.iaload, 1) := by decide +kernel
theorem d_MD_ask_129 : decode b_MD_ask 129 = .ok (.iconst 0, 1) := by decide +kernel
theorem d_MD_ask_130 : decode b_MD_ask 130 = .ok (.aload_n 0, 1) := by decide +kernel
theorem d_MD_ask_131 : decode b_MD_ask 131 = .ok (.getfield 45, 3) := by decide +kernel
theorem d_MD_ask_134 : decode b_MD_ask 134 = .ok (.iload_n 1, 1) := by decide +kernel
theorem d_MD_ask_135 : decode b_MD_ask 135 = .ok (.iaload, 1) := by decide +kernel
theorem d_MD_ask_136 : decode b_MD_ask 136 = .ok (.iconst 0, 1) := by decide +kernel
theorem d_MD_ask_137 : decode b_MD_ask 137 = .ok (.invokevirtual 98, 3) := by decide +kernel
theorem d_MD_ask_140 : decode b_MD_ask 140 = .ok (.goto 37, 3) := by decide +kernel
theorem d_MD_ask_143 : decode b_MD_ask 143 = .ok (.aload_n 0, 1) := by decide +kernel
theorem d_MD_ask_144 : decode b_MD_ask 144 = .ok (.iconst 0, 1) := by decide +kernel
theorem d_MD_ask_145 : decode b_MD_ask 145 = .ok (.iload_n 1, 1) := by decide +kernel
theorem d_MD_ask_146 : decode b_MD_ask 146 = .ok (.iload 5, 2) := by decide +kernel
theorem d_MD_ask_148 : decode b_MD_ask 148 = .ok (.aload_n 0, 1) := by decide +kernel
theorem d_MD_ask_149 : decode b_MD_ask 149 = .ok (.getfield 48, 3) := by decide +kernel
theorem d_MD_ask_152 : decode b_MD_ask 152 = .ok (.iload_n 1, 1) := by decide +kernel
theorem d_MD_ask_153 : decode b_MD_ask 153 = .ok (.iaload, 1) := by decide +kernel
theorem d_MD_ask_154 : decode b_MD_ask 154 = .ok (.aload_n 0, 1) := by decide +kernel
theorem d_MD_ask_155 : decode b_MD_ask 155 = .ok (.getfield 54, 3) := by decide +kernel
theorem d_MD_ask_158 : decode b_MD_ask 158 = .ok (.iload_n 1, 1) := by decide +kernel
theorem d_MD_ask_159 : decode b_MD_ask 159 = .ok (.iaload, 1) := by decide +kernel
theorem d_MD_ask_160 : decode b_MD_ask 160 = .ok (.aload_n 0, 1) := by decide +kernel
theorem d_MD_ask_161 : decode b_MD_ask 161 = .ok (.getfield 45, 3) := by decide +kernel
theorem d_MD_ask_164 : decode b_MD_ask 164 = .ok (.iload_n 1, 1) := by decide +kernel
theorem d_MD_ask_165 : decode b_MD_ask 165 = .ok (.iaload, 1) := by decide +kernel
theorem d_MD_ask_166 : decode b_MD_ask 166 = .ok (.aload_n 0, 1) := by decide +kernel
theorem d_MD_ask_167 : decode b_MD_ask 167 = .ok (.getfield 48, 3) := by decide +kernel
theorem d_MD_ask_170 : decode b_MD_ask 170 = .ok (.iload_n 1, 1) := by decide +kernel
theorem d_MD_ask_171 : decode b_MD_ask 171 = .ok (.iaload, 1) := by decide +kernel
theorem d_MD_ask_172 : decode b_MD_ask 172 = .ok (.iconst 1, 1) := by decide +kernel
theorem d_MD_ask_173 : decode b_MD_ask 173 = .ok (.isub, 1) := by decide +kernel
theorem d_MD_ask_174 : decode b_MD_ask 174 = .ok (.invokevirtual 98, 3) := by decide +kernel
theorem d_MD_ask_177 : decode b_MD_ask 177 = .ok (.iinc 2 1, 3) := by decide +kernel
theorem d_MD_ask_180 : decode b_MD_ask 180 = .ok (.iinc 4 1, 3) := by decide +kernel
theorem d_MD_ask_183 : decode b_MD_ask 183 = .ok (.goto (-156), 3) := by decide +kernel
theorem d_MD_ask_186 : decode b_MD_ask 186 = .ok (.iload_n 2, 1) := by decide +kernel
theorem d_MD_ask_187 : decode b_MD_ask 187 = .ok (.ireturn, 1) := by decide +kernel
theorem d_MD_finish_0 : decode b_MD_finish 0 = .ok (.aload_n 0, 1) := by decide +kernel
theorem d_MD_finish_1 : decode b_MD_finish 1 = .ok (.getfield 115, 3) := by decide +kernel
theorem d_MD_finish_4 : decode b_MD_finish 4 = .ok (.iconst 1, 1) := by decide +kernel
theorem d_MD_finish_5 : decode b_MD_finish 5 = .ok (.if_icmp .ne 36, 3) := by decide +kernel
theorem d_MD_finish_8 : decode b_MD_finish 8 = .ok (.aload_n 0, 1) := by decide +kernel
theorem d_MD_finish_9 : decode b_MD_finish 9 = .ok (.getfield 118, 3) := by decide +kernel
theorem d_MD_finish_12 : decode b_MD_finish 12 = .ok (.aload_n 0, 1) := by decide +kernel
theorem d_MD_finish_13 : decode b_MD_finish 13 = .ok (.getfield 45, 3) := by decide +kernel
theorem d_MD_finish_16 : decode b_MD_finish 16 = .ok (.iload_n 1, 1) := by decide +kernel
theorem d_MD_finish_17 : decode b_MD_finish 17 = .ok (.iaload, 1) := by decide +kernel
theorem d_MD_finish_18 : decode b_MD_finish 18 = .ok (.if_icmp .ne 23, 3) := by decide +kernel
theorem d_MD_finish_21 : decode b_MD_finish 21 = .ok (.aload_n 0, 1) := by decide +kernel
theorem d_MD_finish_22 : decode b_MD_finish 22 = .ok (.iconst 2, 1) := by decide +kernel
theorem d_MD_finish_23 : decode b_MD_finish 23 = .ok (.putfield 115, 3) := by decide +kernel
theorem d_MD_finish_26 : decode b_MD_finish 26 = .ok (.aload_n 0, 1) := by decide +kernel
theorem d_MD_finish_27 : decode b_MD_finish 27 = .ok (.iload_n 2, 1) := by decide +kernel
theorem d_MD_finish_28 : decode b_MD_finish 28 = .ok (.putfield 26, 3) := by decide +kernel
theorem d_MD_finish_31 : decode b_MD_finish 31 = .ok (.aload_n 0, 1) := by decide +kernel
theorem d_MD_finish_32 : decode b_MD_finish 32 = .ok (.dup, 1) := by decide +kernel
theorem d_MD_finish_33 : decode b_MD_finish 33 = .ok (.getfield 118, 3) := by decide +kernel
theorem d_MD_finish_36 : decode b_MD_finish 36 = .ok (.iconst 1, 1) := by decide +kernel
theorem d_MD_finish_37 : decode b_MD_finish 37 = .ok (.iadd, 1) := by decide +kernel
theorem d_MD_finish_38 : decode b_MD_finish 38 = .ok (.putfield 118, 3) := by decide +kernel
theorem d_MD_finish_41 : decode b_MD_finish 41 = .ok (.aload_n 0, 1) := by decide +kernel
theorem d_MD_finish_42 : decode b_MD_finish 42 = .ok (.getfield 42, 3) := by decide +kernel
theorem d_MD_finish_45 : decode b_MD_finish 45 = .ok (.iload_n 1, 1) := by decide +kernel
theorem d_MD_finish_46 : decode b_MD_finish 46 = .ok (.aload_n 0, 1) := by decide +kernel
theorem d_MD_finish_47 : decode b_MD_finish 47 = .ok (.getfield 115, 3) := by decide +kernel
theorem d_MD_finish_50 : decode b_MD_finish 50 = .ok (.iconst 2, 1) := by decide +kernel
theorem d_MD_finish_51 : decode b_MD_finish 51 = .ok (.if_icmp .ne 7, 3) := by decide +kernel
theorem d_MD_finish_54 : decode b_MD_finish 54 = .ok (.iconst 4, 1) := by decide +kernel
theorem d_MD_finish_55 : decode b_MD_finish 55 = .ok (.goto 4, 3) := by decide +kernel
theorem d_MD_finish_58 : decode b_MD_finish 58 = .ok (.iconst 0, 1) := by decide +kernel
theorem d_MD_finish_59 : decode b_MD_finish 59 = .ok (.iastore, 1) := by decide +kernel
theorem d_MD_finish_60 : decode b_MD_finish 60 = .ok (.return_, 1) := by decide +kernel
theorem d_MD_readOn_0 : decode b_MD_readOn 0 = .ok (.iload_n 2, 1) := by decide +kernel
theorem d_MD_readOn_1 : decode b_MD_readOn 1 = .ok (.bipush 20, 2) := by decide +kernel
theorem d_MD_readOn_3 : decode b_MD_readOn 3 = .ok (.if_icmp .ne 12, 3) := by decide +kernel
theorem d_MD_readOn_6 : decode b_MD_readOn 6 = .ok (.aload_n 0, 1) := by decide +kernel
theorem d_MD_readOn_7 : decode b_MD_readOn 7 = .ok (.iload_n 1, 1) := by decide +kernel
theorem d_MD_readOn_8 : decode b_MD_readOn 8 = .ok (.iload_n 2, 1) := by decide +kernel
theorem d_MD_readOn_9 : decode b_MD_readOn 9 = .ok (.iconst 1, 1) := by decide +kernel
theorem d_MD_readOn_10 : decode b_MD_readOn 10 = .ok (.isub, 1) := by decide +kernel
theorem d_MD_readOn_11 : decode b_MD_readOn 11 = .ok (.invokevirtual 121, 3) := by decide +kernel
theorem d_MD_readOn_14 : decode b_MD_readOn 14 = .ok (.return_, 1) := by decide +kernel
theorem d_MD_readOn_15 : decode b_MD_readOn 15 = .ok (.aload_n 0, 1) := by decide +kernel
theorem d_MD_readOn_16 : decode b_MD_readOn 16 = .ok (.getfield 48, 3) := by decide +kernel
theorem d_MD_readOn_19 : decode b_MD_readOn 19 = .ok (.iload_n 1, 1) := by decide +kernel
theorem d_MD_readOn_20 : decode b_MD_readOn 20 = .ok (.iload_n 2, 1) := by decide +kernel
theorem d_MD_readOn_21 : decode b_MD_readOn 21 = .ok (.iastore, 1) := by decide +kernel
theorem d_MD_readOn_22 : decode b_MD_readOn 22 = .ok (.aload_n 0, 1) := by decide +kernel
theorem d_MD_readOn_23 : decode b_MD_readOn 23 = .ok (.iload_n 1, 1) := by decide +kernel
theorem d_MD_readOn_24 : decode b_MD_readOn 24 = .ok (.invokevirtual 125, 3) := by decide +kernel
theorem d_MD_readOn_27 : decode b_MD_readOn 27 = .ok (.aload_n 0, 1) := by decide +kernel
theorem d_MD_readOn_28 : decode b_MD_readOn 28 = .ok (.getfield 42, 3) := by decide +kernel
theorem d_MD_readOn_31 : decode b_MD_readOn 31 = .ok (.iload_n 1, 1) := by decide +kernel
theorem d_MD_readOn_32 : decode b_MD_readOn 32 = .ok (.iconst 2, 1) := by decide +kernel
theorem d_MD_readOn_33 : decode b_MD_readOn 33 = .ok (.iastore, 1) := by decide +kernel
theorem d_MD_readOn_34 : decode b_MD_readOn 34 = .ok (.aload_n 0, 1) := by decide +kernel
theorem d_MD_readOn_35 : decode b_MD_readOn 35 = .ok (.iload_n 1, 1) := by decide +kernel
theorem d_MD_readOn_36 : decode b_MD_readOn 36 = .ok (.invokevirtual 128, 3) := by decide +kernel
theorem d_MD_readOn_39 : decode b_MD_readOn 39 = .ok (.istore_n 3, 1) := by decide +kernel
theorem d_MD_readOn_40 : decode b_MD_readOn 40 = .ok (.return_, 1) := by decide +kernel
theorem d_MD_covers_0 : decode b_MD_covers 0 = .ok (.iconst 1, 1) := by decide +kernel
theorem d_MD_covers_1 : decode b_MD_covers 1 = .ok (.istore_n 2, 1) := by decide +kernel
theorem d_MD_covers_2 : decode b_MD_covers 2 = .ok (.iconst 0, 1) := by decide +kernel
theorem d_MD_covers_3 : decode b_MD_covers 3 = .ok (.istore_n 3, 1) := by decide +kernel
theorem d_MD_covers_4 : decode b_MD_covers 4 = .ok (.iload_n 3, 1) := by decide +kernel
theorem d_MD_covers_5 : decode b_MD_covers 5 = .ok (.aload_n 0, 1) := by decide +kernel
theorem d_MD_covers_6 : decode b_MD_covers 6 = .ok (.getfield 60, 3) := by decide +kernel
theorem d_MD_covers_9 : decode b_MD_covers 9 = .ok (.if_icmp .ge 80, 3) := by decide +kernel
theorem d_MD_covers_12 : decode b_MD_covers 12 = .ok (.iconst 0, 1) := by decide +kernel
theorem d_MD_covers_13 : decode b_MD_covers 13 = .ok (.istore 4, 2) := by decide +kernel
theorem d_MD_covers_15 : decode b_MD_covers 15 = .ok (.iconst 0, 1) := by decide +kernel
theorem d_MD_covers_16 : decode b_MD_covers 16 = .ok (.istore 5, 2) := by decide +kernel
theorem d_MD_covers_18 : decode b_MD_covers 18 = .ok (.iload 5, 2) := by decide +kernel
theorem d_MD_covers_20 : decode b_MD_covers 20 = .ok (.aload_n 0, 1) := by decide +kernel
theorem d_MD_covers_21 : decode b_MD_covers 21 = .ok (.getfield 63, 3) := by decide +kernel
theorem d_MD_covers_24 : decode b_MD_covers 24 = .ok (.if_icmp .ge 40, 3) := by decide +kernel
theorem d_MD_covers_27 : decode b_MD_covers 27 = .ok (.iload 4, 2) := by decide +kernel
theorem d_MD_covers_29 : decode b_MD_covers 29 = .ok (.aload_n 0, 1) := by decide +kernel
theorem d_MD_covers_30 : decode b_MD_covers 30 = .ok (.getfield 57, 3) := by decide +kernel
theorem d_MD_covers_33 : decode b_MD_covers 33 = .ok (.iconst 5, 1) := by decide +kernel
theorem d_MD_covers_34 : decode b_MD_covers 34 = .ok (.iload_n 1, 1) := by decide +kernel
theorem d_MD_covers_35 : decode b_MD_covers 35 = .ok (.imul, 1) := by decide +kernel
theorem d_MD_covers_36 : decode b_MD_covers 36 = .ok (.iload_n 3, 1) := by decide +kernel
theorem d_MD_covers_37 : decode b_MD_covers 37 = .ok (.iload 5, 2) := by decide +kernel
theorem d_MD_covers_39 : decode b_MD_covers 39 = .ok (.iadd, 1) := by decide +kernel
theorem d_MD_covers_40 : decode b_MD_covers 40 = .ok (.aload_n 0, 1) := by decide +kernel
theorem d_MD_covers_41 : decode b_MD_covers 41 = .ok (.getfield 60, 3) := by decide +kernel
theorem d_MD_covers_44 : decode b_MD_covers 44 = .ok (.irem, 1) := by decide +kernel
theorem d_MD_covers_45 : decode b_MD_covers 45 = .ok (.iadd, 1) := by decide +kernel
theorem d_MD_covers_46 : decode b_MD_covers 46 = .ok (.baload, 1) := by decide +kernel
theorem d_MD_covers_47 : decode b_MD_covers 47 = .ok (.ifCond .eq 7, 3) := by decide +kernel
theorem d_MD_covers_50 : decode b_MD_covers 50 = .ok (.iconst 0, 1) := by decide +kernel
theorem d_MD_covers_51 : decode b_MD_covers 51 = .ok (.goto 4, 3) := by decide +kernel
theorem d_MD_covers_54 : decode b_MD_covers 54 = .ok (.iconst 1, 1) := by decide +kernel
theorem d_MD_covers_55 : decode b_MD_covers 55 = .ok (.iadd, 1) := by decide +kernel
theorem d_MD_covers_56 : decode b_MD_covers 56 = .ok (.istore 4, 2) := by decide +kernel
theorem d_MD_covers_58 : decode b_MD_covers 58 = .ok (.iinc 5 1, 3) := by decide +kernel
theorem d_MD_covers_61 : decode b_MD_covers 61 = .ok (.goto (-43), 3) := by decide +kernel
theorem d_MD_covers_64 : decode b_MD_covers 64 = .ok (.iload_n 2, 1) := by decide +kernel
theorem d_MD_covers_65 : decode b_MD_covers 65 = .ok (.ifCond .eq 16, 3) := by decide +kernel
theorem d_MD_covers_68 : decode b_MD_covers 68 = .ok (.iload 4, 2) := by decide +kernel
theorem d_MD_covers_70 : decode b_MD_covers 70 = .ok (.aload_n 0, 1) := by decide +kernel
theorem d_MD_covers_71 : decode b_MD_covers 71 = .ok (.getfield 66, 3) := by decide +kernel
theorem d_MD_covers_74 : decode b_MD_covers 74 = .ok (.if_icmp .ge 7, 3) := by decide +kernel
theorem d_MD_covers_77 : decode b_MD_covers 77 = .ok (.iconst 1, 1) := by decide +kernel
theorem d_MD_covers_78 : decode b_MD_covers 78 = .ok (.goto 4, 3) := by decide +kernel
theorem d_MD_covers_81 : decode b_MD_covers 81 = .ok (.iconst 0, 1) := by decide +kernel
theorem d_MD_covers_82 : decode b_MD_covers 82 = .ok (.istore_n 2, 1) := by decide +kernel
theorem d_MD_covers_83 : decode b_MD_covers 83 = .ok (.iinc 3 1, 3) := by decide +kernel
theorem d_MD_covers_86 : decode b_MD_covers 86 = .ok (.goto (-82), 3) := by decide +kernel
theorem d_MD_covers_89 : decode b_MD_covers 89 = .ok (.iload_n 2, 1) := by decide +kernel
theorem d_MD_covers_90 : decode b_MD_covers 90 = .ok (.ireturn, 1) := by decide +kernel
theorem d_MD_learns_0 : decode b_MD_learns 0 = .ok (.iconst 5, 1) := by decide +kernel
theorem d_MD_learns_1 : decode b_MD_learns 1 = .ok (.iload_n 2, 1) := by decide +kernel
theorem d_MD_learns_2 : decode b_MD_learns 2 = .ok (.imul, 1) := by decide +kernel
theorem d_MD_learns_3 : decode b_MD_learns 3 = .ok (.iload_n 3, 1) := by decide +kernel
theorem d_MD_learns_4 : decode b_MD_learns 4 = .ok (.iadd, 1) := by decide +kernel
theorem d_MD_learns_5 : decode b_MD_learns 5 = .ok (.istore 6, 2) := by decide +kernel
theorem d_MD_learns_7 : decode b_MD_learns 7 = .ok (.iload_n 1, 1) := by decide +kernel
theorem d_MD_learns_8 : decode b_MD_learns 8 = .ok (.iconst 5, 1) := by decide +kernel
theorem d_MD_learns_9 : decode b_MD_learns 9 = .ok (.if_icmp .ne 73, 3) := by decide +kernel
theorem d_MD_learns_12 : decode b_MD_learns 12 = .ok (.aload_n 0, 1) := by decide +kernel
theorem d_MD_learns_13 : decode b_MD_learns 13 = .ok (.getfield 42, 3) := by decide +kernel
theorem d_MD_learns_16 : decode b_MD_learns 16 = .ok (.iload_n 2, 1) := by decide +kernel
theorem d_MD_learns_17 : decode b_MD_learns 17 = .ok (.iaload, 1) := by decide +kernel
theorem d_MD_learns_18 : decode b_MD_learns 18 = .ok (.iconst 1, 1) := by decide +kernel
theorem d_MD_learns_19 : decode b_MD_learns 19 = .ok (.if_icmp .ne 63, 3) := by decide +kernel
theorem d_MD_learns_22 : decode b_MD_learns 22 = .ok (.aload_n 0, 1) := by decide +kernel
theorem d_MD_learns_23 : decode b_MD_learns 23 = .ok (.getfield 57, 3) := by decide +kernel
theorem d_MD_learns_26 : decode b_MD_learns 26 = .ok (.iload 6, 2) := by decide +kernel
theorem d_MD_learns_28 : decode b_MD_learns 28 = .ok (.iconst 1, 1) := by decide +kernel
theorem d_MD_learns_29 : decode b_MD_learns 29 = .ok (.bastore, 1) := by decide +kernel
theorem d_MD_learns_30 : decode b_MD_learns 30 = .ok (.aload_n 0, 1) := by decide +kernel
theorem d_MD_learns_31 : decode b_MD_learns 31 = .ok (.getfield 51, 3) := by decide +kernel
theorem d_MD_learns_34 : decode b_MD_learns 34 = .ok (.iload_n 2, 1) := by decide +kernel
theorem d_MD_learns_35 : decode b_MD_learns 35 = .ok (.iload 5, 2) := by decide +kernel
theorem d_MD_learns_37 : decode b_MD_learns 37 = .ok (.aload_n 0, 1) := by decide +kernel
theorem d_MD_learns_38 : decode b_MD_learns 38 = .ok (.getfield 51, 3) := by decide +kernel
theorem d_MD_learns_41 : decode b_MD_learns 41 = .ok (.iload_n 2, 1) := by decide +kernel
theorem d_MD_learns_42 : decode b_MD_learns 42 = .ok (.iaload, 1) := by decide +kernel
theorem d_MD_learns_43 : decode b_MD_learns 43 = .ok (.if_icmp .le 8, 3) := by decide +kernel
theorem d_MD_learns_46 : decode b_MD_learns 46 = .ok (.iload 5, 2) := by decide +kernel
theorem d_MD_learns_48 : decode b_MD_learns 48 = .ok (.goto 9, 3) := by decide +kernel
theorem d_MD_learns_51 : decode b_MD_learns 51 = .ok (.aload_n 0, 1) := by decide +kernel
theorem d_MD_learns_52 : decode b_MD_learns 52 = .ok (.getfield 51, 3) := by decide +kernel
theorem d_MD_learns_55 : decode b_MD_learns 55 = .ok (.iload_n 2, 1) := by decide +kernel
theorem d_MD_learns_56 : decode b_MD_learns 56 = .ok (.iaload, 1) := by decide +kernel
theorem d_MD_learns_57 : decode b_MD_learns 57 = .ok (.iastore, 1) := by decide +kernel
theorem d_MD_learns_58 : decode b_MD_learns 58 = .ok (.aload_n 0, 1) := by decide +kernel
theorem d_MD_learns_59 : decode b_MD_learns 59 = .ok (.iload_n 2, 1) := by decide +kernel
theorem d_MD_learns_60 : decode b_MD_learns 60 = .ok (.invokevirtual 131, 3) := by decide +kernel
theorem d_MD_learns_63 : decode b_MD_learns 63 = .ok (.ifCond .eq 201, 3) := by decide +kernel
theorem d_MD_learns_66 : decode b_MD_learns 66 = .ok (.aload_n 0, 1) := by decide +kernel
theorem d_MD_learns_67 : decode b_MD_learns 67 = .ok (.iload_n 2, 1) := by decide +kernel
theorem d_MD_learns_68 : decode b_MD_learns 68 = .ok (.aload_n 0, 1) := by decide +kernel
theorem d_MD_learns_69 : decode b_MD_learns 69 = .ok (.getfield 51, 3) := by decide +kernel
theorem d_MD_learns_72 : decode b_MD_learns 72 = .ok (.iload_n 2, 1) := by decide +kernel
theorem d_MD_learns_73 : decode b_MD_learns 73 = .ok (.iaload, 1) := by decide +kernel
theorem d_MD_learns_74 : decode b_MD_learns 74 = .ok (.iconst 1, 1) := by decide +kernel
theorem d_MD_learns_75 : decode b_MD_learns 75 = .ok (.iadd, 1) := by decide +kernel
theorem d_MD_learns_76 : decode b_MD_learns 76 = .ok (.invokevirtual 134, 3) := by decide +kernel
theorem d_MD_learns_79 : decode b_MD_learns 79 = .ok (.goto 185, 3) := by decide +kernel
theorem d_MD_learns_82 : decode b_MD_learns 82 = .ok (.iload_n 1, 1) := by decide +kernel
theorem d_MD_learns_83 : decode b_MD_learns 83 = .ok (.bipush 6, 2) := by decide +kernel
theorem d_MD_learns_85 : decode b_MD_learns 85 = .ok (.if_icmp .ne 54, 3) := by decide +kernel
theorem d_MD_learns_88 : decode b_MD_learns 88 = .ok (.aload_n 0, 1) := by decide +kernel
theorem d_MD_learns_89 : decode b_MD_learns 89 = .ok (.getfield 42, 3) := by decide +kernel
theorem d_MD_learns_92 : decode b_MD_learns 92 = .ok (.iload_n 2, 1) := by decide +kernel
theorem d_MD_learns_93 : decode b_MD_learns 93 = .ok (.iaload, 1) := by decide +kernel
theorem d_MD_learns_94 : decode b_MD_learns 94 = .ok (.iconst 2, 1) := by decide +kernel
theorem d_MD_learns_95 : decode b_MD_learns 95 = .ok (.if_icmp .ne 44, 3) := by decide +kernel
theorem d_MD_learns_98 : decode b_MD_learns 98 = .ok (.iload 4, 2) := by decide +kernel
theorem d_MD_learns_100 : decode b_MD_learns 100 = .ok (.aload_n 0, 1) := by decide +kernel
theorem d_MD_learns_101 : decode b_MD_learns 101 = .ok (.getfield 48, 3) := by decide +kernel
theorem d_MD_learns_104 : decode b_MD_learns 104 = .ok (.iload_n 2, 1) := by decide +kernel
theorem d_MD_learns_105 : decode b_MD_learns 105 = .ok (.iaload, 1) := by decide +kernel
theorem d_MD_learns_106 : decode b_MD_learns 106 = .ok (.if_icmp .ne 33, 3) := by decide +kernel
theorem d_MD_learns_109 : decode b_MD_learns 109 = .ok (.aload_n 0, 1) := by decide +kernel
theorem d_MD_learns_110 : decode b_MD_learns 110 = .ok (.getfield 42, 3) := by decide +kernel
theorem d_MD_learns_113 : decode b_MD_learns 113 = .ok (.iload_n 2, 1) := by decide +kernel
theorem d_MD_learns_114 : decode b_MD_learns 114 = .ok (.iconst 3, 1) := by decide +kernel
theorem d_MD_learns_115 : decode b_MD_learns 115 = .ok (.iastore, 1) := by decide +kernel
theorem d_MD_learns_116 : decode b_MD_learns 116 = .ok (.aload_n 0, 1) := by decide +kernel
theorem d_MD_learns_117 : decode b_MD_learns 117 = .ok (.getfield 54, 3) := by decide +kernel
theorem d_MD_learns_120 : decode b_MD_learns 120 = .ok (.iload_n 2, 1) := by decide +kernel
theorem d_MD_learns_121 : decode b_MD_learns 121 = .ok (.iload 5, 2) := by decide +kernel
theorem d_MD_learns_123 : decode b_MD_learns 123 = .ok (.iastore, 1) := by decide +kernel
theorem d_MD_learns_124 : decode b_MD_learns 124 = .ok (.aload_n 0, 1) := by decide +kernel
theorem d_MD_learns_125 : decode b_MD_learns 125 = .ok (.iload_n 2, 1) := by decide +kernel
theorem d_MD_learns_126 : decode b_MD_learns 126 = .ok (.invokevirtual 125, 3) := by decide +kernel
theorem d_MD_learns_129 : decode b_MD_learns 129 = .ok (.aload_n 0, 1) := by decide +kernel
theorem d_MD_learns_130 : decode b_MD_learns 130 = .ok (.iload_n 2, 1) := by decide +kernel
theorem d_MD_learns_131 : decode b_MD_learns 131 = .ok (.invokevirtual 128, 3) := by decide +kernel
theorem d_MD_learns_134 : decode b_MD_learns 134 = .ok (.istore 7, 2) := by decide +kernel
theorem d_MD_learns_136 : decode b_MD_learns 136 = .ok (.goto 128, 3) := by decide +kernel
theorem d_MD_learns_139 : decode b_MD_learns 139 = .ok (.iload_n 1, 1) := by decide +kernel
theorem d_MD_learns_140 : decode b_MD_learns 140 = .ok (.bipush 7, 2) := by decide +kernel
theorem d_MD_learns_142 : decode b_MD_learns 142 = .ok (.if_icmp .ne 67, 3) := by decide +kernel
theorem d_MD_learns_145 : decode b_MD_learns 145 = .ok (.aload_n 0, 1) := by decide +kernel
theorem d_MD_learns_146 : decode b_MD_learns 146 = .ok (.getfield 42, 3) := by decide +kernel
theorem d_MD_learns_149 : decode b_MD_learns 149 = .ok (.iload_n 2, 1) := by decide +kernel
theorem d_MD_learns_150 : decode b_MD_learns 150 = .ok (.iaload, 1) := by decide +kernel
theorem d_MD_learns_151 : decode b_MD_learns 151 = .ok (.iconst 2, 1) := by decide +kernel
theorem d_MD_learns_152 : decode b_MD_learns 152 = .ok (.if_icmp .ne 57, 3) := by decide +kernel
theorem d_MD_learns_155 : decode b_MD_learns 155 = .ok (.iload 4, 2) := by decide +kernel
theorem d_MD_learns_157 : decode b_MD_learns 157 = .ok (.aload_n 0, 1) := by decide +kernel
theorem d_MD_learns_158 : decode b_MD_learns 158 = .ok (.getfield 48, 3) := by decide +kernel
theorem d_MD_learns_161 : decode b_MD_learns 161 = .ok (.iload_n 2, 1) := by decide +kernel
theorem d_MD_learns_162 : decode b_MD_learns 162 = .ok (.iaload, 1) := by decide +kernel
theorem d_MD_learns_163 : decode b_MD_learns 163 = .ok (.if_icmp .ne 46, 3) := by decide +kernel
theorem d_MD_learns_166 : decode b_MD_learns 166 = .ok (.aload_n 0, 1) := by decide +kernel
theorem d_MD_learns_167 : decode b_MD_learns 167 = .ok (.getfield 57, 3) := by decide +kernel
theorem d_MD_learns_170 : decode b_MD_learns 170 = .ok (.iload 6, 2) := by decide +kernel
theorem d_MD_learns_172 : decode b_MD_learns 172 = .ok (.iconst 1, 1) := by decide +kernel
theorem d_MD_learns_173 : decode b_MD_learns 173 = .ok (.bastore, 1) := by decide +kernel
theorem d_MD_learns_174 : decode b_MD_learns 174 = .ok (.aload_n 0, 1) := by decide +kernel
theorem d_MD_learns_175 : decode b_MD_learns 175 = .ok (.iload_n 2, 1) := by decide +kernel
theorem d_MD_learns_176 : decode b_MD_learns 176 = .ok (.invokevirtual 137, 3) := by decide +kernel
theorem d_MD_learns_179 : decode b_MD_learns 179 = .ok (.aload_n 0, 1) := by decide +kernel
theorem d_MD_learns_180 : decode b_MD_learns 180 = .ok (.getfield 63, 3) := by decide +kernel
theorem d_MD_learns_183 : decode b_MD_learns 183 = .ok (.aload_n 0, 1) := by decide +kernel
theorem d_MD_learns_184 : decode b_MD_learns 184 = .ok (.getfield 66, 3) := by decide +kernel
theorem d_MD_learns_187 : decode b_MD_learns 187 = .ok (.isub, 1) := by decide +kernel
theorem d_MD_learns_188 : decode b_MD_learns 188 = .ok (.iconst 1, 1) := by decide +kernel
theorem d_MD_learns_189 : decode b_MD_learns 189 = .ok (.iadd, 1) := by decide +kernel
theorem d_MD_learns_190 : decode b_MD_learns 190 = .ok (.if_icmp .lt 74, 3) := by decide +kernel
theorem d_MD_learns_193 : decode b_MD_learns 193 = .ok (.aload_n 0, 1) := by decide +kernel
theorem d_MD_learns_194 : decode b_MD_learns 194 = .ok (.iload_n 2, 1) := by decide +kernel
theorem d_MD_learns_195 : decode b_MD_learns 195 = .ok (.aload_n 0, 1) := by decide +kernel
theorem d_MD_learns_196 : decode b_MD_learns 196 = .ok (.getfield 48, 3) := by decide +kernel
theorem d_MD_learns_199 : decode b_MD_learns 199 = .ok (.iload_n 2, 1) := by decide +kernel
theorem d_MD_learns_200 : decode b_MD_learns 200 = .ok (.iaload, 1) := by decide +kernel
theorem d_MD_learns_201 : decode b_MD_learns 201 = .ok (.iconst 1, 1) := by decide +kernel
theorem d_MD_learns_202 : decode b_MD_learns 202 = .ok (.isub, 1) := by decide +kernel
theorem d_MD_learns_203 : decode b_MD_learns 203 = .ok (.invokevirtual 121, 3) := by decide +kernel
theorem d_MD_learns_206 : decode b_MD_learns 206 = .ok (.goto 58, 3) := by decide +kernel
theorem d_MD_learns_209 : decode b_MD_learns 209 = .ok (.iload_n 1, 1) := by decide +kernel
theorem d_MD_learns_210 : decode b_MD_learns 210 = .ok (.iconst 3, 1) := by decide +kernel
theorem d_MD_learns_211 : decode b_MD_learns 211 = .ok (.if_icmp .ne 53, 3) := by decide +kernel
theorem d_MD_learns_214 : decode b_MD_learns 214 = .ok (.aload_n 0, 1) := by decide +kernel
theorem d_MD_learns_215 : decode b_MD_learns 215 = .ok (.getfield 42, 3) := by decide +kernel
theorem d_MD_learns_218 : decode b_MD_learns 218 = .ok (.iload_n 2, 1) := by decide +kernel
theorem d_MD_learns_219 : decode b_MD_learns 219 = .ok (.iaload, 1) := by decide +kernel
theorem d_MD_learns_220 : decode b_MD_learns 220 = .ok (.iconst 3, 1) := by decide +kernel
theorem d_MD_learns_221 : decode b_MD_learns 221 = .ok (.if_icmp .ne 43, 3) := by decide +kernel
theorem d_MD_learns_224 : decode b_MD_learns 224 = .ok (.iload 4, 2) := by decide +kernel
theorem d_MD_learns_226 : decode b_MD_learns 226 = .ok (.aload_n 0, 1) := by decide +kernel
theorem d_MD_learns_227 : decode b_MD_learns 227 = .ok (.getfield 48, 3) := by decide +kernel
theorem d_MD_learns_230 : decode b_MD_learns 230 = .ok (.iload_n 2, 1) := by decide +kernel
theorem d_MD_learns_231 : decode b_MD_learns 231 = .ok (.iaload, 1) := by decide +kernel
theorem d_MD_learns_232 : decode b_MD_learns 232 = .ok (.if_icmp .ne 32, 3) := by decide +kernel
theorem d_MD_learns_235 : decode b_MD_learns 235 = .ok (.aload_n 0, 1) := by decide +kernel
theorem d_MD_learns_236 : decode b_MD_learns 236 = .ok (.getfield 57, 3) := by decide +kernel
theorem d_MD_learns_239 : decode b_MD_learns 239 = .ok (.iload 6, 2) := by decide +kernel
theorem d_MD_learns_241 : decode b_MD_learns 241 = .ok (.iconst 1, 1) := by decide +kernel
theorem d_MD_learns_242 : decode b_MD_learns 242 = .ok (.bastore, 1) := by decide +kernel
theorem d_MD_learns_243 : decode b_MD_learns 243 = .ok (.aload_n 0, 1) := by decide +kernel
theorem d_MD_learns_244 : decode b_MD_learns 244 = .ok (.iload_n 2, 1) := by decide +kernel
theorem d_MD_learns_245 : decode b_MD_learns 245 = .ok (.invokevirtual 137, 3) := by decide +kernel
theorem d_MD_learns_248 : decode b_MD_learns 248 = .ok (.aload_n 0, 1) := by decide +kernel
theorem d_MD_learns_249 : decode b_MD_learns 249 = .ok (.getfield 66, 3) := by decide +kernel
theorem d_MD_learns_252 : decode b_MD_learns 252 = .ok (.if_icmp .lt 12, 3) := by decide +kernel
theorem d_MD_learns_255 : decode b_MD_learns 255 = .ok (.aload_n 0, 1) := by decide +kernel
theorem d_MD_learns_256 : decode b_MD_learns 256 = .ok (.iload_n 2, 1) := by decide +kernel
theorem d_MD_learns_257 : decode b_MD_learns 257 = .ok (.iload 4, 2) := by decide +kernel
theorem d_MD_learns_259 : decode b_MD_learns 259 = .ok (.iconst 1, 1) := by decide +kernel
theorem d_MD_learns_260 : decode b_MD_learns 260 = .ok (.iadd, 1) := by decide +kernel
theorem d_MD_learns_261 : decode b_MD_learns 261 = .ok (.invokevirtual 134, 3) := by decide +kernel
theorem d_MD_learns_264 : decode b_MD_learns 264 = .ok (.return_, 1) := by decide +kernel
theorem d_MD_ackCount_0 : decode b_MD_ackCount 0 = .ok (.iconst 0, 1) := by decide +kernel
theorem d_MD_ackCount_1 : decode b_MD_ackCount 1 = .ok (.istore_n 2, 1) := by decide +kernel
theorem d_MD_ackCount_2 : decode b_MD_ackCount 2 = .ok (.iconst 0, 1) := by decide +kernel
theorem d_MD_ackCount_3 : decode b_MD_ackCount 3 = .ok (.istore_n 3, 1) := by decide +kernel
theorem d_MD_ackCount_4 : decode b_MD_ackCount 4 = .ok (.iload_n 3, 1) := by decide +kernel
theorem d_MD_ackCount_5 : decode b_MD_ackCount 5 = .ok (.aload_n 0, 1) := by decide +kernel
theorem d_MD_ackCount_6 : decode b_MD_ackCount 6 = .ok (.getfield 60, 3) := by decide +kernel
theorem d_MD_ackCount_9 : decode b_MD_ackCount 9 = .ok (.if_icmp .ge 31, 3) := by decide +kernel
theorem d_MD_ackCount_12 : decode b_MD_ackCount 12 = .ok (.iload_n 2, 1) := by decide +kernel
theorem d_MD_ackCount_13 : decode b_MD_ackCount 13 = .ok (.aload_n 0, 1) := by decide +kernel
theorem d_MD_ackCount_14 : decode b_MD_ackCount 14 = .ok (.getfield 39, 3) := by decide +kernel
theorem d_MD_ackCount_17 : decode b_MD_ackCount 17 = .ok (.bipush 20, 2) := by decide +kernel
theorem d_MD_ackCount_19 : decode b_MD_ackCount 19 = .ok (.iload_n 3, 1) := by decide +kernel
theorem d_MD_ackCount_20 : decode b_MD_ackCount 20 = .ok (.imul, 1) := by decide +kernel
theorem d_MD_ackCount_21 : decode b_MD_ackCount 21 = .ok (.iload_n 1, 1) := by decide +kernel
theorem d_MD_ackCount_22 : decode b_MD_ackCount 22 = .ok (.iadd, 1) := by decide +kernel
theorem d_MD_ackCount_23 : decode b_MD_ackCount 23 = .ok (.baload, 1) := by decide +kernel
theorem d_MD_ackCount_24 : decode b_MD_ackCount 24 = .ok (.ifCond .eq 7, 3) := by decide +kernel
theorem d_MD_ackCount_27 : decode b_MD_ackCount 27 = .ok (.iconst 1, 1) := by decide +kernel
theorem d_MD_ackCount_28 : decode b_MD_ackCount 28 = .ok (.goto 4, 3) := by decide +kernel
theorem d_MD_ackCount_31 : decode b_MD_ackCount 31 = .ok (.iconst 0, 1) := by decide +kernel
theorem d_MD_ackCount_32 : decode b_MD_ackCount 32 = .ok (.iadd, 1) := by decide +kernel
theorem d_MD_ackCount_33 : decode b_MD_ackCount 33 = .ok (.istore_n 2, 1) := by decide +kernel
theorem d_MD_ackCount_34 : decode b_MD_ackCount 34 = .ok (.iinc 3 1, 3) := by decide +kernel
theorem d_MD_ackCount_37 : decode b_MD_ackCount 37 = .ok (.goto (-33), 3) := by decide +kernel
theorem d_MD_ackCount_40 : decode b_MD_ackCount 40 = .ok (.iload_n 2, 1) := by decide +kernel
theorem d_MD_ackCount_41 : decode b_MD_ackCount 41 = .ok (.ireturn, 1) := by decide +kernel
theorem d_MD_hears_0 : decode b_MD_hears 0 = .ok (.aload_n 0, 1) := by decide +kernel
theorem d_MD_hears_1 : decode b_MD_hears 1 = .ok (.getfield 102, 3) := by decide +kernel
theorem d_MD_hears_4 : decode b_MD_hears 4 = .ok (.ifCond .eq 4, 3) := by decide +kernel
theorem d_MD_hears_7 : decode b_MD_hears 7 = .ok (.return_, 1) := by decide +kernel
theorem d_MD_hears_8 : decode b_MD_hears 8 = .ok (.iload_n 1, 1) := by decide +kernel
theorem d_MD_hears_9 : decode b_MD_hears 9 = .ok (.iconst 4, 1) := by decide +kernel
