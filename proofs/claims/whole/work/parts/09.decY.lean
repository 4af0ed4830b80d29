theorem dX10_asleepAll_0 : decode cX10_asleepAll 0 = .ok (.iconst 0, 1) := by decide +kernel
theorem dX10_asleepAll_1 : decode cX10_asleepAll 1 = .ok (.istore_n 1, 1) := by decide +kernel
theorem dX10_asleepAll_2 : decode cX10_asleepAll 2 = .ok (.iconst 0, 1) := by decide +kernel
theorem dX10_asleepAll_3 : decode cX10_asleepAll 3 = .ok (.istore_n 2, 1) := by decide +kernel
theorem dX10_asleepAll_4 : decode cX10_asleepAll 4 = .ok (.iload_n 2, 1) := by decide +kernel
theorem dX10_asleepAll_5 : decode cX10_asleepAll 5 = .ok (.aload_n 0, 1) := by decide +kernel
theorem dX10_asleepAll_6 : decode cX10_asleepAll 6 = .ok (.getfield 156, 3) := by decide +kernel
theorem dX10_asleepAll_9 : decode cX10_asleepAll 9 = .ok (.if_icmp .ge 25, 3) := by decide +kernel
theorem dX10_asleepAll_12 : decode cX10_asleepAll 12 = .ok (.iload_n 1, 1) := by decide +kernel
theorem dX10_asleepAll_13 : decode cX10_asleepAll 13 = .ok (.aload_n 0, 1) := by decide +kernel
theorem dX10_asleepAll_14 : decode cX10_asleepAll 14 = .ok (.iload_n 2, 1) := by decide +kernel
theorem dX10_asleepAll_15 : decode cX10_asleepAll 15 = .ok (.invokevirtual 343, 3) := by decide +kernel
theorem dX10_asleepAll_18 : decode cX10_asleepAll 18 = .ok (.ifCond .eq 7, 3) := by decide +kernel
theorem dX10_asleepAll_21 : decode cX10_asleepAll 21 = .ok (.iconst 1, 1) := by decide +kernel
theorem dX10_asleepAll_22 : decode cX10_asleepAll 22 = .ok (.goto 4, 3) := by decide +kernel
theorem dX10_asleepAll_25 : decode cX10_asleepAll 25 = .ok (.iconst 0, 1) := by decide +kernel
theorem dX10_asleepAll_26 : decode cX10_asleepAll 26 = .ok (.iadd, 1) := by decide +kernel
theorem dX10_asleepAll_27 : decode cX10_asleepAll 27 = .ok (.istore_n 1, 1) := by decide +kernel
theorem dX10_asleepAll_28 : decode cX10_asleepAll 28 = .ok (.iinc 2 1, 3) := by decide +kernel
theorem dX10_asleepAll_31 : decode cX10_asleepAll 31 = .ok (.goto (-27), 3) := by decide +kernel
theorem dX10_asleepAll_34 : decode cX10_asleepAll 34 = .ok (.iload_n 1, 1) := by decide +kernel
theorem dX10_asleepAll_35 : decode cX10_asleepAll 35 = .ok (.ireturn, 1) := by decide +kernel
theorem dX10_begins_0 : decode cX10_begins 0 = .ok (.aload_n 0, 1) := by decide +kernel
theorem dX10_begins_1 : decode cX10_begins 1 = .ok (.iconst 0, 1) := by decide +kernel
theorem dX10_begins_2 : decode cX10_begins 2 = .ok (.putfield 98, 3) := by decide +kernel
theorem dX10_begins_5 : decode cX10_begins 5 = .ok (.aload_n 0, 1) := by decide +kernel
theorem dX10_begins_6 : decode cX10_begins 6 = .ok (.iconst (-1), 1) := by decide +kernel
theorem dX10_begins_7 : decode cX10_begins 7 = .ok (.putfield 17, 3) := by decide +kernel
theorem dX10_begins_10 : decode cX10_begins 10 = .ok (.aload_n 0, 1) := by decide +kernel
theorem dX10_begins_11 : decode cX10_begins 11 = .ok (.iload_n 1, 1) := by decide +kernel
theorem dX10_begins_12 : decode cX10_begins 12 = .ok (.putfield 110, 3) := by decide +kernel
theorem dX10_begins_15 : decode cX10_begins 15 = .ok (.aload_n 0, 1) := by decide +kernel
theorem dX10_begins_16 : decode cX10_begins 16 = .ok (.iconst 0, 1) := by decide +kernel
theorem dX10_begins_17 : decode cX10_begins 17 = .ok (.putfield 107, 3) := by decide +kernel
theorem dX10_begins_20 : decode cX10_begins 20 = .ok (.aload_n 0, 1) := by decide +kernel
theorem dX10_begins_21 : decode cX10_begins 21 = .ok (.iconst (-1), 1) := by decide +kernel
theorem dX10_begins_22 : decode cX10_begins 22 = .ok (.putfield 101, 3) := by decide +kernel
theorem dX10_begins_25 : decode cX10_begins 25 = .ok (.aload_n 0, 1) := by decide +kernel
theorem dX10_begins_26 : decode cX10_begins 26 = .ok (.iconst 0, 1) := by decide +kernel
theorem dX10_begins_27 : decode cX10_begins 27 = .ok (.putfield 141, 3) := by decide +kernel
theorem dX10_begins_30 : decode cX10_begins 30 = .ok (.return_, 1) := by decide +kernel
theorem dX10_best_0 : decode cX10_best 0 = .ok (.aload_n 0, 1) := by decide +kernel
theorem dX10_best_1 : decode cX10_best 1 = .ok (.iconst 0, 1) := by decide +kernel
theorem dX10_best_2 : decode cX10_best 2 = .ok (.putfield 3, 3) := by decide +kernel
theorem dX10_best_5 : decode cX10_best 5 = .ok (.aload_n 0, 1) := by decide +kernel
theorem dX10_best_6 : decode cX10_best 6 = .ok (.iload_n 1, 1) := by decide +kernel
theorem dX10_best_7 : decode cX10_best 7 = .ok (.iconst 1, 1) := by decide +kernel
theorem dX10_best_8 : decode cX10_best 8 = .ok (.invokevirtual 383, 3) := by decide +kernel
theorem dX10_best_11 : decode cX10_best 11 = .ok (.ifCond .eq 16, 3) := by decide +kernel
theorem dX10_best_14 : decode cX10_best 14 = .ok (.aload_n 0, 1) := by decide +kernel
theorem dX10_best_15 : decode cX10_best 15 = .ok (.iload_n 2, 1) := by decide +kernel
theorem dX10_best_16 : decode cX10_best 16 = .ok (.invokestatic 386, 3) := by decide +kernel
theorem dX10_best_19 : decode cX10_best 19 = .ok (.iconst 2, 1) := by decide +kernel
theorem dX10_best_20 : decode cX10_best 20 = .ok (.iconst 1, 1) := by decide +kernel
theorem dX10_best_21 : decode cX10_best 21 = .ok (.invokevirtual 203, 3) := by decide +kernel
theorem dX10_best_24 : decode cX10_best 24 = .ok (.ifCond .ne 5, 3) := by decide +kernel
theorem dX10_best_27 : decode cX10_best 27 = .ok (.iconst 0, 1) := by decide +kernel
theorem dX10_best_28 : decode cX10_best 28 = .ok (.ireturn, 1) := by decide +kernel
theorem dX10_best_29 : decode cX10_best 29 = .ok (.iconst 0, 1) := by decide +kernel
theorem dX10_best_30 : decode cX10_best 30 = .ok (.istore_n 3, 1) := by decide +kernel
theorem dX10_best_31 : decode cX10_best 31 = .ok (.iconst (-1), 1) := by decide +kernel
theorem dX10_best_32 : decode cX10_best 32 = .ok (.istore 4, 2) := by decide +kernel
theorem dX10_best_34 : decode cX10_best 34 = .ok (.iconst 0, 1) := by decide +kernel
theorem dX10_best_35 : decode cX10_best 35 = .ok (.istore 5, 2) := by decide +kernel
theorem dX10_best_37 : decode cX10_best 37 = .ok (.iload 5, 2) := by decide +kernel
theorem dX10_best_39 : decode cX10_best 39 = .ok (.bipush 30, 2) := by decide +kernel
theorem dX10_best_41 : decode cX10_best 41 = .ok (.if_icmp .gt 36, 3) := by decide +kernel
theorem dX10_best_44 : decode cX10_best 44 = .ok (.aload_n 0, 1) := by decide +kernel
theorem dX10_best_45 : decode cX10_best 45 = .ok (.iload_n 1, 1) := by decide +kernel
theorem dX10_best_46 : decode cX10_best 46 = .ok (.iload 5, 2) := by decide +kernel
theorem dX10_best_48 : decode cX10_best 48 = .ok (.iload_n 2, 1) := by decide +kernel
theorem dX10_best_49 : decode cX10_best 49 = .ok (.invokevirtual 395, 3) := by decide +kernel
theorem dX10_best_52 : decode cX10_best 52 = .ok (.istore 6, 2) := by decide +kernel
theorem dX10_best_54 : decode cX10_best 54 = .ok (.iload 6, 2) := by decide +kernel
theorem dX10_best_56 : decode cX10_best 56 = .ok (.iload 4, 2) := by decide +kernel
theorem dX10_best_58 : decode cX10_best 58 = .ok (.if_icmp .gt 6, 3) := by decide +kernel
theorem dX10_best_61 : decode cX10_best 61 = .ok (.goto 10, 3) := by decide +kernel
theorem dX10_best_64 : decode cX10_best 64 = .ok (.iload 5, 2) := by decide +kernel
theorem dX10_best_66 : decode cX10_best 66 = .ok (.istore_n 3, 1) := by decide +kernel
theorem dX10_best_67 : decode cX10_best 67 = .ok (.iload 6, 2) := by decide +kernel
theorem dX10_best_69 : decode cX10_best 69 = .ok (.istore 4, 2) := by decide +kernel
theorem dX10_best_71 : decode cX10_best 71 = .ok (.iinc 5 1, 3) := by decide +kernel
theorem dX10_best_74 : decode cX10_best 74 = .ok (.goto (-37), 3) := by decide +kernel
theorem dX10_best_77 : decode cX10_best 77 = .ok (.iload_n 3, 1) := by decide +kernel
theorem dX10_best_78 : decode cX10_best 78 = .ok (.ireturn, 1) := by decide +kernel
theorem dX10_book_0 : decode cX10_book 0 = .ok (.aload_n 0, 1) := by decide +kernel
theorem dX10_book_1 : decode cX10_book 1 = .ok (.iconst 0, 1) := by decide +kernel
theorem dX10_book_2 : decode cX10_book 2 = .ok (.putfield 3, 3) := by decide +kernel
theorem dX10_book_5 : decode cX10_book 5 = .ok (.aload_n 0, 1) := by decide +kernel
theorem dX10_book_6 : decode cX10_book 6 = .ok (.iload_n 1, 1) := by decide +kernel
theorem dX10_book_7 : decode cX10_book 7 = .ok (.ifCond .lt 21, 3) := by decide +kernel
theorem dX10_book_10 : decode cX10_book 10 = .ok (.iload_n 1, 1) := by decide +kernel
theorem dX10_book_11 : decode cX10_book 11 = .ok (.aload_n 0, 1) := by decide +kernel
theorem dX10_book_12 : decode cX10_book 12 = .ok (.getfield 98, 3) := by decide +kernel
theorem dX10_book_15 : decode cX10_book 15 = .ok (.if_icmp .gt 13, 3) := by decide +kernel
theorem dX10_book_18 : decode cX10_book 18 = .ok (.iload_n 1, 1) := by decide +kernel
theorem dX10_book_19 : decode cX10_book 19 = .ok (.bipush 100, 2) := by decide +kernel
theorem dX10_book_21 : decode cX10_book 21 = .ok (.if_icmp .gt 7, 3) := by decide +kernel
theorem dX10_book_24 : decode cX10_book 24 = .ok (.iconst 1, 1) := by decide +kernel
theorem dX10_book_25 : decode cX10_book 25 = .ok (.goto 4, 3) := by decide +kernel
theorem dX10_book_28 : decode cX10_book 28 = .ok (.iconst 0, 1) := by decide +kernel
theorem dX10_book_29 : decode cX10_book 29 = .ok (.iconst 1, 1) := by decide +kernel
theorem dX10_book_30 : decode cX10_book 30 = .ok (.iconst 1, 1) := by decide +kernel
theorem dX10_book_31 : decode cX10_book 31 = .ok (.invokevirtual 203, 3) := by decide +kernel
theorem dX10_book_34 : decode cX10_book 34 = .ok (.ifCond .ne 5, 3) := by decide +kernel
theorem dX10_book_37 : decode cX10_book 37 = .ok (.iconst 0, 1) := by decide +kernel
theorem dX10_book_38 : decode cX10_book 38 = .ok (.ireturn, 1) := by decide +kernel
theorem dX10_book_39 : decode cX10_book 39 = .ok (.aload_n 0, 1) := by decide +kernel
theorem dX10_book_40 : decode cX10_book 40 = .ok (.iload_n 1, 1) := by decide +kernel
theorem dX10_book_41 : decode cX10_book 41 = .ok (.invokevirtual 207, 3) := by decide +kernel
theorem dX10_book_44 : decode cX10_book 44 = .ok (.iconst 0, 1) := by decide +kernel
theorem dX10_book_45 : decode cX10_book 45 = .ok (.istore_n 2, 1) := by decide +kernel
theorem dX10_book_46 : decode cX10_book 46 = .ok (.aload_n 0, 1) := by decide +kernel
theorem dX10_book_47 : decode cX10_book 47 = .ok (.invokevirtual 130, 3) := by decide +kernel
theorem dX10_book_50 : decode cX10_book 50 = .ok (.ifCond .eq 139, 3) := by decide +kernel
theorem dX10_book_53 : decode cX10_book 53 = .ok (.aload_n 0, 1) := by decide +kernel
theorem dX10_book_54 : decode cX10_book 54 = .ok (.invokevirtual 211, 3) := by decide +kernel
theorem dX10_book_57 : decode cX10_book 57 = .ok (.ifCond .eq 132, 3) := by decide +kernel
theorem dX10_book_60 : decode cX10_book 60 = .ok (.aload_n 0, 1) := by decide +kernel
theorem dX10_book_61 : decode cX10_book 61 = .ok (.getfield 107, 3) := by decide +kernel
theorem dX10_book_64 : decode cX10_book 64 = .ok (.istore_n 3, 1) := by decide +kernel
theorem dX10_book_65 : decode cX10_book 65 = .ok (.aload_n 0, 1) := by decide +kernel
theorem dX10_book_66 : decode cX10_book 66 = .ok (.iconst 0, 1) := by decide +kernel
theorem dX10_book_67 : decode cX10_book 67 = .ok (.sipush 239, 3) := by decide +kernel
theorem dX10_book_70 : decode cX10_book 70 = .ok (.invokevirtual 181, 3) := by decide +kernel
theorem dX10_book_73 : decode cX10_book 73 = .ok (.istore 4, 2) := by decide +kernel
theorem dX10_book_75 : decode cX10_book 75 = .ok (.iconst 0, 1) := by decide +kernel
theorem dX10_book_76 : decode cX10_book 76 = .ok (.istore 5, 2) := by decide +kernel
theorem dX10_book_78 : decode cX10_book 78 = .ok (.iload 5, 2) := by decide +kernel
theorem dX10_book_80 : decode cX10_book 80 = .ok (.iload_n 2, 1) := by decide +kernel
theorem dX10_book_81 : decode cX10_book 81 = .ok (.if_icmp .ge 36, 3) := by decide +kernel
theorem dX10_book_84 : decode cX10_book 84 = .ok (.aload_n 0, 1) := by decide +kernel
theorem dX10_book_85 : decode cX10_book 85 = .ok (.invokevirtual 130, 3) := by decide +kernel
theorem dX10_book_88 : decode cX10_book 88 = .ok (.ifCond .eq 29, 3) := by decide +kernel
theorem dX10_book_91 : decode cX10_book 91 = .ok (.aload_n 0, 1) := by decide +kernel
theorem dX10_book_92 : decode cX10_book 92 = .ok (.getfield 77, 3) := by decide +kernel
theorem dX10_book_95 : decode cX10_book 95 = .ok (.iconst 2, 1) := by decide +kernel
theorem dX10_book_96 : decode cX10_book 96 = .ok (.iload 5, 2) := by decide +kernel
theorem dX10_book_98 : decode cX10_book 98 = .ok (.imul, 1) := by decide +kernel
theorem dX10_book_99 : decode cX10_book 99 = .ok (.iaload, 1) := by decide +kernel
theorem dX10_book_100 : decode cX10_book 100 = .ok (.iload 4, 2) := by decide +kernel
theorem dX10_book_102 : decode cX10_book 102 = .ok (.if_icmp .ne 9, 3) := by decide +kernel
theorem dX10_book_105 : decode cX10_book 105 = .ok (.aload_n 0, 1) := by decide +kernel
theorem dX10_book_106 : decode cX10_book 106 = .ok (.iconst 2, 1) := by decide +kernel
theorem dX10_book_107 : decode cX10_book 107 = .ok (.iload_n 3, 1) := by decide +kernel
theorem dX10_book_108 : decode cX10_book 108 = .ok (.invokevirtual 137, 3) := by decide +kernel
theorem dX10_book_111 : decode cX10_book 111 = .ok (.iinc 5 1, 3) := by decide +kernel
theorem dX10_book_114 : decode cX10_book 114 = .ok (.goto (-36), 3) := by decide +kernel
theorem dX10_book_117 : decode cX10_book 117 = .ok (.aload_n 0, 1) := by decide +kernel
theorem dX10_book_118 : decode cX10_book 118 = .ok (.invokevirtual 130, 3) := by decide +kernel
theorem dX10_book_121 : decode cX10_book 121 = .ok (.ifCond .eq 15, 3) := by decide +kernel
theorem dX10_book_124 : decode cX10_book 124 = .ok (.iload_n 2, 1) := by decide +kernel
theorem dX10_book_125 : decode cX10_book 125 = .ok (.bipush 8, 2) := by decide +kernel
theorem dX10_book_127 : decode cX10_book 127 = .ok (.if_icmp .ne 9, 3) := by decide +kernel
theorem dX10_book_130 : decode cX10_book 130 = .ok (.aload_n 0, 1) := by decide +kernel
theorem dX10_book_131 : decode cX10_book 131 = .ok (.iconst 3, 1) := by decide +kernel
theorem dX10_book_132 : decode cX10_book 132 = .ok (.iload_n 3, 1) := by decide +kernel
theorem dX10_book_133 : decode cX10_book 133 = .ok (.invokevirtual 137, 3) := by decide +kernel
theorem dX10_book_136 : decode cX10_book 136 = .ok (.aload_n 0, 1) := by decide +kernel
theorem dX10_book_137 : decode cX10_book 137 = .ok (.iconst 0, 1) := by decide +kernel
theorem dX10_book_138 : decode cX10_book 138 = .ok (.bipush 40, 2) := by decide +kernel
theorem dX10_book_140 : decode cX10_book 140 = .ok (.invokevirtual 181, 3) := by decide +kernel
theorem dX10_book_143 : decode cX10_book 143 = .ok (.istore 5, 2) := by decide +kernel
theorem dX10_book_145 : decode cX10_book 145 = .ok (.aload_n 0, 1) := by decide +kernel
theorem dX10_book_146 : decode cX10_book 146 = .ok (.bipush 59, 2) := by decide +kernel
theorem dX10_book_148 : decode cX10_book 148 = .ok (.invokevirtual 234, 3) := by decide +kernel
theorem dX10_book_151 : decode cX10_book 151 = .ok (.aload_n 0, 1) := by decide +kernel
theorem dX10_book_152 : decode cX10_book 152 = .ok (.invokevirtual 130, 3) := by decide +kernel
theorem dX10_book_155 : decode cX10_book 155 = .ok (.ifCond .ne 6, 3) := by decide +kernel
theorem dX10_book_158 : decode cX10_book 158 = .ok (.goto 31, 3) := by decide +kernel
theorem dX10_book_161 : decode cX10_book 161 = .ok (.aload_n 0, 1) := by decide +kernel
theorem dX10_book_162 : decode cX10_book 162 = .ok (.getfield 77, 3) := by decide +kernel
theorem dX10_book_165 : decode cX10_book 165 = .ok (.iconst 2, 1) := by decide +kernel
theorem dX10_book_166 : decode cX10_book 166 = .ok (.iload_n 2, 1) := by decide +kernel
theorem dX10_book_167 : decode cX10_book 167 = .ok (.imul, 1) := by decide +kernel
theorem dX10_book_168 : decode cX10_book 168 = .ok (.iload 4, 2) := by decide +kernel
theorem dX10_book_170 : decode cX10_book 170 = .ok (.iastore, 1) := by decide +kernel
theorem dX10_book_171 : decode cX10_book 171 = .ok (.aload_n 0, 1) := by decide +kernel
theorem dX10_book_172 : decode cX10_book 172 = .ok (.getfield 77, 3) := by decide +kernel
theorem dX10_book_175 : decode cX10_book 175 = .ok (.iconst 2, 1) := by decide +kernel
theorem dX10_book_176 : decode cX10_book 176 = .ok (.iload_n 2, 1) := by decide +kernel
theorem dX10_book_177 : decode cX10_book 177 = .ok (.imul, 1) := by decide +kernel
theorem dX10_book_178 : decode cX10_book 178 = .ok (.iconst 1, 1) := by decide +kernel
theorem dX10_book_179 : decode cX10_book 179 = .ok (.iadd, 1) := by decide +kernel
theorem dX10_book_180 : decode cX10_book 180 = .ok (.iload 5, 2) := by decide +kernel
theorem dX10_book_182 : decode cX10_book 182 = .ok (.iastore, 1) := by decide +kernel
theorem dX10_book_183 : decode cX10_book 183 = .ok (.iinc 2 1, 3) := by decide +kernel
theorem dX10_book_186 : decode cX10_book 186 = .ok (.goto (-140), 3) := by decide +kernel
theorem dX10_book_189 : decode cX10_book 189 = .ok (.aload_n 0, 1) := by decide +kernel
theorem dX10_book_190 : decode cX10_book 190 = .ok (.iload_n 2, 1) := by decide +kernel
theorem dX10_book_191 : decode cX10_book 191 = .ok (.invokevirtual 237, 3) := by decide +kernel
theorem dX10_book_194 : decode cX10_book 194 = .ok (.istore_n 3, 1) := by decide +kernel
theorem dX10_book_195 : decode cX10_book 195 = .ok (.aload_n 0, 1) := by decide +kernel
theorem dX10_book_196 : decode cX10_book 196 = .ok (.getfield 101, 3) := by decide +kernel
theorem dX10_book_199 : decode cX10_book 199 = .ok (.iconst (-1), 1) := by decide +kernel
theorem dX10_book_200 : decode cX10_book 200 = .ok (.if_icmp .eq 5, 3) := by decide +kernel
theorem dX10_book_203 : decode cX10_book 203 = .ok (.iload_n 3, 1) := by decide +kernel
theorem dX10_book_204 : decode cX10_book 204 = .ok (.ireturn, 1) := by decide +kernel
theorem dX10_book_205 : decode cX10_book 205 = .ok (.aload_n 0, 1) := by decide +kernel
theorem dX10_book_206 : decode cX10_book 206 = .ok (.iload_n 2, 1) := by decide +kernel
theorem dX10_book_207 : decode cX10_book 207 = .ok (.putfield 169, 3) := by decide +kernel
theorem dX10_book_210 : decode cX10_book 210 = .ok (.aload_n 0, 1) := by decide +kernel
theorem dX10_book_211 : decode cX10_book 211 = .ok (.aload_n 0, 1) := by decide +kernel
theorem dX10_book_212 : decode cX10_book 212 = .ok (.getfield 77, 3) := by decide +kernel
theorem dX10_book_215 : decode cX10_book 215 = .ok (.aload_n 0, 1) := by decide +kernel
theorem dX10_book_216 : decode cX10_book 216 = .ok (.getfield 80, 3) := by decide +kernel
theorem dX10_book_219 : decode cX10_book 219 = .ok (.iconst 2, 1) := by decide +kernel
theorem dX10_book_220 : decode cX10_book 220 = .ok (.iload_n 2, 1) := by decide +kernel
theorem dX10_book_221 : decode cX10_book 221 = .ok (.imul, 1) := by decide +kernel
theorem dX10_book_222 : decode cX10_book 222 = .ok (.invokevirtual 165, 3) := by decide +kernel
theorem dX10_book_225 : decode cX10_book 225 = .ok (.iload_n 3, 1) := by decide +kernel
theorem dX10_book_226 : decode cX10_book 226 = .ok (.ireturn, 1) := by decide +kernel
theorem dX10_both_0 : decode cX10_both 0 = .ok (.iload_n 0, 1) := by decide +kernel
theorem dX10_both_1 : decode cX10_both 1 = .ok (.iconst 2, 1) := by decide +kernel
theorem dX10_both_2 : decode cX10_both 2 = .ok (.if_icmp .ne 7, 3) := by decide +kernel
theorem dX10_both_5 : decode cX10_both 5 = .ok (.iload_n 1, 1) := by decide +kernel
theorem dX10_both_6 : decode cX10_both 6 = .ok (.iload_n 2, 1) := by decide +kernel
theorem dX10_both_7 : decode cX10_both 7 = .ok (.iadd, 1) := by decide +kernel
theorem dX10_both_8 : decode cX10_both 8 = .ok (.ireturn, 1) := by decide +kernel
theorem dX10_both_9 : decode cX10_both 9 = .ok (.iload_n 0, 1) := by decide +kernel
theorem dX10_both_10 : decode cX10_both 10 = .ok (.iconst 3, 1) := by decide +kernel
theorem dX10_both_11 : decode cX10_both 11 = .ok (.if_icmp .ne 7, 3) := by decide +kernel
theorem dX10_both_14 : decode cX10_both 14 = .ok (.iload_n 1, 1) := by decide +kernel
theorem dX10_both_15 : decode cX10_both 15 = .ok (.iload_n 2, 1) := by decide +kernel
theorem dX10_both_16 : decode cX10_both 16 = .ok (.isub, 1) := by decide +kernel
theorem dX10_both_17 : decode cX10_both 17 = .ok (.ireturn, 1) := by decide +kernel
theorem dX10_both_18 : decode cX10_both 18 = .ok (.iload_n 0, 1) := by decide +kernel
theorem dX10_both_19 : decode cX10_both 19 = .ok (.iconst 4, 1) := by decide +kernel
theorem dX10_both_20 : decode cX10_both 20 = .ok (.if_icmp .ne 7, 3) := by decide +kernel
theorem dX10_both_23 : decode cX10_both 23 = .ok (.iload_n 1, 1) := by decide +kernel
theorem dX10_both_24 : decode cX10_both 24 = .ok (.iload_n 2, 1) := by decide +kernel
theorem dX10_both_25 : decode cX10_both 25 = .ok (.imul, 1) := by decide +kernel
theorem dX10_both_26 : decode cX10_both 26 = .ok (.ireturn, 1) := by decide +kernel
theorem dX10_both_27 : decode cX10_both 27 = .ok (.iload_n 0, 1) := by decide +kernel
theorem dX10_both_28 : decode cX10_both 28 = .ok (.iconst 5, 1) := by decide +kernel
theorem dX10_both_29 : decode cX10_both 29 = .ok (.if_icmp .ne 15, 3) := by decide +kernel
theorem dX10_both_32 : decode cX10_both 32 = .ok (.iload_n 2, 1) := by decide +kernel
theorem dX10_both_33 : decode cX10_both 33 = .ok (.ifCond .ne 7, 3) := by decide +kernel
theorem dX10_both_36 : decode cX10_both 36 = .ok (.iconst 0, 1) := by decide +kernel
theorem dX10_both_37 : decode cX10_both 37 = .ok (.goto 6, 3) := by decide +kernel
theorem dX10_both_40 : decode cX10_both 40 = .ok (.iload_n 1, 1) := by decide +kernel
theorem dX10_both_41 : decode cX10_both 41 = .ok (.iload_n 2, 1) := by decide +kernel
theorem dX10_both_42 : decode cX10_both 42 = .ok (.idiv, 1) := by decide +kernel
theorem dX10_both_43 : decode cX10_both 43 = .ok (.ireturn, 1) := by decide +kernel
theorem dX10_both_44 : decode cX10_both 44 = .ok (.iload_n 1, 1) := by decide +kernel
theorem dX10_both_45 : decode cX10_both 45 = .ok (.iload_n 2, 1) := by decide +kernel
theorem dX10_both_46 : decode cX10_both 46 = .ok (.if_icmp .ge 7, 3) := by decide +kernel
theorem dX10_both_49 : decode cX10_both 49 = .ok (.iconst 1, 1) := by decide +kernel
theorem dX10_both_50 : decode cX10_both 50 = .ok (.goto 4, 3) := by decide +kernel
theorem dX10_both_53 : decode cX10_both 53 = .ok (.iconst 0, 1) := by decide +kernel
theorem dX10_both_54 : decode cX10_both 54 = .ok (.iload_n 0, 1) := by decide +kernel
theorem dX10_both_55 : decode cX10_both 55 = .ok (.bipush 6, 2) := by decide +kernel
theorem dX10_both_57 : decode cX10_both 57 = .ok (.if_icmp .ne 7, 3) := by decide +kernel
theorem dX10_both_60 : decode cX10_both 60 = .ok (.iconst 1, 1) := by decide +kernel
theorem dX10_both_61 : decode cX10_both 61 = .ok (.goto 4, 3) := by decide +kernel
theorem dX10_both_64 : decode cX10_both 64 = .ok (.iconst 0, 1) := by decide +kernel
theorem dX10_both_65 : decode cX10_both 65 = .ok (.if_icmp .ne 7, 3) := by decide +kernel
theorem dX10_both_68 : decode cX10_both 68 = .ok (.iload_n 1, 1) := by decide +kernel
theorem dX10_both_69 : decode cX10_both 69 = .ok (.goto 4, 3) := by decide +kernel
theorem dX10_both_72 : decode cX10_both 72 = .ok (.iload_n 2, 1) := by decide +kernel
theorem dX10_both_73 : decode cX10_both 73 = .ok (.ireturn, 1) := by decide +kernel
theorem dX10_changes_0 : decode cX10_changes 0 = .ok (.aload_n 0, 1) := by decide +kernel
theorem dX10_changes_1 : decode cX10_changes 1 = .ok (.iconst 0, 1) := by decide +kernel
theorem dX10_changes_2 : decode cX10_changes 2 = .ok (.putfield 3, 3) := by decide +kernel
theorem dX10_changes_5 : decode cX10_changes 5 = .ok (.aload_n 0, 1) := by decide +kernel
theorem dX10_changes_6 : decode cX10_changes 6 = .ok (.iload_n 1, 1) := by decide +kernel
theorem dX10_changes_7 : decode cX10_changes 7 = .ok (.iconst 1, 1) := by decide +kernel
theorem dX10_changes_8 : decode cX10_changes 8 = .ok (.invokevirtual 383, 3) := by decide +kernel
theorem dX10_changes_11 : decode cX10_changes 11 = .ok (.ifCond .ne 5, 3) := by decide +kernel
theorem dX10_changes_14 : decode cX10_changes 14 = .ok (.iconst 0, 1) := by decide +kernel
theorem dX10_changes_15 : decode cX10_changes 15 = .ok (.ireturn, 1) := by decide +kernel
theorem dX10_changes_16 : decode cX10_changes 16 = .ok (.aload_n 0, 1) := by decide +kernel
theorem dX10_changes_17 : decode cX10_changes 17 = .ok (.invokevirtual 316, 3) := by decide +kernel
theorem dX10_changes_20 : decode cX10_changes 20 = .ok (.aload_n 0, 1) := by decide +kernel
theorem dX10_changes_21 : decode cX10_changes 21 = .ok (.getfield 65, 3) := by decide +kernel
theorem dX10_changes_24 : decode cX10_changes 24 = .ok (.bipush 40, 2) := by decide +kernel
theorem dX10_changes_26 : decode cX10_changes 26 = .ok (.iaload, 1) := by decide +kernel
theorem dX10_changes_27 : decode cX10_changes 27 = .ok (.sipush 240, 3) := by decide +kernel
theorem dX10_changes_30 : decode cX10_changes 30 = .ok (.if_icmp .ge 20, 3) := by decide +kernel
theorem dX10_changes_33 : decode cX10_changes 33 = .ok (.aload_n 0, 1) := by decide +kernel
theorem dX10_changes_34 : decode cX10_changes 34 = .ok (.iload_n 1, 1) := by decide +kernel
theorem dX10_changes_35 : decode cX10_changes 35 = .ok (.aload_n 0, 1) := by decide +kernel
theorem dX10_changes_36 : decode cX10_changes 36 = .ok (.iload_n 1, 1) := by decide +kernel
theorem dX10_changes_37 : decode cX10_changes 37 = .ok (.invokevirtual 355, 3) := by decide +kernel
theorem dX10_changes_40 : decode cX10_changes 40 = .ok (.invokevirtual 358, 3) := by decide +kernel
theorem dX10_changes_43 : decode cX10_changes 43 = .ok (.ifCond .eq 7, 3) := by decide +kernel
theorem dX10_changes_46 : decode cX10_changes 46 = .ok (.iconst 1, 1) := by decide +kernel
theorem dX10_changes_47 : decode cX10_changes 47 = .ok (.goto 4, 3) := by decide +kernel
theorem dX10_changes_50 : decode cX10_changes 50 = .ok (.iconst 0, 1) := by decide +kernel
theorem dX10_changes_51 : decode cX10_changes 51 = .ok (.ireturn, 1) := by decide +kernel
theorem dX10_clears_0 : decode cX10_clears 0 = .ok (.aload_n 0, 1) := by decide +kernel
theorem dX10_clears_1 : decode cX10_clears 1 = .ok (.iconst 0, 1) := by decide +kernel
theorem dX10_clears_2 : decode cX10_clears 2 = .ok (.putfield 144, 3) := by decide +kernel
theorem dX10_clears_5 : decode cX10_clears 5 = .ok (.aload_n 0, 1) := by decide +kernel
theorem dX10_clears_6 : decode cX10_clears 6 = .ok (.iconst 0, 1) := by decide +kernel
theorem dX10_clears_7 : decode cX10_clears 7 = .ok (.putfield 147, 3) := by decide +kernel
theorem dX10_clears_10 : decode cX10_clears 10 = .ok (.aload_n 0, 1) := by decide +kernel
theorem dX10_clears_11 : decode cX10_clears 11 = .ok (.bipush 10, 2) := by decide +kernel
theorem dX10_clears_13 : decode cX10_clears 13 = .ok (.putfield 150, 3) := by decide +kernel
theorem dX10_clears_16 : decode cX10_clears 16 = .ok (.aload_n 0, 1) := by decide +kernel
theorem dX10_clears_17 : decode cX10_clears 17 = .ok (.bipush 9, 2) := by decide +kernel
theorem dX10_clears_19 : decode cX10_clears 19 = .ok (.putfield 153, 3) := by decide +kernel
theorem dX10_clears_22 : decode cX10_clears 22 = .ok (.iconst 0, 1) := by decide +kernel
theorem dX10_clears_23 : decode cX10_clears 23 = .ok (.istore_n 1, 1) := by decide +kernel
theorem dX10_clears_24 : decode cX10_clears 24 = .ok (.iload_n 1, 1) := by decide +kernel
theorem dX10_clears_25 : decode cX10_clears 25 = .ok (.bipush 60, 2) := by decide +kernel
theorem dX10_clears_27 : decode cX10_clears 27 = .ok (.if_icmp .ge 16, 3) := by decide +kernel
theorem dX10_clears_30 : decode cX10_clears 30 = .ok (.aload_n 0, 1) := by decide +kernel
theorem dX10_clears_31 : decode cX10_clears 31 = .ok (.getfield 26, 3) := by decide +kernel
theorem dX10_clears_34 : decode cX10_clears 34 = .ok (.iload_n 1, 1) := by decide +kernel
theorem dX10_clears_35 : decode cX10_clears 35 = .ok (.iconst 0, 1) := by decide +kernel
theorem dX10_clears_36 : decode cX10_clears 36 = .ok (.iastore, 1) := by decide +kernel
theorem dX10_clears_37 : decode cX10_clears 37 = .ok (.iinc 1 1, 3) := by decide +kernel
theorem dX10_clears_40 : decode cX10_clears 40 = .ok (.goto (-16), 3) := by decide +kernel
theorem dX10_clears_43 : decode cX10_clears 43 = .ok (.return_, 1) := by decide +kernel
theorem dX10_clock_0 : decode cX10_clock 0 = .ok (.aload_n 0, 1) := by decide +kernel
theorem dX10_clock_1 : decode cX10_clock 1 = .ok (.iconst 0, 1) := by decide +kernel
theorem dX10_clock_2 : decode cX10_clock 2 = .ok (.putfield 3, 3) := by decide +kernel
theorem dX10_clock_5 : decode cX10_clock 5 = .ok (.aload_n 0, 1) := by decide +kernel
theorem dX10_clock_6 : decode cX10_clock 6 = .ok (.iload_n 1, 1) := by decide +kernel
theorem dX10_clock_7 : decode cX10_clock 7 = .ok (.iconst 0, 1) := by decide +kernel
theorem dX10_clock_8 : decode cX10_clock 8 = .ok (.sipush 240, 3) := by decide +kernel
theorem dX10_clock_11 : decode cX10_clock 11 = .ok (.invokestatic 282, 3) := by decide +kernel
theorem dX10_clock_14 : decode cX10_clock 14 = .ok (.iconst 1, 1) := by decide +kernel
theorem dX10_clock_15 : decode cX10_clock 15 = .ok (.iconst 1, 1) := by decide +kernel
theorem dX10_clock_16 : decode cX10_clock 16 = .ok (.invokevirtual 203, 3) := by decide +kernel
theorem dX10_clock_19 : decode cX10_clock 19 = .ok (.ifCond .ne 5, 3) := by decide +kernel
theorem dX10_clock_22 : decode cX10_clock 22 = .ok (.iconst 0, 1) := by decide +kernel
theorem dX10_clock_23 : decode cX10_clock 23 = .ok (.ireturn, 1) := by decide +kernel
theorem dX10_clock_24 : decode cX10_clock 24 = .ok (.aload_n 0, 1) := by decide +kernel
theorem dX10_clock_25 : decode cX10_clock 25 = .ok (.getfield 32, 3) := by decide +kernel
theorem dX10_clock_28 : decode cX10_clock 28 = .ok (.iload_n 1, 1) := by decide +kernel
theorem dX10_clock_29 : decode cX10_clock 29 = .ok (.bipush 60, 2) := by decide +kernel
theorem dX10_clock_31 : decode cX10_clock 31 = .ok (.irem, 1) := by decide +kernel
theorem dX10_clock_32 : decode cX10_clock 32 = .ok (.iaload, 1) := by decide +kernel
theorem dX10_clock_33 : decode cX10_clock 33 = .ok (.ireturn, 1) := by decide +kernel
theorem dX10_copies_0 : decode cX10_copies 0 = .ok (.iconst 0, 1) := by decide +kernel
theorem dX10_copies_1 : decode cX10_copies 1 = .ok (.istore 4, 2) := by decide +kernel
theorem dX10_copies_3 : decode cX10_copies 3 = .ok (.iload 4, 2) := by decide +kernel
theorem dX10_copies_5 : decode cX10_copies 5 = .ok (.iload_n 3, 1) := by decide +kernel
theorem dX10_copies_6 : decode cX10_copies 6 = .ok (.if_icmp .ge 17, 3) := by decide +kernel
theorem dX10_copies_9 : decode cX10_copies 9 = .ok (.aload_n 2, 1) := by decide +kernel
theorem dX10_copies_10 : decode cX10_copies 10 = .ok (.iload 4, 2) := by decide +kernel
theorem dX10_copies_12 : decode cX10_copies 12 = .ok (.aload_n 1, 1) := by decide +kernel
theorem dX10_copies_13 : decode cX10_copies 13 = .ok (.iload 4, 2) := by decide +kernel
theorem dX10_copies_15 : decode cX10_copies 15 = .ok (.iaload, 1) := by decide +kernel
theorem dX10_copies_16 : decode cX10_copies 16 = .ok (.iastore, 1) := by decide +kernel
theorem dX10_copies_17 : decode cX10_copies 17 = .ok (.iinc 4 1, 3) := by decide +kernel
theorem dX10_copies_20 : decode cX10_copies 20 = .ok (.goto (-17), 3) := by decide +kernel
theorem dX10_copies_23 : decode cX10_copies 23 = .ok (.return_, 1) := by decide +kernel
theorem dX10_count_0 : decode cX10_count 0 = .ok (.aload_n 0, 1) := by decide +kernel
theorem dX10_count_1 : decode cX10_count 1 = .ok (.iconst 0, 1) := by decide +kernel
theorem dX10_count_2 : decode cX10_count 2 = .ok (.putfield 3, 3) := by decide +kernel
theorem dX10_count_5 : decode cX10_count 5 = .ok (.iload_n 1, 1) := by decide +kernel
theorem dX10_count_6 : decode cX10_count 6 = .ok (.ifCond .ne 10, 3) := by decide +kernel
theorem dX10_count_9 : decode cX10_count 9 = .ok (.aload_n 0, 1) := by decide +kernel
theorem dX10_count_10 : decode cX10_count 10 = .ok (.getfield 175, 3) := by decide +kernel
theorem dX10_count_13 : decode cX10_count 13 = .ok (.goto 28, 3) := by decide +kernel
theorem dX10_count_16 : decode cX10_count 16 = .ok (.iload_n 1, 1) := by decide +kernel
theorem dX10_count_17 : decode cX10_count 17 = .ok (.iconst 1, 1) := by decide +kernel
theorem dX10_count_18 : decode cX10_count 18 = .ok (.if_icmp .ne 10, 3) := by decide +kernel
theorem dX10_count_21 : decode cX10_count 21 = .ok (.aload_n 0, 1) := by decide +kernel
theorem dX10_count_22 : decode cX10_count 22 = .ok (.getfield 98, 3) := by decide +kernel
theorem dX10_count_25 : decode cX10_count 25 = .ok (.goto 16, 3) := by decide +kernel
theorem dX10_count_28 : decode cX10_count 28 = .ok (.iload_n 1, 1) := by decide +kernel
theorem dX10_count_29 : decode cX10_count 29 = .ok (.iconst 2, 1) := by decide +kernel
theorem dX10_count_30 : decode cX10_count 30 = .ok (.if_icmp .ne 10, 3) := by decide +kernel
theorem dX10_count_33 : decode cX10_count 33 = .ok (.aload_n 0, 1) := by decide +kernel
theorem dX10_count_34 : decode cX10_count 34 = .ok (.getfield 172, 3) := by decide +kernel
theorem dX10_count_37 : decode cX10_count 37 = .ok (.goto 4, 3) := by decide +kernel
theorem dX10_count_40 : decode cX10_count 40 = .ok (.iconst (-1), 1) := by decide +kernel
theorem dX10_count_41 : decode cX10_count 41 = .ok (.ireturn, 1) := by decide +kernel
theorem dX10_doctor_0 : decode cX10_doctor 0 = .ok (.aload_n 0, 1) := by decide +kernel
theorem dX10_doctor_1 : decode cX10_doctor 1 = .ok (.iconst 0, 1) := by decide +kernel
theorem dX10_doctor_2 : decode cX10_doctor 2 = .ok (.putfield 3, 3) := by decide +kernel
theorem dX10_doctor_5 : decode cX10_doctor 5 = .ok (.aload_n 0, 1) := by decide +kernel
theorem dX10_doctor_6 : decode cX10_doctor 6 = .ok (.iload_n 1, 1) := by decide +kernel
theorem dX10_doctor_7 : decode cX10_doctor 7 = .ok (.iconst 1, 1) := by decide +kernel
theorem dX10_doctor_8 : decode cX10_doctor 8 = .ok (.iconst 4, 1) := by decide +kernel
theorem dX10_doctor_9 : decode cX10_doctor 9 = .ok (.invokestatic 282, 3) := by decide +kernel
theorem dX10_doctor_12 : decode cX10_doctor 12 = .ok (.ifCond .eq 17, 3) := by decide +kernel
theorem dX10_doctor_15 : decode cX10_doctor 15 = .ok (.iload_n 2, 1) := by decide +kernel
theorem dX10_doctor_16 : decode cX10_doctor 16 = .ok (.iconst 0, 1) := by decide +kernel
theorem dX10_doctor_17 : decode cX10_doctor 17 = .ok (.bipush 12, 2) := by decide +kernel
theorem dX10_doctor_19 : decode cX10_doctor 19 = .ok (.invokestatic 282, 3) := by decide +kernel
theorem dX10_doctor_22 : decode cX10_doctor 22 = .ok (.ifCond .eq 7, 3) := by decide +kernel
theorem dX10_doctor_25 : decode cX10_doctor 25 = .ok (.iconst 1, 1) := by decide +kernel
theorem dX10_doctor_26 : decode cX10_doctor 26 = .ok (.goto 4, 3) := by decide +kernel
theorem dX10_doctor_29 : decode cX10_doctor 29 = .ok (.iconst 0, 1) := by decide +kernel
theorem dX10_doctor_30 : decode cX10_doctor 30 = .ok (.iconst 1, 1) := by decide +kernel
theorem dX10_doctor_31 : decode cX10_doctor 31 = .ok (.iconst 1, 1) := by decide +kernel
theorem dX10_doctor_32 : decode cX10_doctor 32 = .ok (.invokevirtual 203, 3) := by decide +kernel
theorem dX10_doctor_35 : decode cX10_doctor 35 = .ok (.ifCond .ne 5, 3) := by decide +kernel
theorem dX10_doctor_38 : decode cX10_doctor 38 = .ok (.iconst 0, 1) := by decide +kernel
theorem dX10_doctor_39 : decode cX10_doctor 39 = .ok (.ireturn, 1) := by decide +kernel
theorem dX10_doctor_40 : decode cX10_doctor 40 = .ok (.iconst 0, 1) := by decide +kernel
theorem dX10_doctor_41 : decode cX10_doctor 41 = .ok (.istore_n 3, 1) := by decide +kernel
theorem dX10_doctor_42 : decode cX10_doctor 42 = .ok (.iload_n 3, 1) := by decide +kernel
theorem dX10_doctor_43 : decode cX10_doctor 43 = .ok (.bipush 16, 2) := by decide +kernel
theorem dX10_doctor_45 : decode cX10_doctor 45 = .ok (.if_icmp .gt 30, 3) := by decide +kernel
theorem dX10_doctor_48 : decode cX10_doctor 48 = .ok (.iload_n 3, 1) := by decide +kernel
theorem dX10_doctor_49 : decode cX10_doctor 49 = .ok (.iload_n 1, 1) := by decide +kernel
theorem dX10_doctor_50 : decode cX10_doctor 50 = .ok (.iload_n 2, 1) := by decide +kernel
theorem dX10_doctor_51 : decode cX10_doctor 51 = .ok (.invokestatic 436, 3) := by decide +kernel
theorem dX10_doctor_54 : decode cX10_doctor 54 = .ok (.ldc2_w 440, 3) := by decide +kernel
theorem dX10_doctor_57 : decode cX10_doctor 57 = .ok (.iload_n 1, 1) := by decide +kernel
theorem dX10_doctor_58 : decode cX10_doctor 58 = .ok (.iconst 1, 1) := by decide +kernel
theorem dX10_doctor_59 : decode cX10_doctor 59 = .ok (.iadd, 1) := by decide +kernel
theorem dX10_doctor_60 : decode cX10_doctor 60 = .ok (.invokestatic 432, 3) := by decide +kernel
theorem dX10_doctor_63 : decode cX10_doctor 63 = .ok (.lcmp, 1) := by decide +kernel
theorem dX10_doctor_64 : decode cX10_doctor 64 = .ok (.ifCond .lt 5, 3) := by decide +kernel
theorem dX10_doctor_67 : decode cX10_doctor 67 = .ok (.iload_n 3, 1) := by decide +kernel
theorem dX10_doctor_68 : decode cX10_doctor 68 = .ok (.ireturn, 1) := by decide +kernel
theorem dX10_doctor_69 : decode cX10_doctor 69 = .ok (.iinc 3 1, 3) := by decide +kernel
theorem dX10_doctor_72 : decode cX10_doctor 72 = .ok (.goto (-30), 3) := by decide +kernel
theorem dX10_doctor_75 : decode cX10_doctor 75 = .ok (.iconst (-1), 1) := by decide +kernel
theorem dX10_doctor_76 : decode cX10_doctor 76 = .ok (.ireturn, 1) := by decide +kernel
theorem dX10_draws_0 : decode cX10_draws 0 = .ok (.aload_n 0, 1) := by decide +kernel
theorem dX10_draws_1 : decode cX10_draws 1 = .ok (.aload_n 0, 1) := by decide +kernel
theorem dX10_draws_2 : decode cX10_draws 2 = .ok (.getfield 445, 3) := by decide +kernel
theorem dX10_draws_5 : decode cX10_draws 5 = .ok (.ldc_w 448, 3) := by decide +kernel
theorem dX10_draws_8 : decode cX10_draws 8 = .ok (.imul, 1) := by decide +kernel
theorem dX10_draws_9 : decode cX10_draws 9 = .ok (.sipush 12345, 3) := by decide +kernel
theorem dX10_draws_12 : decode cX10_draws 12 = .ok (.iadd, 1) := by decide +kernel
theorem dX10_draws_13 : decode cX10_draws 13 = .ok (.putfield 445, 3) := by decide +kernel
theorem dX10_draws_16 : decode cX10_draws 16 = .ok (.aload_n 0, 1) := by decide +kernel
theorem dX10_draws_17 : decode cX10_draws 17 = .ok (.getfield 445, 3) := by decide +kernel
theorem dX10_draws_20 : decode cX10_draws 20 = .ok (.bipush 16, 2) := by decide +kernel
theorem dX10_draws_22 : decode cX10_draws 22 = .ok (.ishr, 1) := by decide +kernel
theorem dX10_draws_23 : decode cX10_draws 23 = .ok (.sipush 32767, 3) := by decide +kernel
theorem dX10_draws_26 : decode cX10_draws 26 = .ok (.iand, 1) := by decide +kernel
theorem dX10_draws_27 : decode cX10_draws 27 = .ok (.bipush 16, 2) := by decide +kernel
theorem dX10_draws_29 : decode cX10_draws 29 = .ok (.irem, 1) := by decide +kernel
theorem dX10_draws_30 : decode cX10_draws 30 = .ok (.ireturn, 1) := by decide +kernel
theorem dX10_drives_0 : decode cX10_drives 0 = .ok (.aload_n 0, 1) := by decide +kernel
theorem dX10_drives_1 : decode cX10_drives 1 = .ok (.invokevirtual 316, 3) := by decide +kernel
theorem dX10_drives_4 : decode cX10_drives 4 = .ok (.aload_n 0, 1) := by decide +kernel
theorem dX10_drives_5 : decode cX10_drives 5 = .ok (.iload_n 1, 1) := by decide +kernel
theorem dX10_drives_6 : decode cX10_drives 6 = .ok (.putfield 445, 3) := by decide +kernel
theorem dX10_drives_9 : decode cX10_drives 9 = .ok (.aload_n 0, 1) := by decide +kernel
theorem dX10_drives_10 : decode cX10_drives 10 = .ok (.iconst 0, 1) := by decide +kernel
theorem dX10_drives_11 : decode cX10_drives 11 = .ok (.putfield 449, 3) := by decide +kernel
theorem dX10_drives_14 : decode cX10_drives 14 = .ok (.iconst 0, 1) := by decide +kernel
theorem dX10_drives_15 : decode cX10_drives 15 = .ok (.istore 5, 2) := by decide +kernel
theorem dX10_drives_17 : decode cX10_drives 17 = .ok (.iload 5, 2) := by decide +kernel
theorem dX10_drives_19 : decode cX10_drives 19 = .ok (.iload 4, 2) := by decide +kernel
theorem dX10_drives_21 : decode cX10_drives 21 = .ok (.if_icmp .ge 62, 3) := by decide +kernel
theorem dX10_drives_24 : decode cX10_drives 24 = .ok (.aload_n 0, 1) := by decide +kernel
theorem dX10_drives_25 : decode cX10_drives 25 = .ok (.invokevirtual 452, 3) := by decide +kernel
theorem dX10_drives_28 : decode cX10_drives 28 = .ok (.iload_n 2, 1) := by decide +kernel
theorem dX10_drives_29 : decode cX10_drives 29 = .ok (.if_icmp .ge 7, 3) := by decide +kernel
theorem dX10_drives_32 : decode cX10_drives 32 = .ok (.iconst 1, 1) := by decide +kernel
theorem dX10_drives_33 : decode cX10_drives 33 = .ok (.goto 4, 3) := by decide +kernel
theorem dX10_drives_36 : decode cX10_drives 36 = .ok (.iconst 0, 1) := by decide +kernel
theorem dX10_drives_37 : decode cX10_drives 37 = .ok (.istore 6, 2) := by decide +kernel
theorem dX10_drives_39 : decode cX10_drives 39 = .ok (.aload_n 0, 1) := by decide +kernel
theorem dX10_drives_40 : decode cX10_drives 40 = .ok (.dup, 1) := by decide +kernel
theorem dX10_drives_41 : decode cX10_drives 41 = .ok (.getfield 449, 3) := by decide +kernel
theorem dX10_drives_44 : decode cX10_drives 44 = .ok (.iload 6, 2) := by decide +kernel
theorem dX10_drives_46 : decode cX10_drives 46 = .ok (.ifCond .eq 7, 3) := by decide +kernel
theorem dX10_drives_49 : decode cX10_drives 49 = .ok (.iconst 1, 1) := by decide +kernel
theorem dX10_drives_50 : decode cX10_drives 50 = .ok (.goto 4, 3) := by decide +kernel
theorem dX10_drives_53 : decode cX10_drives 53 = .ok (.iconst 0, 1) := by decide +kernel
theorem dX10_drives_54 : decode cX10_drives 54 = .ok (.iadd, 1) := by decide +kernel
theorem dX10_drives_55 : decode cX10_drives 55 = .ok (.putfield 449, 3) := by decide +kernel
theorem dX10_drives_58 : decode cX10_drives 58 = .ok (.aload_n 0, 1) := by decide +kernel
theorem dX10_drives_59 : decode cX10_drives 59 = .ok (.iload 6, 2) := by decide +kernel
theorem dX10_drives_61 : decode cX10_drives 61 = .ok (.ifCond .eq 7, 3) := by decide +kernel
theorem dX10_drives_64 : decode cX10_drives 64 = .ok (.iload_n 3, 1) := by decide +kernel
theorem dX10_drives_65 : decode cX10_drives 65 = .ok (.goto 4, 3) := by decide +kernel
theorem dX10_drives_68 : decode cX10_drives 68 = .ok (.iconst 0, 1) := by decide +kernel
theorem dX10_drives_69 : decode cX10_drives 69 = .ok (.putfield 334, 3) := by decide +kernel
theorem dX10_drives_72 : decode cX10_drives 72 = .ok (.aload_n 0, 1) := by decide +kernel
theorem dX10_drives_73 : decode cX10_drives 73 = .ok (.invokevirtual 372, 3) := by decide +kernel
theorem dX10_drives_76 : decode cX10_drives 76 = .ok (.pop, 1) := by decide +kernel
theorem dX10_drives_77 : decode cX10_drives 77 = .ok (.iinc 5 1, 3) := by decide +kernel
theorem dX10_drives_80 : decode cX10_drives 80 = .ok (.goto (-63), 3) := by decide +kernel
theorem dX10_drives_83 : decode cX10_drives 83 = .ok (.aload_n 0, 1) := by decide +kernel
theorem dX10_drives_84 : decode cX10_drives 84 = .ok (.iconst 0, 1) := by decide +kernel
theorem dX10_drives_85 : decode cX10_drives 85 = .ok (.putfield 334, 3) := by decide +kernel
theorem dX10_drives_88 : decode cX10_drives 88 = .ok (.return_, 1) := by decide +kernel
theorem dX10_emit_0 : decode cX10_emit 0 = .ok (.aload_n 0, 1) := by decide +kernel
theorem dX10_emit_1 : decode cX10_emit 1 = .ok (.invokevirtual 130, 3) := by decide +kernel
theorem dX10_emit_4 : decode cX10_emit 4 = .ok (.ifCond .ne 4, 3) := by decide +kernel
theorem dX10_emit_7 : decode cX10_emit 7 = .ok (.return_, 1) := by decide +kernel
theorem dX10_emit_8 : decode cX10_emit 8 = .ok (.aload_n 0, 1) := by decide +kernel
theorem dX10_emit_9 : decode cX10_emit 9 = .ok (.getfield 35, 3) := by decide +kernel
theorem dX10_emit_12 : decode cX10_emit 12 = .ok (.aload_n 0, 1) := by decide +kernel
theorem dX10_emit_13 : decode cX10_emit 13 = .ok (.getfield 241, 3) := by decide +kernel
theorem dX10_emit_16 : decode cX10_emit 16 = .ok (.iload_n 1, 1) := by decide +kernel
theorem dX10_emit_17 : decode cX10_emit 17 = .ok (.iastore, 1) := by decide +kernel
theorem dX10_emit_18 : decode cX10_emit 18 = .ok (.aload_n 0, 1) := by decide +kernel
theorem dX10_emit_19 : decode cX10_emit 19 = .ok (.getfield 38, 3) := by decide +kernel
theorem dX10_emit_22 : decode cX10_emit 22 = .ok (.aload_n 0, 1) := by decide +kernel
theorem dX10_emit_23 : decode cX10_emit 23 = .ok (.getfield 241, 3) := by decide +kernel
theorem dX10_emit_26 : decode cX10_emit 26 = .ok (.iload_n 2, 1) := by decide +kernel
theorem dX10_emit_27 : decode cX10_emit 27 = .ok (.iastore, 1) := by decide +kernel
theorem dX10_emit_28 : decode cX10_emit 28 = .ok (.aload_n 0, 1) := by decide +kernel
theorem dX10_emit_29 : decode cX10_emit 29 = .ok (.dup, 1) := by decide +kernel
theorem dX10_emit_30 : decode cX10_emit 30 = .ok (.getfield 241, 3) := by decide +kernel
theorem dX10_emit_33 : decode cX10_emit 33 = .ok (.iconst 1, 1) := by decide +kernel
theorem dX10_emit_34 : decode cX10_emit 34 = .ok (.iadd, 1) := by decide +kernel
theorem dX10_emit_35 : decode cX10_emit 35 = .ok (.putfield 241, 3) := by decide +kernel
theorem dX10_emit_38 : decode cX10_emit 38 = .ok (.return_, 1) := by decide +kernel
theorem dX10_factHere_0 : decode cX10_factHere 0 = .ok (.aload_n 0, 1) := by decide +kernel
theorem dX10_factHere_1 : decode cX10_factHere 1 = .ok (.invokevirtual 219, 3) := by decide +kernel
theorem dX10_factHere_4 : decode cX10_factHere 4 = .ok (.istore_n 1, 1) := by decide +kernel
theorem dX10_factHere_5 : decode cX10_factHere 5 = .ok (.iload_n 1, 1) := by decide +kernel
theorem dX10_factHere_6 : decode cX10_factHere 6 = .ok (.ldc_w 259, 3) := by decide +kernel
theorem dX10_factHere_9 : decode cX10_factHere 9 = .ok (.invokestatic 187, 3) := by decide +kernel
theorem dX10_factHere_12 : decode cX10_factHere 12 = .ok (.if_icmp .ne 7, 3) := by decide +kernel
theorem dX10_factHere_15 : decode cX10_factHere 15 = .ok (.iconst 0, 1) := by decide +kernel
theorem dX10_factHere_16 : decode cX10_factHere 16 = .ok (.goto 117, 3) := by decide +kernel
theorem dX10_factHere_19 : decode cX10_factHere 19 = .ok (.iload_n 1, 1) := by decide +kernel
theorem dX10_factHere_20 : decode cX10_factHere 20 = .ok (.ldc 185, 2) := by decide +kernel
theorem dX10_factHere_22 : decode cX10_factHere 22 = .ok (.invokestatic 187, 3) := by decide +kernel
theorem dX10_factHere_25 : decode cX10_factHere 25 = .ok (.if_icmp .ne 7, 3) := by decide +kernel
theorem dX10_factHere_28 : decode cX10_factHere 28 = .ok (.iconst 1, 1) := by decide +kernel
theorem dX10_factHere_29 : decode cX10_factHere 29 = .ok (.goto 104, 3) := by decide +kernel
theorem dX10_factHere_32 : decode cX10_factHere 32 = .ok (.iload_n 1, 1) := by decide +kernel
theorem dX10_factHere_33 : decode cX10_factHere 33 = .ok (.ldc 194, 2) := by decide +kernel
theorem dX10_factHere_35 : decode cX10_factHere 35 = .ok (.invokestatic 187, 3) := by decide +kernel
theorem dX10_factHere_38 : decode cX10_factHere 38 = .ok (.if_icmp .ne 7, 3) := by decide +kernel
theorem dX10_factHere_41 : decode cX10_factHere 41 = .ok (.iconst 2, 1) := by decide +kernel
theorem dX10_factHere_42 : decode cX10_factHere 42 = .ok (.goto 91, 3) := by decide +kernel
theorem dX10_factHere_45 : decode cX10_factHere 45 = .ok (.iload_n 1, 1) := by decide +kernel
theorem dX10_factHere_46 : decode cX10_factHere 46 = .ok (.ldc_w 261, 3) := by decide +kernel
theorem dX10_factHere_49 : decode cX10_factHere 49 = .ok (.invokestatic 187, 3) := by decide +kernel
theorem dX10_factHere_52 : decode cX10_factHere 52 = .ok (.if_icmp .ne 7, 3) := by decide +kernel
theorem dX10_factHere_55 : decode cX10_factHere 55 = .ok (.iconst 3, 1) := by decide +kernel
theorem dX10_factHere_56 : decode cX10_factHere 56 = .ok (.goto 77, 3) := by decide +kernel
theorem dX10_factHere_59 : decode cX10_factHere 59 = .ok (.iload_n 1, 1) := by decide +kernel
theorem dX10_factHere_60 : decode cX10_factHere 60 = .ok (.ldc_w 263, 3) := by decide +kernel
theorem dX10_factHere_63 : decode cX10_factHere 63 = .ok (.invokestatic 187, 3) := by decide +kernel
theorem dX10_factHere_66 : decode cX10_factHere 66 = .ok (.if_icmp .ne 7, 3) := by decide +kernel
theorem dX10_factHere_69 : decode cX10_factHere 69 = .ok (.iconst 4, 1) := by decide +kernel
theorem dX10_factHere_70 : decode cX10_factHere 70 = .ok (.goto 63, 3) := by decide +kernel
theorem dX10_factHere_73 : decode cX10_factHere 73 = .ok (.iload_n 1, 1) := by decide +kernel
theorem dX10_factHere_74 : decode cX10_factHere 74 = .ok (.ldc_w 265, 3) := by decide +kernel
theorem dX10_factHere_77 : decode cX10_factHere 77 = .ok (.invokestatic 187, 3) := by decide +kernel
theorem dX10_factHere_80 : decode cX10_factHere 80 = .ok (.if_icmp .ne 7, 3) := by decide +kernel
theorem dX10_factHere_83 : decode cX10_factHere 83 = .ok (.iconst 5, 1) := by decide +kernel
theorem dX10_factHere_84 : decode cX10_factHere 84 = .ok (.goto 49, 3) := by decide +kernel
theorem dX10_factHere_87 : decode cX10_factHere 87 = .ok (.iload_n 1, 1) := by decide +kernel
theorem dX10_factHere_88 : decode cX10_factHere 88 = .ok (.ldc_w 266, 3) := by decide +kernel
theorem dX10_factHere_91 : decode cX10_factHere 91 = .ok (.invokestatic 187, 3) := by decide +kernel
theorem dX10_factHere_94 : decode cX10_factHere 94 = .ok (.if_icmp .ne 8, 3) := by decide +kernel
theorem dX10_factHere_97 : decode cX10_factHere 97 = .ok (.bipush 6, 2) := by decide +kernel
theorem dX10_factHere_99 : decode cX10_factHere 99 = .ok (.goto 34, 3) := by decide +kernel
theorem dX10_factHere_102 : decode cX10_factHere 102 = .ok (.iload_n 1, 1) := by decide +kernel
theorem dX10_factHere_103 : decode cX10_factHere 103 = .ok (.ldc_w 268, 3) := by decide +kernel
theorem dX10_factHere_106 : decode cX10_factHere 106 = .ok (.invokestatic 187, 3) := by decide +kernel
theorem dX10_factHere_109 : decode cX10_factHere 109 = .ok (.if_icmp .ne 8, 3) := by decide +kernel
theorem dX10_factHere_112 : decode cX10_factHere 112 = .ok (.bipush 7, 2) := by decide +kernel
theorem dX10_factHere_114 : decode cX10_factHere 114 = .ok (.goto 19, 3) := by decide +kernel
theorem dX10_factHere_117 : decode cX10_factHere 117 = .ok (.iload_n 1, 1) := by decide +kernel
theorem dX10_factHere_118 : decode cX10_factHere 118 = .ok (.ldc_w 270, 3) := by decide +kernel
theorem dX10_factHere_121 : decode cX10_factHere 121 = .ok (.invokestatic 187, 3) := by decide +kernel
theorem dX10_factHere_124 : decode cX10_factHere 124 = .ok (.if_icmp .ne 8, 3) := by decide +kernel
theorem dX10_factHere_127 : decode cX10_factHere 127 = .ok (.bipush 8, 2) := by decide +kernel
theorem dX10_factHere_129 : decode cX10_factHere 129 = .ok (.goto 4, 3) := by decide +kernel
theorem dX10_factHere_132 : decode cX10_factHere 132 = .ok (.iconst (-1), 1) := by decide +kernel
theorem dX10_factHere_133 : decode cX10_factHere 133 = .ok (.ireturn, 1) := by decide +kernel
theorem dX10_fault_0 : decode cX10_fault 0 = .ok (.aload_n 0, 1) := by decide +kernel
theorem dX10_fault_1 : decode cX10_fault 1 = .ok (.iconst 0, 1) := by decide +kernel
theorem dX10_fault_2 : decode cX10_fault 2 = .ok (.putfield 3, 3) := by decide +kernel
theorem dX10_fault_5 : decode cX10_fault 5 = .ok (.aload_n 0, 1) := by decide +kernel
theorem dX10_fault_6 : decode cX10_fault 6 = .ok (.getfield 17, 3) := by decide +kernel
theorem dX10_fault_9 : decode cX10_fault 9 = .ok (.ireturn, 1) := by decide +kernel
theorem dX10_feed_0 : decode cX10_feed 0 = .ok (.aload_n 0, 1) := by decide +kernel
theorem dX10_feed_1 : decode cX10_feed 1 = .ok (.iconst 0, 1) := by decide +kernel
theorem dX10_feed_2 : decode cX10_feed 2 = .ok (.putfield 3, 3) := by decide +kernel
theorem dX10_feed_5 : decode cX10_feed 5 = .ok (.aload_n 0, 1) := by decide +kernel
theorem dX10_feed_6 : decode cX10_feed 6 = .ok (.getfield 98, 3) := by decide +kernel
theorem dX10_feed_9 : decode cX10_feed 9 = .ok (.bipush 20, 2) := by decide +kernel
theorem dX10_feed_11 : decode cX10_feed 11 = .ok (.iadd, 1) := by decide +kernel
theorem dX10_feed_12 : decode cX10_feed 12 = .ok (.sipush 600, 3) := by decide +kernel
theorem dX10_feed_15 : decode cX10_feed 15 = .ok (.if_icmp .le 5, 3) := by decide +kernel
theorem dX10_feed_18 : decode cX10_feed 18 = .ok (.iconst (-1), 1) := by decide +kernel
theorem dX10_feed_19 : decode cX10_feed 19 = .ok (.ireturn, 1) := by decide +kernel
theorem dX10_feed_20 : decode cX10_feed 20 = .ok (.iconst 0, 1) := by decide +kernel
theorem dX10_feed_21 : decode cX10_feed 21 = .ok (.istore 6, 2) := by decide +kernel
theorem dX10_feed_23 : decode cX10_feed 23 = .ok (.iload 6, 2) := by decide +kernel
theorem dX10_feed_25 : decode cX10_feed 25 = .ok (.bipush 20, 2) := by decide +kernel
theorem dX10_feed_27 : decode cX10_feed 27 = .ok (.if_icmp .ge 93, 3) := by decide +kernel
theorem dX10_feed_30 : decode cX10_feed 30 = .ok (.iload 6, 2) := by decide +kernel
theorem dX10_feed_32 : decode cX10_feed 32 = .ok (.iconst 4, 1) := by decide +kernel
theorem dX10_feed_33 : decode cX10_feed 33 = .ok (.if_icmp .ge 7, 3) := by decide +kernel
theorem dX10_feed_36 : decode cX10_feed 36 = .ok (.iload_n 1, 1) := by decide +kernel
theorem dX10_feed_37 : decode cX10_feed 37 = .ok (.goto 39, 3) := by decide +kernel
theorem dX10_feed_40 : decode cX10_feed 40 = .ok (.iload 6, 2) := by decide +kernel
theorem dX10_feed_42 : decode cX10_feed 42 = .ok (.bipush 8, 2) := by decide +kernel
theorem dX10_feed_44 : decode cX10_feed 44 = .ok (.if_icmp .ge 7, 3) := by decide +kernel
theorem dX10_feed_47 : decode cX10_feed 47 = .ok (.iload_n 2, 1) := by decide +kernel
theorem dX10_feed_48 : decode cX10_feed 48 = .ok (.goto 28, 3) := by decide +kernel
theorem dX10_feed_51 : decode cX10_feed 51 = .ok (.iload 6, 2) := by decide +kernel
theorem dX10_feed_53 : decode cX10_feed 53 = .ok (.bipush 12, 2) := by decide +kernel
theorem dX10_feed_55 : decode cX10_feed 55 = .ok (.if_icmp .ge 7, 3) := by decide +kernel
theorem dX10_feed_58 : decode cX10_feed 58 = .ok (.iload_n 3, 1) := by decide +kernel
theorem dX10_feed_59 : decode cX10_feed 59 = .ok (.goto 17, 3) := by decide +kernel
theorem dX10_feed_62 : decode cX10_feed 62 = .ok (.iload 6, 2) := by decide +kernel
theorem dX10_feed_64 : decode cX10_feed 64 = .ok (.bipush 16, 2) := by decide +kernel
theorem dX10_feed_66 : decode cX10_feed 66 = .ok (.if_icmp .ge 8, 3) := by decide +kernel
theorem dX10_feed_69 : decode cX10_feed 69 = .ok (.iload 4, 2) := by decide +kernel
theorem dX10_feed_71 : decode cX10_feed 71 = .ok (.goto 5, 3) := by decide +kernel
theorem dX10_feed_74 : decode cX10_feed 74 = .ok (.iload 5, 2) := by decide +kernel
theorem dX10_feed_76 : decode cX10_feed 76 = .ok (.istore 7, 2) := by decide +kernel
theorem dX10_feed_78 : decode cX10_feed 78 = .ok (.aload_n 0, 1) := by decide +kernel
theorem dX10_feed_79 : decode cX10_feed 79 = .ok (.getfield 20, 3) := by decide +kernel
theorem dX10_feed_82 : decode cX10_feed 82 = .ok (.aload_n 0, 1) := by decide +kernel
theorem dX10_feed_83 : decode cX10_feed 83 = .ok (.getfield 98, 3) := by decide +kernel
theorem dX10_feed_86 : decode cX10_feed 86 = .ok (.iload 7, 2) := by decide +kernel
theorem dX10_feed_88 : decode cX10_feed 88 = .ok (.bipush 24, 2) := by decide +kernel
theorem dX10_feed_90 : decode cX10_feed 90 = .ok (.bipush 8, 2) := by decide +kernel
theorem dX10_feed_92 : decode cX10_feed 92 = .ok (.iload 6, 2) := by decide +kernel
theorem dX10_feed_94 : decode cX10_feed 94 = .ok (.iconst 4, 1) := by decide +kernel
theorem dX10_feed_95 : decode cX10_feed 95 = .ok (.irem, 1) := by decide +kernel
theorem dX10_feed_96 : decode cX10_feed 96 = .ok (.imul, 1) := by decide +kernel
theorem dX10_feed_97 : decode cX10_feed 97 = .ok (.isub, 1) := by decide +kernel
theorem dX10_feed_98 : decode cX10_feed 98 = .ok (.ishr, 1) := by decide +kernel
theorem dX10_feed_99 : decode cX10_feed 99 = .ok (.sipush 255, 3) := by decide +kernel
theorem dX10_feed_102 : decode cX10_feed 102 = .ok (.iand, 1) := by decide +kernel
theorem dX10_feed_103 : decode cX10_feed 103 = .ok (.iastore, 1) := by decide +kernel
theorem dX10_feed_104 : decode cX10_feed 104 = .ok (.aload_n 0, 1) := by decide +kernel
theorem dX10_feed_105 : decode cX10_feed 105 = .ok (.dup, 1) := by decide +kernel
theorem dX10_feed_106 : decode cX10_feed 106 = .ok (.getfield 98, 3) := by decide +kernel
theorem dX10_feed_109 : decode cX10_feed 109 = .ok (.iconst 1, 1) := by decide +kernel
theorem dX10_feed_110 : decode cX10_feed 110 = .ok (.iadd, 1) := by decide +kernel
theorem dX10_feed_111 : decode cX10_feed 111 = .ok (.putfield 98, 3) := by decide +kernel
theorem dX10_feed_114 : decode cX10_feed 114 = .ok (.iinc 6 1, 3) := by decide +kernel
theorem dX10_feed_117 : decode cX10_feed 117 = .ok (.goto (-94), 3) := by decide +kernel
theorem dX10_feed_120 : decode cX10_feed 120 = .ok (.aload_n 0, 1) := by decide +kernel
theorem dX10_feed_121 : decode cX10_feed 121 = .ok (.getfield 98, 3) := by decide +kernel
theorem dX10_feed_124 : decode cX10_feed 124 = .ok (.ireturn, 1) := by decide +kernel
theorem dX10_findFacts_0 : decode cX10_findFacts 0 = .ok (.aload_n 0, 1) := by decide +kernel
theorem dX10_findFacts_1 : decode cX10_findFacts 1 = .ok (.getfield 53, 3) := by decide +kernel
theorem dX10_findFacts_4 : decode cX10_findFacts 4 = .ok (.iconst 0, 1) := by decide +kernel
theorem dX10_findFacts_5 : decode cX10_findFacts 5 = .ok (.aload_n 0, 1) := by decide +kernel
theorem dX10_findFacts_6 : decode cX10_findFacts 6 = .ok (.getfield 29, 3) := by decide +kernel
theorem dX10_findFacts_9 : decode cX10_findFacts 9 = .ok (.bipush 8, 2) := by decide +kernel
theorem dX10_findFacts_11 : decode cX10_findFacts 11 = .ok (.iload_n 1, 1) := by decide +kernel
theorem dX10_findFacts_12 : decode cX10_findFacts 12 = .ok (.imul, 1) := by decide +kernel
theorem dX10_findFacts_13 : decode cX10_findFacts 13 = .ok (.iconst 2, 1) := by decide +kernel
theorem dX10_findFacts_14 : decode cX10_findFacts 14 = .ok (.iadd, 1) := by decide +kernel
theorem dX10_findFacts_15 : decode cX10_findFacts 15 = .ok (.iaload, 1) := by decide +kernel
theorem dX10_findFacts_16 : decode cX10_findFacts 16 = .ok (.iastore, 1) := by decide +kernel
theorem dX10_findFacts_17 : decode cX10_findFacts 17 = .ok (.aload_n 0, 1) := by decide +kernel
theorem dX10_findFacts_18 : decode cX10_findFacts 18 = .ok (.getfield 53, 3) := by decide +kernel
theorem dX10_findFacts_21 : decode cX10_findFacts 21 = .ok (.iconst 1, 1) := by decide +kernel
theorem dX10_findFacts_22 : decode cX10_findFacts 22 = .ok (.aload_n 0, 1) := by decide +kernel
theorem dX10_findFacts_23 : decode cX10_findFacts 23 = .ok (.getfield 29, 3) := by decide +kernel
theorem dX10_findFacts_26 : decode cX10_findFacts 26 = .ok (.bipush 8, 2) := by decide +kernel
theorem dX10_findFacts_28 : decode cX10_findFacts 28 = .ok (.iload_n 1, 1) := by decide +kernel
theorem dX10_findFacts_29 : decode cX10_findFacts 29 = .ok (.imul, 1) := by decide +kernel
theorem dX10_findFacts_30 : decode cX10_findFacts 30 = .ok (.iconst 4, 1) := by decide +kernel
theorem dX10_findFacts_31 : decode cX10_findFacts 31 = .ok (.iadd, 1) := by decide +kernel
theorem dX10_findFacts_32 : decode cX10_findFacts 32 = .ok (.iaload, 1) := by decide +kernel
theorem dX10_findFacts_33 : decode cX10_findFacts 33 = .ok (.iastore, 1) := by decide +kernel
theorem dX10_findFacts_34 : decode cX10_findFacts 34 = .ok (.aload_n 0, 1) := by decide +kernel
theorem dX10_findFacts_35 : decode cX10_findFacts 35 = .ok (.getfield 53, 3) := by decide +kernel
theorem dX10_findFacts_38 : decode cX10_findFacts 38 = .ok (.iconst 2, 1) := by decide +kernel
theorem dX10_findFacts_39 : decode cX10_findFacts 39 = .ok (.aload_n 0, 1) := by decide +kernel
theorem dX10_findFacts_40 : decode cX10_findFacts 40 = .ok (.getfield 29, 3) := by decide +kernel
theorem dX10_findFacts_43 : decode cX10_findFacts 43 = .ok (.bipush 8, 2) := by decide +kernel
theorem dX10_findFacts_45 : decode cX10_findFacts 45 = .ok (.iload_n 1, 1) := by decide +kernel
theorem dX10_findFacts_46 : decode cX10_findFacts 46 = .ok (.imul, 1) := by decide +kernel
theorem dX10_findFacts_47 : decode cX10_findFacts 47 = .ok (.iconst 5, 1) := by decide +kernel
theorem dX10_findFacts_48 : decode cX10_findFacts 48 = .ok (.iadd, 1) := by decide +kernel
theorem dX10_findFacts_49 : decode cX10_findFacts 49 = .ok (.iaload, 1) := by decide +kernel
theorem dX10_findFacts_50 : decode cX10_findFacts 50 = .ok (.iastore, 1) := by decide +kernel
theorem dX10_findFacts_51 : decode cX10_findFacts 51 = .ok (.aload_n 0, 1) := by decide +kernel
theorem dX10_findFacts_52 : decode cX10_findFacts 52 = .ok (.getfield 53, 3) := by decide +kernel
theorem dX10_findFacts_55 : decode cX10_findFacts 55 = .ok (.iconst 3, 1) := by decide +kernel
theorem dX10_findFacts_56 : decode cX10_findFacts 56 = .ok (.iload_n 2, 1) := by decide +kernel
theorem dX10_findFacts_57 : decode cX10_findFacts 57 = .ok (.iastore, 1) := by decide +kernel
theorem dX10_findFacts_58 : decode cX10_findFacts 58 = .ok (.aload_n 0, 1) := by decide +kernel
theorem dX10_findFacts_59 : decode cX10_findFacts 59 = .ok (.getfield 53, 3) := by decide +kernel
theorem dX10_findFacts_62 : decode cX10_findFacts 62 = .ok (.iconst 4, 1) := by decide +kernel
theorem dX10_findFacts_63 : decode cX10_findFacts 63 = .ok (.aload_n 0, 1) := by decide +kernel
theorem dX10_findFacts_64 : decode cX10_findFacts 64 = .ok (.getfield 65, 3) := by decide +kernel
theorem dX10_findFacts_67 : decode cX10_findFacts 67 = .ok (.iconst 0, 1) := by decide +kernel
theorem dX10_findFacts_68 : decode cX10_findFacts 68 = .ok (.iload_n 1, 1) := by decide +kernel
theorem dX10_findFacts_69 : decode cX10_findFacts 69 = .ok (.iadd, 1) := by decide +kernel
theorem dX10_findFacts_70 : decode cX10_findFacts 70 = .ok (.iaload, 1) := by decide +kernel
theorem dX10_findFacts_71 : decode cX10_findFacts 71 = .ok (.iastore, 1) := by decide +kernel
theorem dX10_findFacts_72 : decode cX10_findFacts 72 = .ok (.aload_n 0, 1) := by decide +kernel
theorem dX10_findFacts_73 : decode cX10_findFacts 73 = .ok (.getfield 53, 3) := by decide +kernel
theorem dX10_findFacts_76 : decode cX10_findFacts 76 = .ok (.iconst 5, 1) := by decide +kernel
theorem dX10_findFacts_77 : decode cX10_findFacts 77 = .ok (.iload_n 3, 1) := by decide +kernel
theorem dX10_findFacts_78 : decode cX10_findFacts 78 = .ok (.iastore, 1) := by decide +kernel
theorem dX10_findFacts_79 : decode cX10_findFacts 79 = .ok (.aload_n 0, 1) := by decide +kernel
theorem dX10_findFacts_80 : decode cX10_findFacts 80 = .ok (.getfield 53, 3) := by decide +kernel
theorem dX10_findFacts_83 : decode cX10_findFacts 83 = .ok (.bipush 6, 2) := by decide +kernel
theorem dX10_findFacts_85 : decode cX10_findFacts 85 = .ok (.aload_n 0, 1) := by decide +kernel
theorem dX10_findFacts_86 : decode cX10_findFacts 86 = .ok (.getfield 29, 3) := by decide +kernel
theorem dX10_findFacts_89 : decode cX10_findFacts 89 = .ok (.bipush 8, 2) := by decide +kernel
theorem dX10_findFacts_91 : decode cX10_findFacts 91 = .ok (.iload_n 1, 1) := by decide +kernel
theorem dX10_findFacts_92 : decode cX10_findFacts 92 = .ok (.imul, 1) := by decide +kernel
theorem dX10_findFacts_93 : decode cX10_findFacts 93 = .ok (.iconst 1, 1) := by decide +kernel
theorem dX10_findFacts_94 : decode cX10_findFacts 94 = .ok (.iadd, 1) := by decide +kernel
theorem dX10_findFacts_95 : decode cX10_findFacts 95 = .ok (.iaload, 1) := by decide +kernel
theorem dX10_findFacts_96 : decode cX10_findFacts 96 = .ok (.iastore, 1) := by decide +kernel
theorem dX10_findFacts_97 : decode cX10_findFacts 97 = .ok (.aload_n 0, 1) := by decide +kernel
theorem dX10_findFacts_98 : decode cX10_findFacts 98 = .ok (.getfield 53, 3) := by decide +kernel
theorem dX10_findFacts_101 : decode cX10_findFacts 101 = .ok (.bipush 7, 2) := by decide +kernel
theorem dX10_findFacts_103 : decode cX10_findFacts 103 = .ok (.aload_n 0, 1) := by decide +kernel
theorem dX10_findFacts_104 : decode cX10_findFacts 104 = .ok (.getfield 65, 3) := by decide +kernel
theorem dX10_findFacts_107 : decode cX10_findFacts 107 = .ok (.bipush 40, 2) := by decide +kernel
theorem dX10_findFacts_109 : decode cX10_findFacts 109 = .ok (.iaload, 1) := by decide +kernel
theorem dX10_findFacts_110 : decode cX10_findFacts 110 = .ok (.iastore, 1) := by decide +kernel
theorem dX10_findFacts_111 : decode cX10_findFacts 111 = .ok (.aload_n 0, 1) := by decide +kernel
theorem dX10_findFacts_112 : decode cX10_findFacts 112 = .ok (.getfield 53, 3) := by decide +kernel
theorem dX10_findFacts_115 : decode cX10_findFacts 115 = .ok (.bipush 8, 2) := by decide +kernel
theorem dX10_findFacts_117 : decode cX10_findFacts 117 = .ok (.iconst 0, 1) := by decide +kernel
theorem dX10_findFacts_118 : decode cX10_findFacts 118 = .ok (.iastore, 1) := by decide +kernel
theorem dX10_findFacts_119 : decode cX10_findFacts 119 = .ok (.return_, 1) := by decide +kernel
theorem dX10_fine_0 : decode cX10_fine 0 = .ok (.aload_n 0, 1) := by decide +kernel
theorem dX10_fine_1 : decode cX10_fine 1 = .ok (.getfield 101, 3) := by decide +kernel
theorem dX10_fine_4 : decode cX10_fine 4 = .ok (.iconst (-1), 1) := by decide +kernel
theorem dX10_fine_5 : decode cX10_fine 5 = .ok (.if_icmp .ne 7, 3) := by decide +kernel
theorem dX10_fine_8 : decode cX10_fine 8 = .ok (.iconst 1, 1) := by decide +kernel
theorem dX10_fine_9 : decode cX10_fine 9 = .ok (.goto 4, 3) := by decide +kernel
theorem dX10_fine_12 : decode cX10_fine 12 = .ok (.iconst 0, 1) := by decide +kernel
theorem dX10_fine_13 : decode cX10_fine 13 = .ok (.ireturn, 1) := by decide +kernel
theorem dX10_fits_0 : decode cX10_fits 0 = .ok (.aload_n 0, 1) := by decide +kernel
theorem dX10_fits_1 : decode cX10_fits 1 = .ok (.iconst 0, 1) := by decide +kernel
theorem dX10_fits_2 : decode cX10_fits 2 = .ok (.putfield 3, 3) := by decide +kernel
theorem dX10_fits_5 : decode cX10_fits 5 = .ok (.aload_n 0, 1) := by decide +kernel
theorem dX10_fits_6 : decode cX10_fits 6 = .ok (.iload_n 1, 1) := by decide +kernel
theorem dX10_fits_7 : decode cX10_fits 7 = .ok (.iconst 1, 1) := by decide +kernel
theorem dX10_fits_8 : decode cX10_fits 8 = .ok (.invokevirtual 383, 3) := by decide +kernel
theorem dX10_fits_11 : decode cX10_fits 11 = .ok (.ifCond .ne 5, 3) := by decide +kernel
theorem dX10_fits_14 : decode cX10_fits 14 = .ok (.iconst 0, 1) := by decide +kernel
theorem dX10_fits_15 : decode cX10_fits 15 = .ok (.ireturn, 1) := by decide +kernel
theorem dX10_fits_16 : decode cX10_fits 16 = .ok (.aload_n 0, 1) := by decide +kernel
theorem dX10_fits_17 : decode cX10_fits 17 = .ok (.iload_n 1, 1) := by decide +kernel
theorem dX10_fits_18 : decode cX10_fits 18 = .ok (.invokevirtual 423, 3) := by decide +kernel
theorem dX10_fits_21 : decode cX10_fits 21 = .ok (.ireturn, 1) := by decide +kernel
theorem dX10_fitsOf_0 : decode cX10_fitsOf 0 = .ok (.iconst 0, 1) := by decide +kernel
theorem dX10_fitsOf_1 : decode cX10_fitsOf 1 = .ok (.istore_n 2, 1) := by decide +kernel
theorem dX10_fitsOf_2 : decode cX10_fitsOf 2 = .ok (.iconst 0, 1) := by decide +kernel
theorem dX10_fitsOf_3 : decode cX10_fitsOf 3 = .ok (.istore_n 3, 1) := by decide +kernel
theorem dX10_fitsOf_4 : decode cX10_fitsOf 4 = .ok (.iload_n 3, 1) := by decide +kernel
theorem dX10_fitsOf_5 : decode cX10_fitsOf 5 = .ok (.bipush 9, 2) := by decide +kernel
theorem dX10_fitsOf_7 : decode cX10_fitsOf 7 = .ok (.if_icmp .gt 86, 3) := by decide +kernel
theorem dX10_fitsOf_10 : decode cX10_fitsOf 10 = .ok (.iconst 1, 1) := by decide +kernel
theorem dX10_fitsOf_11 : decode cX10_fitsOf 11 = .ok (.istore 4, 2) := by decide +kernel
theorem dX10_fitsOf_13 : decode cX10_fitsOf 13 = .ok (.iconst 0, 1) := by decide +kernel
theorem dX10_fitsOf_14 : decode cX10_fitsOf 14 = .ok (.istore 5, 2) := by decide +kernel
theorem dX10_fitsOf_16 : decode cX10_fitsOf 16 = .ok (.iload 5, 2) := by decide +kernel
theorem dX10_fitsOf_18 : decode cX10_fitsOf 18 = .ok (.aload_n 0, 1) := by decide +kernel
theorem dX10_fitsOf_19 : decode cX10_fitsOf 19 = .ok (.getfield 169, 3) := by decide +kernel
theorem dX10_fitsOf_22 : decode cX10_fitsOf 22 = .ok (.if_icmp .ge 50, 3) := by decide +kernel
theorem dX10_fitsOf_25 : decode cX10_fitsOf 25 = .ok (.iload 4, 2) := by decide +kernel
theorem dX10_fitsOf_27 : decode cX10_fitsOf 27 = .ok (.ifCond .eq 36, 3) := by decide +kernel
theorem dX10_fitsOf_30 : decode cX10_fitsOf 30 = .ok (.aload_n 0, 1) := by decide +kernel
theorem dX10_fitsOf_31 : decode cX10_fitsOf 31 = .ok (.iload_n 1, 1) := by decide +kernel
theorem dX10_fitsOf_32 : decode cX10_fitsOf 32 = .ok (.iload_n 3, 1) := by decide +kernel
theorem dX10_fitsOf_33 : decode cX10_fitsOf 33 = .ok (.aload_n 0, 1) := by decide +kernel
theorem dX10_fitsOf_34 : decode cX10_fitsOf 34 = .ok (.getfield 80, 3) := by decide +kernel
theorem dX10_fitsOf_37 : decode cX10_fitsOf 37 = .ok (.iconst 2, 1) := by decide +kernel
theorem dX10_fitsOf_38 : decode cX10_fitsOf 38 = .ok (.iload 5, 2) := by decide +kernel
theorem dX10_fitsOf_40 : decode cX10_fitsOf 40 = .ok (.imul, 1) := by decide +kernel
theorem dX10_fitsOf_41 : decode cX10_fitsOf 41 = .ok (.iaload, 1) := by decide +kernel
theorem dX10_fitsOf_42 : decode cX10_fitsOf 42 = .ok (.invokevirtual 420, 3) := by decide +kernel
theorem dX10_fitsOf_45 : decode cX10_fitsOf 45 = .ok (.aload_n 0, 1) := by decide +kernel
theorem dX10_fitsOf_46 : decode cX10_fitsOf 46 = .ok (.getfield 80, 3) := by decide +kernel
theorem dX10_fitsOf_49 : decode cX10_fitsOf 49 = .ok (.iconst 2, 1) := by decide +kernel
theorem dX10_fitsOf_50 : decode cX10_fitsOf 50 = .ok (.iload 5, 2) := by decide +kernel
theorem dX10_fitsOf_52 : decode cX10_fitsOf 52 = .ok (.imul, 1) := by decide +kernel
theorem dX10_fitsOf_53 : decode cX10_fitsOf 53 = .ok (.iconst 1, 1) := by decide +kernel
theorem dX10_fitsOf_54 : decode cX10_fitsOf 54 = .ok (.iadd, 1) := by decide +kernel
theorem dX10_fitsOf_55 : decode cX10_fitsOf 55 = .ok (.iaload, 1) := by decide +kernel
theorem dX10_fitsOf_56 : decode cX10_fitsOf 56 = .ok (.if_icmp .ne 7, 3) := by decide +kernel
theorem dX10_fitsOf_59 : decode cX10_fitsOf 59 = .ok (.iconst 1, 1) := by decide +kernel
theorem dX10_fitsOf_60 : decode cX10_fitsOf 60 = .ok (.goto 4, 3) := by decide +kernel
theorem dX10_fitsOf_63 : decode cX10_fitsOf 63 = .ok (.iconst 0, 1) := by decide +kernel
theorem dX10_fitsOf_64 : decode cX10_fitsOf 64 = .ok (.istore 4, 2) := by decide +kernel
theorem dX10_fitsOf_66 : decode cX10_fitsOf 66 = .ok (.iinc 5 1, 3) := by decide +kernel
theorem dX10_fitsOf_69 : decode cX10_fitsOf 69 = .ok (.goto (-53), 3) := by decide +kernel
theorem dX10_fitsOf_72 : decode cX10_fitsOf 72 = .ok (.iload_n 2, 1) := by decide +kernel
theorem dX10_fitsOf_73 : decode cX10_fitsOf 73 = .ok (.iload 4, 2) := by decide +kernel
theorem dX10_fitsOf_75 : decode cX10_fitsOf 75 = .ok (.ifCond .eq 9, 3) := by decide +kernel
theorem dX10_fitsOf_78 : decode cX10_fitsOf 78 = .ok (.iconst 1, 1) := by decide +kernel
theorem dX10_fitsOf_79 : decode cX10_fitsOf 79 = .ok (.iload_n 3, 1) := by decide +kernel
theorem dX10_fitsOf_80 : decode cX10_fitsOf 80 = .ok (.ishl, 1) := by decide +kernel
theorem dX10_fitsOf_81 : decode cX10_fitsOf 81 = .ok (.goto 4, 3) := by decide +kernel
theorem dX10_fitsOf_84 : decode cX10_fitsOf 84 = .ok (.iconst 0, 1) := by decide +kernel
theorem dX10_fitsOf_85 : decode cX10_fitsOf 85 = .ok (.ior, 1) := by decide +kernel
theorem dX10_fitsOf_86 : decode cX10_fitsOf 86 = .ok (.istore_n 2, 1) := by decide +kernel
theorem dX10_fitsOf_87 : decode cX10_fitsOf 87 = .ok (.iinc 3 1, 3) := by decide +kernel
theorem dX10_fitsOf_90 : decode cX10_fitsOf 90 = .ok (.goto (-86), 3) := by decide +kernel
theorem dX10_fitsOf_93 : decode cX10_fitsOf 93 = .ok (.iload_n 2, 1) := by decide +kernel
theorem dX10_fitsOf_94 : decode cX10_fitsOf 94 = .ok (.ireturn, 1) := by decide +kernel
theorem dX10_from_0 : decode cX10_from 0 = .ok (.iload_n 2, 1) := by decide +kernel
theorem dX10_from_1 : decode cX10_from 1 = .ok (.iload_n 1, 1) := by decide +kernel
theorem dX10_from_2 : decode cX10_from 2 = .ok (.if_icmp .eq 24, 3) := by decide +kernel
theorem dX10_from_5 : decode cX10_from 5 = .ok (.aload_n 0, 1) := by decide +kernel
theorem dX10_from_6 : decode cX10_from 6 = .ok (.iload_n 2, 1) := by decide +kernel
theorem dX10_from_7 : decode cX10_from 7 = .ok (.invokevirtual 343, 3) := by decide +kernel
theorem dX10_from_10 : decode cX10_from 10 = .ok (.ifCond .eq 16, 3) := by decide +kernel
theorem dX10_from_13 : decode cX10_from 13 = .ok (.aload_n 0, 1) := by decide +kernel
theorem dX10_from_14 : decode cX10_from 14 = .ok (.getfield 65, 3) := by decide +kernel
theorem dX10_from_17 : decode cX10_from 17 = .ok (.bipush 20, 2) := by decide +kernel
theorem dX10_from_19 : decode cX10_from 19 = .ok (.iload_n 2, 1) := by decide +kernel
theorem dX10_from_20 : decode cX10_from 20 = .ok (.iadd, 1) := by decide +kernel
theorem dX10_from_21 : decode cX10_from 21 = .ok (.iaload, 1) := by decide +kernel
theorem dX10_from_22 : decode cX10_from 22 = .ok (.iconst 1, 1) := by decide +kernel
theorem dX10_from_23 : decode cX10_from 23 = .ok (.if_icmp .ne 5, 3) := by decide +kernel
theorem dX10_from_26 : decode cX10_from 26 = .ok (.iconst 0, 1) := by decide +kernel
theorem dX10_from_27 : decode cX10_from 27 = .ok (.ireturn, 1) := by decide +kernel
theorem dX10_from_28 : decode cX10_from 28 = .ok (.aload_n 0, 1) := by decide +kernel
theorem dX10_from_29 : decode cX10_from 29 = .ok (.iload_n 2, 1) := by decide +kernel
theorem dX10_from_30 : decode cX10_from 30 = .ok (.invokevirtual 346, 3) := by decide +kernel
theorem dX10_from_33 : decode cX10_from 33 = .ok (.aload_n 0, 1) := by decide +kernel
theorem dX10_from_34 : decode cX10_from 34 = .ok (.getfield 65, 3) := by decide +kernel
theorem dX10_from_37 : decode cX10_from 37 = .ok (.iconst 5, 1) := by decide +kernel
theorem dX10_from_38 : decode cX10_from 38 = .ok (.iload_n 2, 1) := by decide +kernel
theorem dX10_from_39 : decode cX10_from 39 = .ok (.iadd, 1) := by decide +kernel
theorem dX10_from_40 : decode cX10_from 40 = .ok (.iaload, 1) := by decide +kernel
theorem dX10_from_41 : decode cX10_from 41 = .ok (.aload_n 0, 1) := by decide +kernel
theorem dX10_from_42 : decode cX10_from 42 = .ok (.getfield 65, 3) := by decide +kernel
theorem dX10_from_45 : decode cX10_from 45 = .ok (.iconst 5, 1) := by decide +kernel
theorem dX10_from_46 : decode cX10_from 46 = .ok (.iload_n 1, 1) := by decide +kernel
theorem dX10_from_47 : decode cX10_from 47 = .ok (.iadd, 1) := by decide +kernel
theorem dX10_from_48 : decode cX10_from 48 = .ok (.iaload, 1) := by decide +kernel
theorem dX10_from_49 : decode cX10_from 49 = .ok (.if_icmp .ne 7, 3) := by decide +kernel
theorem dX10_from_52 : decode cX10_from 52 = .ok (.iconst 0, 1) := by decide +kernel
theorem dX10_from_53 : decode cX10_from 53 = .ok (.goto 7, 3) := by decide +kernel
theorem dX10_from_56 : decode cX10_from 56 = .ok (.aload_n 0, 1) := by decide +kernel
theorem dX10_from_57 : decode cX10_from 57 = .ok (.getfield 159, 3) := by decide +kernel
theorem dX10_from_60 : decode cX10_from 60 = .ok (.isub, 1) := by decide +kernel
theorem dX10_from_61 : decode cX10_from 61 = .ok (.istore_n 3, 1) := by decide +kernel
theorem dX10_from_62 : decode cX10_from 62 = .ok (.iload_n 3, 1) := by decide +kernel
theorem dX10_from_63 : decode cX10_from 63 = .ok (.ifCond .le 7, 3) := by decide +kernel
theorem dX10_from_66 : decode cX10_from 66 = .ok (.iload_n 3, 1) := by decide +kernel
theorem dX10_from_67 : decode cX10_from 67 = .ok (.goto 4, 3) := by decide +kernel
theorem dX10_from_70 : decode cX10_from 70 = .ok (.iconst 0, 1) := by decide +kernel
theorem dX10_from_71 : decode cX10_from 71 = .ok (.ireturn, 1) := by decide +kernel
theorem dX10_goes_0 : decode cX10_goes 0 = .ok (.iload_n 1, 1) := by decide +kernel
theorem dX10_goes_1 : decode cX10_goes 1 = .ok (.iconst 5, 1) := by decide +kernel
theorem dX10_goes_2 : decode cX10_goes 2 = .ok (.if_icmp .ne 8, 3) := by decide +kernel
theorem dX10_goes_5 : decode cX10_goes 5 = .ok (.aload_n 0, 1) := by decide +kernel
theorem dX10_goes_6 : decode cX10_goes 6 = .ok (.invokevirtual 372, 3) := by decide +kernel
theorem dX10_goes_9 : decode cX10_goes 9 = .ok (.ireturn, 1) := by decide +kernel
theorem dX10_goes_10 : decode cX10_goes 10 = .ok (.iload_n 1, 1) := by decide +kernel
theorem dX10_goes_11 : decode cX10_goes 11 = .ok (.ifCond .ne 10, 3) := by decide +kernel
theorem dX10_goes_14 : decode cX10_goes 14 = .ok (.aload_n 0, 1) := by decide +kernel
theorem dX10_goes_15 : decode cX10_goes 15 = .ok (.iload_n 2, 1) := by decide +kernel
theorem dX10_goes_16 : decode cX10_goes 16 = .ok (.iload_n 3, 1) := by decide +kernel
theorem dX10_goes_17 : decode cX10_goes 17 = .ok (.invokevirtual 374, 3) := by decide +kernel
theorem dX10_goes_20 : decode cX10_goes 20 = .ok (.ireturn, 1) := by decide +kernel
theorem dX10_goes_21 : decode cX10_goes 21 = .ok (.iload_n 1, 1) := by decide +kernel
theorem dX10_goes_22 : decode cX10_goes 22 = .ok (.iconst 4, 1) := by decide +kernel
theorem dX10_goes_23 : decode cX10_goes 23 = .ok (.if_icmp .ne 20, 3) := by decide +kernel
theorem dX10_goes_26 : decode cX10_goes 26 = .ok (.aload_n 0, 1) := by decide +kernel
theorem dX10_goes_27 : decode cX10_goes 27 = .ok (.iload_n 2, 1) := by decide +kernel
theorem dX10_goes_28 : decode cX10_goes 28 = .ok (.invokevirtual 343, 3) := by decide +kernel
theorem dX10_goes_31 : decode cX10_goes 31 = .ok (.ifCond .ne 5, 3) := by decide +kernel
theorem dX10_goes_34 : decode cX10_goes 34 = .ok (.iconst 0, 1) := by decide +kernel
theorem dX10_goes_35 : decode cX10_goes 35 = .ok (.ireturn, 1) := by decide +kernel
theorem dX10_goes_36 : decode cX10_goes 36 = .ok (.aload_n 0, 1) := by decide +kernel
theorem dX10_goes_37 : decode cX10_goes 37 = .ok (.iload_n 2, 1) := by decide +kernel
theorem dX10_goes_38 : decode cX10_goes 38 = .ok (.invokevirtual 366, 3) := by decide +kernel
theorem dX10_goes_41 : decode cX10_goes 41 = .ok (.iconst 1, 1) := by decide +kernel
theorem dX10_goes_42 : decode cX10_goes 42 = .ok (.ireturn, 1) := by decide +kernel
theorem dX10_goes_43 : decode cX10_goes 43 = .ok (.aload_n 0, 1) := by decide +kernel
theorem dX10_goes_44 : decode cX10_goes 44 = .ok (.iload_n 2, 1) := by decide +kernel
theorem dX10_goes_45 : decode cX10_goes 45 = .ok (.invokevirtual 343, 3) := by decide +kernel
theorem dX10_goes_48 : decode cX10_goes 48 = .ok (.ifCond .ne 21, 3) := by decide +kernel
theorem dX10_goes_51 : decode cX10_goes 51 = .ok (.iload_n 1, 1) := by decide +kernel
theorem dX10_goes_52 : decode cX10_goes 52 = .ok (.iconst 3, 1) := by decide +kernel
theorem dX10_goes_53 : decode cX10_goes 53 = .ok (.if_icmp .ne 18, 3) := by decide +kernel
theorem dX10_goes_56 : decode cX10_goes 56 = .ok (.aload_n 0, 1) := by decide +kernel
theorem dX10_goes_57 : decode cX10_goes 57 = .ok (.getfield 65, 3) := by decide +kernel
theorem dX10_goes_60 : decode cX10_goes 60 = .ok (.bipush 10, 2) := by decide +kernel
theorem dX10_goes_62 : decode cX10_goes 62 = .ok (.iload_n 2, 1) := by decide +kernel
theorem dX10_goes_63 : decode cX10_goes 63 = .ok (.iadd, 1) := by decide +kernel
theorem dX10_goes_64 : decode cX10_goes 64 = .ok (.iaload, 1) := by decide +kernel
theorem dX10_goes_65 : decode cX10_goes 65 = .ok (.iload_n 3, 1) := by decide +kernel
theorem dX10_goes_66 : decode cX10_goes 66 = .ok (.if_icmp .ne 5, 3) := by decide +kernel
theorem dX10_goes_69 : decode cX10_goes 69 = .ok (.iconst 0, 1) := by decide +kernel
theorem dX10_goes_70 : decode cX10_goes 70 = .ok (.ireturn, 1) := by decide +kernel
theorem dX10_goes_71 : decode cX10_goes 71 = .ok (.iload_n 1, 1) := by decide +kernel
theorem dX10_goes_72 : decode cX10_goes 72 = .ok (.iconst 1, 1) := by decide +kernel
theorem dX10_goes_73 : decode cX10_goes 73 = .ok (.if_icmp .ne 26, 3) := by decide +kernel
theorem dX10_goes_76 : decode cX10_goes 76 = .ok (.aload_n 0, 1) := by decide +kernel
theorem dX10_goes_77 : decode cX10_goes 77 = .ok (.getfield 65, 3) := by decide +kernel
theorem dX10_goes_80 : decode cX10_goes 80 = .ok (.bipush 20, 2) := by decide +kernel
theorem dX10_goes_82 : decode cX10_goes 82 = .ok (.iload_n 2, 1) := by decide +kernel
theorem dX10_goes_83 : decode cX10_goes 83 = .ok (.iadd, 1) := by decide +kernel
theorem dX10_goes_84 : decode cX10_goes 84 = .ok (.iconst 1, 1) := by decide +kernel
theorem dX10_goes_85 : decode cX10_goes 85 = .ok (.aload_n 0, 1) := by decide +kernel
theorem dX10_goes_86 : decode cX10_goes 86 = .ok (.getfield 65, 3) := by decide +kernel
theorem dX10_goes_89 : decode cX10_goes 89 = .ok (.bipush 20, 2) := by decide +kernel
theorem dX10_goes_91 : decode cX10_goes 91 = .ok (.iload_n 2, 1) := by decide +kernel
theorem dX10_goes_92 : decode cX10_goes 92 = .ok (.iadd, 1) := by decide +kernel
theorem dX10_goes_93 : decode cX10_goes 93 = .ok (.iaload, 1) := by decide +kernel
theorem dX10_goes_94 : decode cX10_goes 94 = .ok (.isub, 1) := by decide +kernel
theorem dX10_goes_95 : decode cX10_goes 95 = .ok (.iastore, 1) := by decide +kernel
theorem dX10_goes_96 : decode cX10_goes 96 = .ok (.goto 39, 3) := by decide +kernel
theorem dX10_goes_99 : decode cX10_goes 99 = .ok (.iload_n 1, 1) := by decide +kernel
theorem dX10_goes_100 : decode cX10_goes 100 = .ok (.iconst 2, 1) := by decide +kernel
theorem dX10_goes_101 : decode cX10_goes 101 = .ok (.if_icmp .ne 24, 3) := by decide +kernel
theorem dX10_goes_104 : decode cX10_goes 104 = .ok (.aload_n 0, 1) := by decide +kernel
theorem dX10_goes_105 : decode cX10_goes 105 = .ok (.getfield 65, 3) := by decide +kernel
theorem dX10_goes_108 : decode cX10_goes 108 = .ok (.iconst 5, 1) := by decide +kernel
theorem dX10_goes_109 : decode cX10_goes 109 = .ok (.iload_n 2, 1) := by decide +kernel
theorem dX10_goes_110 : decode cX10_goes 110 = .ok (.iadd, 1) := by decide +kernel
theorem dX10_goes_111 : decode cX10_goes 111 = .ok (.iconst 1, 1) := by decide +kernel
theorem dX10_goes_112 : decode cX10_goes 112 = .ok (.aload_n 0, 1) := by decide +kernel
theorem dX10_goes_113 : decode cX10_goes 113 = .ok (.getfield 65, 3) := by decide +kernel
theorem dX10_goes_116 : decode cX10_goes 116 = .ok (.iconst 5, 1) := by decide +kernel
theorem dX10_goes_117 : decode cX10_goes 117 = .ok (.iload_n 2, 1) := by decide +kernel
theorem dX10_goes_118 : decode cX10_goes 118 = .ok (.iadd, 1) := by decide +kernel
theorem dX10_goes_119 : decode cX10_goes 119 = .ok (.iaload, 1) := by decide +kernel
theorem dX10_goes_120 : decode cX10_goes 120 = .ok (.isub, 1) := by decide +kernel
theorem dX10_goes_121 : decode cX10_goes 121 = .ok (.iastore, 1) := by decide +kernel
theorem dX10_goes_122 : decode cX10_goes 122 = .ok (.goto 13, 3) := by decide +kernel
theorem dX10_goes_125 : decode cX10_goes 125 = .ok (.aload_n 0, 1) := by decide +kernel
theorem dX10_goes_126 : decode cX10_goes 126 = .ok (.getfield 65, 3) := by decide +kernel
theorem dX10_goes_129 : decode cX10_goes 129 = .ok (.bipush 10, 2) := by decide +kernel
theorem dX10_goes_131 : decode cX10_goes 131 = .ok (.iload_n 2, 1) := by decide +kernel
theorem dX10_goes_132 : decode cX10_goes 132 = .ok (.iadd, 1) := by decide +kernel
theorem dX10_goes_133 : decode cX10_goes 133 = .ok (.iload_n 3, 1) := by decide +kernel
theorem dX10_goes_134 : decode cX10_goes 134 = .ok (.iastore, 1) := by decide +kernel
theorem dX10_goes_135 : decode cX10_goes 135 = .ok (.iconst 1, 1) := by decide +kernel
theorem dX10_goes_136 : decode cX10_goes 136 = .ok (.ireturn, 1) := by decide +kernel
theorem dX10_goesOn_0 : decode cX10_goesOn 0 = .ok (.aload_n 0, 1) := by decide +kernel
theorem dX10_goesOn_1 : decode cX10_goesOn 1 = .ok (.invokevirtual 377, 3) := by decide +kernel
theorem dX10_goesOn_4 : decode cX10_goesOn 4 = .ok (.istore_n 2, 1) := by decide +kernel
theorem dX10_goesOn_5 : decode cX10_goesOn 5 = .ok (.iconst 0, 1) := by decide +kernel
theorem dX10_goesOn_6 : decode cX10_goesOn 6 = .ok (.istore_n 3, 1) := by decide +kernel
theorem dX10_goesOn_7 : decode cX10_goesOn 7 = .ok (.iload_n 3, 1) := by decide +kernel
theorem dX10_goesOn_8 : decode cX10_goesOn 8 = .ok (.iload_n 1, 1) := by decide +kernel
theorem dX10_goesOn_9 : decode cX10_goesOn 9 = .ok (.if_icmp .ge 14, 3) := by decide +kernel
theorem dX10_goesOn_12 : decode cX10_goesOn 12 = .ok (.aload_n 0, 1) := by decide +kernel
theorem dX10_goesOn_13 : decode cX10_goesOn 13 = .ok (.invokevirtual 372, 3) := by decide +kernel
theorem dX10_goesOn_16 : decode cX10_goesOn 16 = .ok (.pop, 1) := by decide +kernel
theorem dX10_goesOn_17 : decode cX10_goesOn 17 = .ok (.iinc 3 1, 3) := by decide +kernel
theorem dX10_goesOn_20 : decode cX10_goesOn 20 = .ok (.goto (-13), 3) := by decide +kernel
theorem dX10_goesOn_23 : decode cX10_goesOn 23 = .ok (.aload_n 0, 1) := by decide +kernel
theorem dX10_goesOn_24 : decode cX10_goesOn 24 = .ok (.invokevirtual 377, 3) := by decide +kernel
theorem dX10_goesOn_27 : decode cX10_goesOn 27 = .ok (.iload_n 2, 1) := by decide +kernel
theorem dX10_goesOn_28 : decode cX10_goesOn 28 = .ok (.isub, 1) := by decide +kernel
theorem dX10_goesOn_29 : decode cX10_goesOn 29 = .ok (.ireturn, 1) := by decide +kernel
theorem dX10_goesSteps_0 : decode cX10_goesSteps 0 = .ok (.iload_n 1, 1) := by decide +kernel
theorem dX10_goesSteps_1 : decode cX10_goesSteps 1 = .ok (.istore_n 3, 1) := by decide +kernel
theorem dX10_goesSteps_2 : decode cX10_goesSteps 2 = .ok (.iload_n 3, 1) := by decide +kernel
theorem dX10_goesSteps_3 : decode cX10_goesSteps 3 = .ok (.iload_n 2, 1) := by decide +kernel
theorem dX10_goesSteps_4 : decode cX10_goesSteps 4 = .ok (.if_icmp .ge 149, 3) := by decide +kernel
theorem dX10_goesSteps_7 : decode cX10_goesSteps 7 = .ok (.aload_n 0, 1) := by decide +kernel
theorem dX10_goesSteps_8 : decode cX10_goesSteps 8 = .ok (.getfield 319, 3) := by decide +kernel
theorem dX10_goesSteps_11 : decode cX10_goesSteps 11 = .ok (.sipush 240, 3) := by decide +kernel
theorem dX10_goesSteps_14 : decode cX10_goesSteps 14 = .ok (.if_icmp .ge 139, 3) := by decide +kernel
theorem dX10_goesSteps_17 : decode cX10_goesSteps 17 = .ok (.aload_n 0, 1) := by decide +kernel
theorem dX10_goesSteps_18 : decode cX10_goesSteps 18 = .ok (.dup, 1) := by decide +kernel
theorem dX10_goesSteps_19 : decode cX10_goesSteps 19 = .ok (.getfield 319, 3) := by decide +kernel
theorem dX10_goesSteps_22 : decode cX10_goesSteps 22 = .ok (.iconst 1, 1) := by decide +kernel
theorem dX10_goesSteps_23 : decode cX10_goesSteps 23 = .ok (.iadd, 1) := by decide +kernel
theorem dX10_goesSteps_24 : decode cX10_goesSteps 24 = .ok (.putfield 319, 3) := by decide +kernel
theorem dX10_goesSteps_27 : decode cX10_goesSteps 27 = .ok (.aload_n 0, 1) := by decide +kernel
theorem dX10_goesSteps_28 : decode cX10_goesSteps 28 = .ok (.getfield 59, 3) := by decide +kernel
theorem dX10_goesSteps_31 : decode cX10_goesSteps 31 = .ok (.iload_n 3, 1) := by decide +kernel
theorem dX10_goesSteps_32 : decode cX10_goesSteps 32 = .ok (.iaload, 1) := by decide +kernel
theorem dX10_goesSteps_33 : decode cX10_goesSteps 33 = .ok (.bipush 6, 2) := by decide +kernel
theorem dX10_goesSteps_35 : decode cX10_goesSteps 35 = .ok (.if_icmp .ne 60, 3) := by decide +kernel
theorem dX10_goesSteps_38 : decode cX10_goesSteps 38 = .ok (.aload_n 0, 1) := by decide +kernel
theorem dX10_goesSteps_39 : decode cX10_goesSteps 39 = .ok (.getfield 59, 3) := by decide +kernel
theorem dX10_goesSteps_42 : decode cX10_goesSteps 42 = .ok (.iload_n 3, 1) := by decide +kernel
theorem dX10_goesSteps_43 : decode cX10_goesSteps 43 = .ok (.iconst 2, 1) := by decide +kernel
theorem dX10_goesSteps_44 : decode cX10_goesSteps 44 = .ok (.iadd, 1) := by decide +kernel
theorem dX10_goesSteps_45 : decode cX10_goesSteps 45 = .ok (.iaload, 1) := by decide +kernel
theorem dX10_goesSteps_46 : decode cX10_goesSteps 46 = .ok (.istore 4, 2) := by decide +kernel
theorem dX10_goesSteps_48 : decode cX10_goesSteps 48 = .ok (.iconst 0, 1) := by decide +kernel
theorem dX10_goesSteps_49 : decode cX10_goesSteps 49 = .ok (.istore 5, 2) := by decide +kernel
theorem dX10_goesSteps_51 : decode cX10_goesSteps 51 = .ok (.iload 5, 2) := by decide +kernel
theorem dX10_goesSteps_53 : decode cX10_goesSteps 53 = .ok (.aload_n 0, 1) := by decide +kernel
theorem dX10_goesSteps_54 : decode cX10_goesSteps 54 = .ok (.getfield 59, 3) := by decide +kernel
theorem dX10_goesSteps_57 : decode cX10_goesSteps 57 = .ok (.iload_n 3, 1) := by decide +kernel
theorem dX10_goesSteps_58 : decode cX10_goesSteps 58 = .ok (.iconst 1, 1) := by decide +kernel
theorem dX10_goesSteps_59 : decode cX10_goesSteps 59 = .ok (.iadd, 1) := by decide +kernel
theorem dX10_goesSteps_60 : decode cX10_goesSteps 60 = .ok (.iaload, 1) := by decide +kernel
theorem dX10_goesSteps_61 : decode cX10_goesSteps 61 = .ok (.if_icmp .ge 28, 3) := by decide +kernel
theorem dX10_goesSteps_64 : decode cX10_goesSteps 64 = .ok (.aload_n 0, 1) := by decide +kernel
theorem dX10_goesSteps_65 : decode cX10_goesSteps 65 = .ok (.getfield 319, 3) := by decide +kernel
theorem dX10_goesSteps_68 : decode cX10_goesSteps 68 = .ok (.sipush 240, 3) := by decide +kernel
theorem dX10_goesSteps_71 : decode cX10_goesSteps 71 = .ok (.if_icmp .ge 18, 3) := by decide +kernel
theorem dX10_goesSteps_74 : decode cX10_goesSteps 74 = .ok (.aload_n 0, 1) := by decide +kernel
theorem dX10_goesSteps_75 : decode cX10_goesSteps 75 = .ok (.iload_n 3, 1) := by decide +kernel
theorem dX10_goesSteps_76 : decode cX10_goesSteps 76 = .ok (.iconst 3, 1) := by decide +kernel
theorem dX10_goesSteps_77 : decode cX10_goesSteps 77 = .ok (.iadd, 1) := by decide +kernel
theorem dX10_goesSteps_78 : decode cX10_goesSteps 78 = .ok (.iload 4, 2) := by decide +kernel
theorem dX10_goesSteps_80 : decode cX10_goesSteps 80 = .ok (.invokevirtual 328, 3) := by decide +kernel
theorem dX10_goesSteps_83 : decode cX10_goesSteps 83 = .ok (.iinc 5 1, 3) := by decide +kernel
theorem dX10_goesSteps_86 : decode cX10_goesSteps 86 = .ok (.goto (-35), 3) := by decide +kernel
theorem dX10_goesSteps_89 : decode cX10_goesSteps 89 = .ok (.iload 4, 2) := by decide +kernel
theorem dX10_goesSteps_91 : decode cX10_goesSteps 91 = .ok (.istore_n 3, 1) := by decide +kernel
theorem dX10_goesSteps_92 : decode cX10_goesSteps 92 = .ok (.goto (-90), 3) := by decide +kernel
theorem dX10_goesSteps_95 : decode cX10_goesSteps 95 = .ok (.aload_n 0, 1) := by decide +kernel
theorem dX10_goesSteps_96 : decode cX10_goesSteps 96 = .ok (.aload_n 0, 1) := by decide +kernel
theorem dX10_goesSteps_97 : decode cX10_goesSteps 97 = .ok (.getfield 59, 3) := by decide +kernel
theorem dX10_goesSteps_100 : decode cX10_goesSteps 100 = .ok (.iload_n 3, 1) := by decide +kernel
theorem dX10_goesSteps_101 : decode cX10_goesSteps 101 = .ok (.iaload, 1) := by decide +kernel
theorem dX10_goesSteps_102 : decode cX10_goesSteps 102 = .ok (.aload_n 0, 1) := by decide +kernel
theorem dX10_goesSteps_103 : decode cX10_goesSteps 103 = .ok (.getfield 59, 3) := by decide +kernel
theorem dX10_goesSteps_106 : decode cX10_goesSteps 106 = .ok (.iload_n 3, 1) := by decide +kernel
theorem dX10_goesSteps_107 : decode cX10_goesSteps 107 = .ok (.iconst 1, 1) := by decide +kernel
theorem dX10_goesSteps_108 : decode cX10_goesSteps 108 = .ok (.iadd, 1) := by decide +kernel
theorem dX10_goesSteps_109 : decode cX10_goesSteps 109 = .ok (.iaload, 1) := by decide +kernel
theorem dX10_goesSteps_110 : decode cX10_goesSteps 110 = .ok (.aload_n 0, 1) := by decide +kernel
theorem dX10_goesSteps_111 : decode cX10_goesSteps 111 = .ok (.getfield 59, 3) := by decide +kernel
theorem dX10_goesSteps_114 : decode cX10_goesSteps 114 = .ok (.iload_n 3, 1) := by decide +kernel
theorem dX10_goesSteps_115 : decode cX10_goesSteps 115 = .ok (.iconst 2, 1) := by decide +kernel
theorem dX10_goesSteps_116 : decode cX10_goesSteps 116 = .ok (.iadd, 1) := by decide +kernel
theorem dX10_goesSteps_117 : decode cX10_goesSteps 117 = .ok (.iaload, 1) := by decide +kernel
theorem dX10_goesSteps_118 : decode cX10_goesSteps 118 = .ok (.invokevirtual 331, 3) := by decide +kernel
theorem dX10_goesSteps_121 : decode cX10_goesSteps 121 = .ok (.ifCond .eq 16, 3) := by decide +kernel
theorem dX10_goesSteps_124 : decode cX10_goesSteps 124 = .ok (.aload_n 0, 1) := by decide +kernel
theorem dX10_goesSteps_125 : decode cX10_goesSteps 125 = .ok (.dup, 1) := by decide +kernel
theorem dX10_goesSteps_126 : decode cX10_goesSteps 126 = .ok (.getfield 322, 3) := by decide +kernel
theorem dX10_goesSteps_129 : decode cX10_goesSteps 129 = .ok (.iconst 1, 1) := by decide +kernel
theorem dX10_goesSteps_130 : decode cX10_goesSteps 130 = .ok (.iadd, 1) := by decide +kernel
theorem dX10_goesSteps_131 : decode cX10_goesSteps 131 = .ok (.putfield 322, 3) := by decide +kernel
theorem dX10_goesSteps_134 : decode cX10_goesSteps 134 = .ok (.goto 13, 3) := by decide +kernel
theorem dX10_goesSteps_137 : decode cX10_goesSteps 137 = .ok (.aload_n 0, 1) := by decide +kernel
theorem dX10_goesSteps_138 : decode cX10_goesSteps 138 = .ok (.dup, 1) := by decide +kernel
theorem dX10_goesSteps_139 : decode cX10_goesSteps 139 = .ok (.getfield 325, 3) := by decide +kernel
theorem dX10_goesSteps_142 : decode cX10_goesSteps 142 = .ok (.iconst 1, 1) := by decide +kernel
theorem dX10_goesSteps_143 : decode cX10_goesSteps 143 = .ok (.iadd, 1) := by decide +kernel
theorem dX10_goesSteps_144 : decode cX10_goesSteps 144 = .ok (.putfield 325, 3) := by decide +kernel
theorem dX10_goesSteps_147 : decode cX10_goesSteps 147 = .ok (.iinc 3 3, 3) := by decide +kernel
theorem dX10_goesSteps_150 : decode cX10_goesSteps 150 = .ok (.goto (-148), 3) := by decide +kernel
theorem dX10_goesSteps_153 : decode cX10_goesSteps 153 = .ok (.return_, 1) := by decide +kernel
theorem dX10_head_0 : decode cX10_head 0 = .ok (.aload_n 0, 1) := by decide +kernel
theorem dX10_head_1 : decode cX10_head 1 = .ok (.iconst 0, 1) := by decide +kernel
theorem dX10_head_2 : decode cX10_head 2 = .ok (.putfield 3, 3) := by decide +kernel
theorem dX10_head_5 : decode cX10_head 5 = .ok (.aload_n 0, 1) := by decide +kernel
theorem dX10_head_6 : decode cX10_head 6 = .ok (.iload_n 1, 1) := by decide +kernel
theorem dX10_head_7 : decode cX10_head 7 = .ok (.iconst 1, 1) := by decide +kernel
theorem dX10_head_8 : decode cX10_head 8 = .ok (.invokevirtual 383, 3) := by decide +kernel
theorem dX10_head_11 : decode cX10_head 11 = .ok (.ifCond .eq 34, 3) := by decide +kernel
theorem dX10_head_14 : decode cX10_head 14 = .ok (.aload_n 0, 1) := by decide +kernel
theorem dX10_head_15 : decode cX10_head 15 = .ok (.iload_n 2, 1) := by decide +kernel
theorem dX10_head_16 : decode cX10_head 16 = .ok (.iconst 0, 1) := by decide +kernel
theorem dX10_head_17 : decode cX10_head 17 = .ok (.bipush 30, 2) := by decide +kernel
theorem dX10_head_19 : decode cX10_head 19 = .ok (.invokestatic 282, 3) := by decide +kernel
theorem dX10_head_22 : decode cX10_head 22 = .ok (.ifCond .eq 14, 3) := by decide +kernel
theorem dX10_head_25 : decode cX10_head 25 = .ok (.iload_n 3, 1) := by decide +kernel
theorem dX10_head_26 : decode cX10_head 26 = .ok (.invokestatic 386, 3) := by decide +kernel
theorem dX10_head_29 : decode cX10_head 29 = .ok (.ifCond .eq 7, 3) := by decide +kernel
theorem dX10_head_32 : decode cX10_head 32 = .ok (.iconst 1, 1) := by decide +kernel
theorem dX10_head_33 : decode cX10_head 33 = .ok (.goto 4, 3) := by decide +kernel
theorem dX10_head_36 : decode cX10_head 36 = .ok (.iconst 0, 1) := by decide +kernel
theorem dX10_head_37 : decode cX10_head 37 = .ok (.iconst 2, 1) := by decide +kernel
theorem dX10_head_38 : decode cX10_head 38 = .ok (.iconst 1, 1) := by decide +kernel
theorem dX10_head_39 : decode cX10_head 39 = .ok (.invokevirtual 203, 3) := by decide +kernel
theorem dX10_head_42 : decode cX10_head 42 = .ok (.ifCond .ne 5, 3) := by decide +kernel
theorem dX10_head_45 : decode cX10_head 45 = .ok (.iconst 0, 1) := by decide +kernel
theorem dX10_head_46 : decode cX10_head 46 = .ok (.ireturn, 1) := by decide +kernel
theorem dX10_head_47 : decode cX10_head 47 = .ok (.aload_n 0, 1) := by decide +kernel
theorem dX10_head_48 : decode cX10_head 48 = .ok (.iload_n 1, 1) := by decide +kernel
theorem dX10_head_49 : decode cX10_head 49 = .ok (.iload_n 2, 1) := by decide +kernel
theorem dX10_head_50 : decode cX10_head 50 = .ok (.iload_n 3, 1) := by decide +kernel
theorem dX10_head_51 : decode cX10_head 51 = .ok (.invokevirtual 395, 3) := by decide +kernel
theorem dX10_head_54 : decode cX10_head 54 = .ok (.ireturn, 1) := by decide +kernel
theorem dX10_headOf_0 : decode cX10_headOf 0 = .ok (.aload_n 0, 1) := by decide +kernel
theorem dX10_headOf_1 : decode cX10_headOf 1 = .ok (.invokevirtual 316, 3) := by decide +kernel
theorem dX10_headOf_4 : decode cX10_headOf 4 = .ok (.iconst 0, 1) := by decide +kernel
theorem dX10_headOf_5 : decode cX10_headOf 5 = .ok (.istore 4, 2) := by decide +kernel
theorem dX10_headOf_7 : decode cX10_headOf 7 = .ok (.iload 4, 2) := by decide +kernel
theorem dX10_headOf_9 : decode cX10_headOf 9 = .ok (.aload_n 0, 1) := by decide +kernel
theorem dX10_headOf_10 : decode cX10_headOf 10 = .ok (.getfield 156, 3) := by decide +kernel
theorem dX10_headOf_13 : decode cX10_headOf 13 = .ok (.if_icmp .ge 36, 3) := by decide +kernel
theorem dX10_headOf_16 : decode cX10_headOf 16 = .ok (.aload_n 0, 1) := by decide +kernel
theorem dX10_headOf_17 : decode cX10_headOf 17 = .ok (.getfield 74, 3) := by decide +kernel
theorem dX10_headOf_20 : decode cX10_headOf 20 = .ok (.iload 4, 2) := by decide +kernel
theorem dX10_headOf_22 : decode cX10_headOf 22 = .ok (.iload 4, 2) := by decide +kernel
theorem dX10_headOf_24 : decode cX10_headOf 24 = .ok (.iload_n 1, 1) := by decide +kernel
theorem dX10_headOf_25 : decode cX10_headOf 25 = .ok (.if_icmp .eq 16, 3) := by decide +kernel
theorem dX10_headOf_28 : decode cX10_headOf 28 = .ok (.aload_n 0, 1) := by decide +kernel
theorem dX10_headOf_29 : decode cX10_headOf 29 = .ok (.iload 4, 2) := by decide +kernel
theorem dX10_headOf_31 : decode cX10_headOf 31 = .ok (.invokevirtual 343, 3) := by decide +kernel
theorem dX10_headOf_34 : decode cX10_headOf 34 = .ok (.ifCond .ne 7, 3) := by decide +kernel
theorem dX10_headOf_37 : decode cX10_headOf 37 = .ok (.iload_n 2, 1) := by decide +kernel
theorem dX10_headOf_38 : decode cX10_headOf 38 = .ok (.goto 4, 3) := by decide +kernel
theorem dX10_headOf_41 : decode cX10_headOf 41 = .ok (.iconst 0, 1) := by decide +kernel
theorem dX10_headOf_42 : decode cX10_headOf 42 = .ok (.iastore, 1) := by decide +kernel
theorem dX10_headOf_43 : decode cX10_headOf 43 = .ok (.iinc 4 1, 3) := by decide +kernel
theorem dX10_headOf_46 : decode cX10_headOf 46 = .ok (.goto (-39), 3) := by decide +kernel
theorem dX10_headOf_49 : decode cX10_headOf 49 = .ok (.aload_n 0, 1) := by decide +kernel
theorem dX10_headOf_50 : decode cX10_headOf 50 = .ok (.iload_n 3, 1) := by decide +kernel
theorem dX10_headOf_51 : decode cX10_headOf 51 = .ok (.invokevirtual 389, 3) := by decide +kernel
theorem dX10_headOf_54 : decode cX10_headOf 54 = .ok (.ireturn, 1) := by decide +kernel
theorem dX10_here_0 : decode cX10_here 0 = .ok (.aload_n 0, 1) := by decide +kernel
theorem dX10_here_1 : decode cX10_here 1 = .ok (.getfield 107, 3) := by decide +kernel
theorem dX10_here_4 : decode cX10_here 4 = .ok (.aload_n 0, 1) := by decide +kernel
theorem dX10_here_5 : decode cX10_here 5 = .ok (.getfield 110, 3) := by decide +kernel
theorem dX10_here_8 : decode cX10_here 8 = .ok (.if_icmp .ge 30, 3) := by decide +kernel
theorem dX10_here_11 : decode cX10_here 11 = .ok (.aload_n 0, 1) := by decide +kernel
theorem dX10_here_12 : decode cX10_here 12 = .ok (.getfield 20, 3) := by decide +kernel
theorem dX10_here_15 : decode cX10_here 15 = .ok (.aload_n 0, 1) := by decide +kernel
theorem dX10_here_16 : decode cX10_here 16 = .ok (.getfield 107, 3) := by decide +kernel
theorem dX10_here_19 : decode cX10_here 19 = .ok (.iaload, 1) := by decide +kernel
theorem dX10_here_20 : decode cX10_here 20 = .ok (.bipush 32, 2) := by decide +kernel
theorem dX10_here_22 : decode cX10_here 22 = .ok (.if_icmp .ne 16, 3) := by decide +kernel
theorem dX10_here_25 : decode cX10_here 25 = .ok (.aload_n 0, 1) := by decide +kernel
theorem dX10_here_26 : decode cX10_here 26 = .ok (.dup, 1) := by decide +kernel
theorem dX10_here_27 : decode cX10_here 27 = .ok (.getfield 107, 3) := by decide +kernel
theorem dX10_here_30 : decode cX10_here 30 = .ok (.iconst 1, 1) := by decide +kernel
theorem dX10_here_31 : decode cX10_here 31 = .ok (.iadd, 1) := by decide +kernel
theorem dX10_here_32 : decode cX10_here 32 = .ok (.putfield 107, 3) := by decide +kernel
theorem dX10_here_35 : decode cX10_here 35 = .ok (.goto (-35), 3) := by decide +kernel
theorem dX10_here_38 : decode cX10_here 38 = .ok (.aload_n 0, 1) := by decide +kernel
theorem dX10_here_39 : decode cX10_here 39 = .ok (.getfield 107, 3) := by decide +kernel
theorem dX10_here_42 : decode cX10_here 42 = .ok (.aload_n 0, 1) := by decide +kernel
theorem dX10_here_43 : decode cX10_here 43 = .ok (.getfield 110, 3) := by decide +kernel
theorem dX10_here_46 : decode cX10_here 46 = .ok (.if_icmp .ge 15, 3) := by decide +kernel
theorem dX10_here_49 : decode cX10_here 49 = .ok (.aload_n 0, 1) := by decide +kernel
theorem dX10_here_50 : decode cX10_here 50 = .ok (.getfield 20, 3) := by decide +kernel
theorem dX10_here_53 : decode cX10_here 53 = .ok (.aload_n 0, 1) := by decide +kernel
theorem dX10_here_54 : decode cX10_here 54 = .ok (.getfield 107, 3) := by decide +kernel
theorem dX10_here_57 : decode cX10_here 57 = .ok (.iaload, 1) := by decide +kernel
theorem dX10_here_58 : decode cX10_here 58 = .ok (.goto 4, 3) := by decide +kernel
theorem dX10_here_61 : decode cX10_here 61 = .ok (.iconst 0, 1) := by decide +kernel
theorem dX10_here_62 : decode cX10_here 62 = .ok (.ireturn, 1) := by decide +kernel
theorem dX10_house_0 : decode cX10_house 0 = .ok (.aload_n 0, 1) := by decide +kernel
theorem dX10_house_1 : decode cX10_house 1 = .ok (.iconst 0, 1) := by decide +kernel
theorem dX10_house_2 : decode cX10_house 2 = .ok (.putfield 3, 3) := by decide +kernel
theorem dX10_house_5 : decode cX10_house 5 = .ok (.aload_n 0, 1) := by decide +kernel
theorem dX10_house_6 : decode cX10_house 6 = .ok (.iload_n 1, 1) := by decide +kernel
theorem dX10_house_7 : decode cX10_house 7 = .ok (.ifCond .lt 15, 3) := by decide +kernel
theorem dX10_house_10 : decode cX10_house 10 = .ok (.iload_n 1, 1) := by decide +kernel
theorem dX10_house_11 : decode cX10_house 11 = .ok (.aload_n 0, 1) := by decide +kernel
theorem dX10_house_12 : decode cX10_house 12 = .ok (.getfield 98, 3) := by decide +kernel
theorem dX10_house_15 : decode cX10_house 15 = .ok (.if_icmp .gt 7, 3) := by decide +kernel
theorem dX10_house_18 : decode cX10_house 18 = .ok (.iconst 1, 1) := by decide +kernel
theorem dX10_house_19 : decode cX10_house 19 = .ok (.goto 4, 3) := by decide +kernel
theorem dX10_house_22 : decode cX10_house 22 = .ok (.iconst 0, 1) := by decide +kernel
theorem dX10_house_23 : decode cX10_house 23 = .ok (.iconst 1, 1) := by decide +kernel
theorem dX10_house_24 : decode cX10_house 24 = .ok (.iconst 1, 1) := by decide +kernel
theorem dX10_house_25 : decode cX10_house 25 = .ok (.invokevirtual 203, 3) := by decide +kernel
theorem dX10_house_28 : decode cX10_house 28 = .ok (.ifCond .ne 5, 3) := by decide +kernel
theorem dX10_house_31 : decode cX10_house 31 = .ok (.iconst 0, 1) := by decide +kernel
theorem dX10_house_32 : decode cX10_house 32 = .ok (.ireturn, 1) := by decide +kernel
theorem dX10_house_33 : decode cX10_house 33 = .ok (.aload_n 0, 1) := by decide +kernel
theorem dX10_house_34 : decode cX10_house 34 = .ok (.iload_n 1, 1) := by decide +kernel
theorem dX10_house_35 : decode cX10_house 35 = .ok (.invokevirtual 207, 3) := by decide +kernel
theorem dX10_house_38 : decode cX10_house 38 = .ok (.aload_n 0, 1) := by decide +kernel
theorem dX10_house_39 : decode cX10_house 39 = .ok (.invokevirtual 92, 3) := by decide +kernel
theorem dX10_house_42 : decode cX10_house 42 = .ok (.iconst 0, 1) := by decide +kernel
theorem dX10_house_43 : decode cX10_house 43 = .ok (.istore_n 2, 1) := by decide +kernel
theorem dX10_house_44 : decode cX10_house 44 = .ok (.aload_n 0, 1) := by decide +kernel
theorem dX10_house_45 : decode cX10_house 45 = .ok (.invokevirtual 130, 3) := by decide +kernel
theorem dX10_house_48 : decode cX10_house 48 = .ok (.ifCond .eq 154, 3) := by decide +kernel
theorem dX10_house_51 : decode cX10_house 51 = .ok (.aload_n 0, 1) := by decide +kernel
theorem dX10_house_52 : decode cX10_house 52 = .ok (.invokevirtual 211, 3) := by decide +kernel
theorem dX10_house_55 : decode cX10_house 55 = .ok (.ifCond .eq 147, 3) := by decide +kernel
theorem dX10_house_58 : decode cX10_house 58 = .ok (.aload_n 0, 1) := by decide +kernel
theorem dX10_house_59 : decode cX10_house 59 = .ok (.ldc 214, 2) := by decide +kernel
theorem dX10_house_61 : decode cX10_house 61 = .ok (.invokevirtual 215, 3) := by decide +kernel
theorem dX10_house_64 : decode cX10_house 64 = .ok (.istore_n 3, 1) := by decide +kernel
theorem dX10_house_65 : decode cX10_house 65 = .ok (.aload_n 0, 1) := by decide +kernel
theorem dX10_house_66 : decode cX10_house 66 = .ok (.invokevirtual 219, 3) := by decide +kernel
theorem dX10_house_69 : decode cX10_house 69 = .ok (.istore 4, 2) := by decide +kernel
theorem dX10_house_71 : decode cX10_house 71 = .ok (.iload_n 3, 1) := by decide +kernel
theorem dX10_house_72 : decode cX10_house 72 = .ok (.ifCond .ne 23, 3) := by decide +kernel
theorem dX10_house_75 : decode cX10_house 75 = .ok (.iload 4, 2) := by decide +kernel
theorem dX10_house_77 : decode cX10_house 77 = .ok (.invokestatic 222, 3) := by decide +kernel
theorem dX10_house_80 : decode cX10_house 80 = .ok (.ifCond .ne 15, 3) := by decide +kernel
theorem dX10_house_83 : decode cX10_house 83 = .ok (.aload_n 0, 1) := by decide +kernel
theorem dX10_house_84 : decode cX10_house 84 = .ok (.iconst 1, 1) := by decide +kernel
theorem dX10_house_85 : decode cX10_house 85 = .ok (.aload_n 0, 1) := by decide +kernel
theorem dX10_house_86 : decode cX10_house 86 = .ok (.getfield 107, 3) := by decide +kernel
theorem dX10_house_89 : decode cX10_house 89 = .ok (.invokevirtual 137, 3) := by decide +kernel
theorem dX10_house_92 : decode cX10_house 92 = .ok (.goto 49, 3) := by decide +kernel
theorem dX10_house_95 : decode cX10_house 95 = .ok (.iload_n 2, 1) := by decide +kernel
theorem dX10_house_96 : decode cX10_house 96 = .ok (.bipush 60, 2) := by decide +kernel
theorem dX10_house_98 : decode cX10_house 98 = .ok (.if_icmp .eq 34, 3) := by decide +kernel
theorem dX10_house_101 : decode cX10_house 101 = .ok (.iload_n 3, 1) := by decide +kernel
theorem dX10_house_102 : decode cX10_house 102 = .ok (.ifCond .eq 11, 3) := by decide +kernel
theorem dX10_house_105 : decode cX10_house 105 = .ok (.aload_n 0, 1) := by decide +kernel
theorem dX10_house_106 : decode cX10_house 106 = .ok (.getfield 144, 3) := by decide +kernel
theorem dX10_house_109 : decode cX10_house 109 = .ok (.iconst 5, 1) := by decide +kernel
theorem dX10_house_110 : decode cX10_house 110 = .ok (.if_icmp .eq 22, 3) := by decide +kernel
theorem dX10_house_113 : decode cX10_house 113 = .ok (.iload 4, 2) := by decide +kernel
theorem dX10_house_115 : decode cX10_house 115 = .ok (.ldc 202, 2) := by decide +kernel
theorem dX10_house_117 : decode cX10_house 117 = .ok (.invokestatic 187, 3) := by decide +kernel
theorem dX10_house_120 : decode cX10_house 120 = .ok (.if_icmp .ne 21, 3) := by decide +kernel
theorem dX10_house_123 : decode cX10_house 123 = .ok (.aload_n 0, 1) := by decide +kernel
theorem dX10_house_124 : decode cX10_house 124 = .ok (.getfield 147, 3) := by decide +kernel
theorem dX10_house_127 : decode cX10_house 127 = .ok (.bipush 6, 2) := by decide +kernel
theorem dX10_house_129 : decode cX10_house 129 = .ok (.if_icmp .ne 12, 3) := by decide +kernel
theorem dX10_house_132 : decode cX10_house 132 = .ok (.aload_n 0, 1) := by decide +kernel
theorem dX10_house_133 : decode cX10_house 133 = .ok (.iconst 3, 1) := by decide +kernel
theorem dX10_house_134 : decode cX10_house 134 = .ok (.aload_n 0, 1) := by decide +kernel
theorem dX10_house_135 : decode cX10_house 135 = .ok (.getfield 107, 3) := by decide +kernel
theorem dX10_house_138 : decode cX10_house 138 = .ok (.invokevirtual 137, 3) := by decide +kernel
theorem dX10_house_141 : decode cX10_house 141 = .ok (.aload_n 0, 1) := by decide +kernel
theorem dX10_house_142 : decode cX10_house 142 = .ok (.invokevirtual 130, 3) := by decide +kernel
theorem dX10_house_145 : decode cX10_house 145 = .ok (.ifCond .ne 6, 3) := by decide +kernel
theorem dX10_house_148 : decode cX10_house 148 = .ok (.goto 54, 3) := by decide +kernel
theorem dX10_house_151 : decode cX10_house 151 = .ok (.iload_n 3, 1) := by decide +kernel
theorem dX10_house_152 : decode cX10_house 152 = .ok (.ifCond .eq 17, 3) := by decide +kernel
theorem dX10_house_155 : decode cX10_house 155 = .ok (.aload_n 0, 1) := by decide +kernel
theorem dX10_house_156 : decode cX10_house 156 = .ok (.dup, 1) := by decide +kernel
theorem dX10_house_157 : decode cX10_house 157 = .ok (.getfield 107, 3) := by decide +kernel
theorem dX10_house_160 : decode cX10_house 160 = .ok (.bipush 7, 2) := by decide +kernel
theorem dX10_house_162 : decode cX10_house 162 = .ok (.iadd, 1) := by decide +kernel
theorem dX10_house_163 : decode cX10_house 163 = .ok (.putfield 107, 3) := by decide +kernel
theorem dX10_house_166 : decode cX10_house 166 = .ok (.goto 7, 3) := by decide +kernel
theorem dX10_house_169 : decode cX10_house 169 = .ok (.aload_n 0, 1) := by decide +kernel
theorem dX10_house_170 : decode cX10_house 170 = .ok (.invokevirtual 225, 3) := by decide +kernel
theorem dX10_house_173 : decode cX10_house 173 = .ok (.iload_n 3, 1) := by decide +kernel
theorem dX10_house_174 : decode cX10_house 174 = .ok (.ifCond .eq 10, 3) := by decide +kernel
theorem dX10_house_177 : decode cX10_house 177 = .ok (.aload_n 0, 1) := by decide +kernel
theorem dX10_house_178 : decode cX10_house 178 = .ok (.invokevirtual 228, 3) := by decide +kernel
theorem dX10_house_181 : decode cX10_house 181 = .ok (.goto 9, 3) := by decide +kernel
theorem dX10_house_184 : decode cX10_house 184 = .ok (.aload_n 0, 1) := by decide +kernel
theorem dX10_house_185 : decode cX10_house 185 = .ok (.iload 4, 2) := by decide +kernel
theorem dX10_house_187 : decode cX10_house 187 = .ok (.invokevirtual 231, 3) := by decide +kernel
theorem dX10_house_190 : decode cX10_house 190 = .ok (.aload_n 0, 1) := by decide +kernel
theorem dX10_house_191 : decode cX10_house 191 = .ok (.bipush 59, 2) := by decide +kernel
theorem dX10_house_193 : decode cX10_house 193 = .ok (.invokevirtual 234, 3) := by decide +kernel
theorem dX10_house_196 : decode cX10_house 196 = .ok (.iinc 2 1, 3) := by decide +kernel
theorem dX10_house_199 : decode cX10_house 199 = .ok (.goto (-155), 3) := by decide +kernel
theorem dX10_house_202 : decode cX10_house 202 = .ok (.aload_n 0, 1) := by decide +kernel
theorem dX10_house_203 : decode cX10_house 203 = .ok (.aload_n 0, 1) := by decide +kernel
theorem dX10_house_204 : decode cX10_house 204 = .ok (.getfield 144, 3) := by decide +kernel
theorem dX10_house_207 : decode cX10_house 207 = .ok (.invokevirtual 237, 3) := by decide +kernel
theorem dX10_house_210 : decode cX10_house 210 = .ok (.istore_n 3, 1) := by decide +kernel
theorem dX10_house_211 : decode cX10_house 211 = .ok (.aload_n 0, 1) := by decide +kernel
theorem dX10_house_212 : decode cX10_house 212 = .ok (.getfield 101, 3) := by decide +kernel
theorem dX10_house_215 : decode cX10_house 215 = .ok (.iconst (-1), 1) := by decide +kernel
theorem dX10_house_216 : decode cX10_house 216 = .ok (.if_icmp .ne 7, 3) := by decide +kernel
theorem dX10_house_219 : decode cX10_house 219 = .ok (.aload_n 0, 1) := by decide +kernel
theorem dX10_house_220 : decode cX10_house 220 = .ok (.invokevirtual 95, 3) := by decide +kernel
theorem dX10_house_223 : decode cX10_house 223 = .ok (.iload_n 3, 1) := by decide +kernel
theorem dX10_house_224 : decode cX10_house 224 = .ok (.ireturn, 1) := by decide +kernel
theorem dX10_hurry_0 : decode cX10_hurry 0 = .ok (.aload_n 0, 1) := by decide +kernel
theorem dX10_hurry_1 : decode cX10_hurry 1 = .ok (.iconst 0, 1) := by decide +kernel
theorem dX10_hurry_2 : decode cX10_hurry 2 = .ok (.putfield 3, 3) := by decide +kernel
theorem dX10_hurry_5 : decode cX10_hurry 5 = .ok (.aload_n 0, 1) := by decide +kernel
theorem dX10_hurry_6 : decode cX10_hurry 6 = .ok (.iload_n 1, 1) := by decide +kernel
theorem dX10_hurry_7 : decode cX10_hurry 7 = .ok (.iconst 1, 1) := by decide +kernel
theorem dX10_hurry_8 : decode cX10_hurry 8 = .ok (.invokevirtual 383, 3) := by decide +kernel
theorem dX10_hurry_11 : decode cX10_hurry 11 = .ok (.ifCond .eq 59, 3) := by decide +kernel
theorem dX10_hurry_14 : decode cX10_hurry 14 = .ok (.aload_n 0, 1) := by decide +kernel
theorem dX10_hurry_15 : decode cX10_hurry 15 = .ok (.iload_n 2, 1) := by decide +kernel
theorem dX10_hurry_16 : decode cX10_hurry 16 = .ok (.iconst 1, 1) := by decide +kernel
theorem dX10_hurry_17 : decode cX10_hurry 17 = .ok (.invokevirtual 383, 3) := by decide +kernel
theorem dX10_hurry_20 : decode cX10_hurry 20 = .ok (.ifCond .eq 50, 3) := by decide +kernel
theorem dX10_hurry_23 : decode cX10_hurry 23 = .ok (.aload_n 0, 1) := by decide +kernel
theorem dX10_hurry_24 : decode cX10_hurry 24 = .ok (.iload_n 1, 1) := by decide +kernel
theorem dX10_hurry_25 : decode cX10_hurry 25 = .ok (.iload_n 2, 1) := by decide +kernel
theorem dX10_hurry_26 : decode cX10_hurry 26 = .ok (.if_icmp .eq 35, 3) := by decide +kernel
theorem dX10_hurry_29 : decode cX10_hurry 29 = .ok (.iload_n 3, 1) := by decide +kernel
theorem dX10_hurry_30 : decode cX10_hurry 30 = .ok (.iconst 0, 1) := by decide +kernel
theorem dX10_hurry_31 : decode cX10_hurry 31 = .ok (.bipush 8, 2) := by decide +kernel
theorem dX10_hurry_33 : decode cX10_hurry 33 = .ok (.invokestatic 282, 3) := by decide +kernel
theorem dX10_hurry_36 : decode cX10_hurry 36 = .ok (.ifCond .eq 25, 3) := by decide +kernel
theorem dX10_hurry_39 : decode cX10_hurry 39 = .ok (.iload 4, 2) := by decide +kernel
theorem dX10_hurry_41 : decode cX10_hurry 41 = .ok (.invokestatic 401, 3) := by decide +kernel
theorem dX10_hurry_44 : decode cX10_hurry 44 = .ok (.ifCond .eq 17, 3) := by decide +kernel
theorem dX10_hurry_47 : decode cX10_hurry 47 = .ok (.iload 5, 2) := by decide +kernel
theorem dX10_hurry_49 : decode cX10_hurry 49 = .ok (.iconst 0, 1) := by decide +kernel
theorem dX10_hurry_50 : decode cX10_hurry 50 = .ok (.iconst 2, 1) := by decide +kernel
theorem dX10_hurry_51 : decode cX10_hurry 51 = .ok (.invokestatic 282, 3) := by decide +kernel
theorem dX10_hurry_54 : decode cX10_hurry 54 = .ok (.ifCond .eq 7, 3) := by decide +kernel
theorem dX10_hurry_57 : decode cX10_hurry 57 = .ok (.iconst 1, 1) := by decide +kernel
theorem dX10_hurry_58 : decode cX10_hurry 58 = .ok (.goto 4, 3) := by decide +kernel
theorem dX10_hurry_61 : decode cX10_hurry 61 = .ok (.iconst 0, 1) := by decide +kernel
theorem dX10_hurry_62 : decode cX10_hurry 62 = .ok (.iconst 2, 1) := by decide +kernel
theorem dX10_hurry_63 : decode cX10_hurry 63 = .ok (.iconst 1, 1) := by decide +kernel
theorem dX10_hurry_64 : decode cX10_hurry 64 = .ok (.invokevirtual 203, 3) := by decide +kernel
theorem dX10_hurry_67 : decode cX10_hurry 67 = .ok (.ifCond .ne 5, 3) := by decide +kernel
theorem dX10_hurry_70 : decode cX10_hurry 70 = .ok (.iconst 0, 1) := by decide +kernel
theorem dX10_hurry_71 : decode cX10_hurry 71 = .ok (.ireturn, 1) := by decide +kernel
theorem dX10_hurry_72 : decode cX10_hurry 72 = .ok (.iconst 0, 1) := by decide +kernel
theorem dX10_hurry_73 : decode cX10_hurry 73 = .ok (.istore 6, 2) := by decide +kernel
theorem dX10_hurry_75 : decode cX10_hurry 75 = .ok (.iload 6, 2) := by decide +kernel
theorem dX10_hurry_77 : decode cX10_hurry 77 = .ok (.iload_n 3, 1) := by decide +kernel
theorem dX10_hurry_78 : decode cX10_hurry 78 = .ok (.if_icmp .gt 106, 3) := by decide +kernel
theorem dX10_hurry_81 : decode cX10_hurry 81 = .ok (.iconst 0, 1) := by decide +kernel
theorem dX10_hurry_82 : decode cX10_hurry 82 = .ok (.istore 7, 2) := by decide +kernel
theorem dX10_hurry_84 : decode cX10_hurry 84 = .ok (.iload 7, 2) := by decide +kernel
theorem dX10_hurry_86 : decode cX10_hurry 86 = .ok (.iload_n 3, 1) := by decide +kernel
theorem dX10_hurry_87 : decode cX10_hurry 87 = .ok (.if_icmp .gt 91, 3) := by decide +kernel
theorem dX10_hurry_90 : decode cX10_hurry 90 = .ok (.aload_n 0, 1) := by decide +kernel
theorem dX10_hurry_91 : decode cX10_hurry 91 = .ok (.iload_n 1, 1) := by decide +kernel
theorem dX10_hurry_92 : decode cX10_hurry 92 = .ok (.iload_n 2, 1) := by decide +kernel
theorem dX10_hurry_93 : decode cX10_hurry 93 = .ok (.iload 6, 2) := by decide +kernel
theorem dX10_hurry_95 : decode cX10_hurry 95 = .ok (.iload 7, 2) := by decide +kernel
theorem dX10_hurry_97 : decode cX10_hurry 97 = .ok (.iload 4, 2) := by decide +kernel
theorem dX10_hurry_99 : decode cX10_hurry 99 = .ok (.invokevirtual 404, 3) := by decide +kernel
theorem dX10_hurry_102 : decode cX10_hurry 102 = .ok (.aload_n 0, 1) := by decide +kernel
theorem dX10_hurry_103 : decode cX10_hurry 103 = .ok (.getfield 83, 3) := by decide +kernel
theorem dX10_hurry_106 : decode cX10_hurry 106 = .ok (.iconst 2, 1) := by decide +kernel
theorem dX10_hurry_107 : decode cX10_hurry 107 = .ok (.bipush 9, 2) := by decide +kernel
theorem dX10_hurry_109 : decode cX10_hurry 109 = .ok (.iload 6, 2) := by decide +kernel
theorem dX10_hurry_111 : decode cX10_hurry 111 = .ok (.imul, 1) := by decide +kernel
theorem dX10_hurry_112 : decode cX10_hurry 112 = .ok (.iload 7, 2) := by decide +kernel
theorem dX10_hurry_114 : decode cX10_hurry 114 = .ok (.iadd, 1) := by decide +kernel
theorem dX10_hurry_115 : decode cX10_hurry 115 = .ok (.imul, 1) := by decide +kernel
theorem dX10_hurry_116 : decode cX10_hurry 116 = .ok (.aload_n 0, 1) := by decide +kernel
theorem dX10_hurry_117 : decode cX10_hurry 117 = .ok (.getfield 65, 3) := by decide +kernel
theorem dX10_hurry_120 : decode cX10_hurry 120 = .ok (.bipush 30, 2) := by decide +kernel
theorem dX10_hurry_122 : decode cX10_hurry 122 = .ok (.iload_n 1, 1) := by decide +kernel
theorem dX10_hurry_123 : decode cX10_hurry 123 = .ok (.iadd, 1) := by decide +kernel
theorem dX10_hurry_124 : decode cX10_hurry 124 = .ok (.iaload, 1) := by decide +kernel
theorem dX10_hurry_125 : decode cX10_hurry 125 = .ok (.aload_n 0, 1) := by decide +kernel
theorem dX10_hurry_126 : decode cX10_hurry 126 = .ok (.getfield 62, 3) := by decide +kernel
theorem dX10_hurry_129 : decode cX10_hurry 129 = .ok (.bipush 30, 2) := by decide +kernel
theorem dX10_hurry_131 : decode cX10_hurry 131 = .ok (.iload_n 1, 1) := by decide +kernel
theorem dX10_hurry_132 : decode cX10_hurry 132 = .ok (.iadd, 1) := by decide +kernel
theorem dX10_hurry_133 : decode cX10_hurry 133 = .ok (.iaload, 1) := by decide +kernel
theorem dX10_hurry_134 : decode cX10_hurry 134 = .ok (.isub, 1) := by decide +kernel
theorem dX10_hurry_135 : decode cX10_hurry 135 = .ok (.iastore, 1) := by decide +kernel
theorem dX10_hurry_136 : decode cX10_hurry 136 = .ok (.aload_n 0, 1) := by decide +kernel
theorem dX10_hurry_137 : decode cX10_hurry 137 = .ok (.getfield 83, 3) := by decide +kernel
theorem dX10_hurry_140 : decode cX10_hurry 140 = .ok (.iconst 2, 1) := by decide +kernel
theorem dX10_hurry_141 : decode cX10_hurry 141 = .ok (.bipush 9, 2) := by decide +kernel
theorem dX10_hurry_143 : decode cX10_hurry 143 = .ok (.iload 6, 2) := by decide +kernel
theorem dX10_hurry_145 : decode cX10_hurry 145 = .ok (.imul, 1) := by decide +kernel
theorem dX10_hurry_146 : decode cX10_hurry 146 = .ok (.iload 7, 2) := by decide +kernel
theorem dX10_hurry_148 : decode cX10_hurry 148 = .ok (.iadd, 1) := by decide +kernel
theorem dX10_hurry_149 : decode cX10_hurry 149 = .ok (.imul, 1) := by decide +kernel
theorem dX10_hurry_150 : decode cX10_hurry 150 = .ok (.iconst 1, 1) := by decide +kernel
theorem dX10_hurry_151 : decode cX10_hurry 151 = .ok (.iadd, 1) := by decide +kernel
theorem dX10_hurry_152 : decode cX10_hurry 152 = .ok (.aload_n 0, 1) := by decide +kernel
theorem dX10_hurry_153 : decode cX10_hurry 153 = .ok (.getfield 65, 3) := by decide +kernel
theorem dX10_hurry_156 : decode cX10_hurry 156 = .ok (.bipush 30, 2) := by decide +kernel
theorem dX10_hurry_158 : decode cX10_hurry 158 = .ok (.iload_n 2, 1) := by decide +kernel
theorem dX10_hurry_159 : decode cX10_hurry 159 = .ok (.iadd, 1) := by decide +kernel
theorem dX10_hurry_160 : decode cX10_hurry 160 = .ok (.iaload, 1) := by decide +kernel
theorem dX10_hurry_161 : decode cX10_hurry 161 = .ok (.aload_n 0, 1) := by decide +kernel
theorem dX10_hurry_162 : decode cX10_hurry 162 = .ok (.getfield 62, 3) := by decide +kernel
theorem dX10_hurry_165 : decode cX10_hurry 165 = .ok (.bipush 30, 2) := by decide +kernel
theorem dX10_hurry_167 : decode cX10_hurry 167 = .ok (.iload_n 2, 1) := by decide +kernel
theorem dX10_hurry_168 : decode cX10_hurry 168 = .ok (.iadd, 1) := by decide +kernel
theorem dX10_hurry_169 : decode cX10_hurry 169 = .ok (.iaload, 1) := by decide +kernel
theorem dX10_hurry_170 : decode cX10_hurry 170 = .ok (.isub, 1) := by decide +kernel
theorem dX10_hurry_171 : decode cX10_hurry 171 = .ok (.iastore, 1) := by decide +kernel
theorem dX10_hurry_172 : decode cX10_hurry 172 = .ok (.iinc 7 1, 3) := by decide +kernel
theorem dX10_hurry_175 : decode cX10_hurry 175 = .ok (.goto (-91), 3) := by decide +kernel
theorem dX10_hurry_178 : decode cX10_hurry 178 = .ok (.iinc 6 1, 3) := by decide +kernel
theorem dX10_hurry_181 : decode cX10_hurry 181 = .ok (.goto (-106), 3) := by decide +kernel
theorem dX10_hurry_184 : decode cX10_hurry 184 = .ok (.iconst 0, 1) := by decide +kernel
theorem dX10_hurry_185 : decode cX10_hurry 185 = .ok (.istore 6, 2) := by decide +kernel
theorem dX10_hurry_187 : decode cX10_hurry 187 = .ok (.iconst (-1), 1) := by decide +kernel
theorem dX10_hurry_188 : decode cX10_hurry 188 = .ok (.istore 7, 2) := by decide +kernel
theorem dX10_hurry_190 : decode cX10_hurry 190 = .ok (.iconst 0, 1) := by decide +kernel
theorem dX10_hurry_191 : decode cX10_hurry 191 = .ok (.istore 8, 2) := by decide +kernel
theorem dX10_hurry_193 : decode cX10_hurry 193 = .ok (.iload 8, 2) := by decide +kernel
theorem dX10_hurry_195 : decode cX10_hurry 195 = .ok (.iload_n 3, 1) := by decide +kernel
theorem dX10_hurry_196 : decode cX10_hurry 196 = .ok (.if_icmp .gt 63, 3) := by decide +kernel
theorem dX10_hurry_199 : decode cX10_hurry 199 = .ok (.iconst 0, 1) := by decide +kernel
theorem dX10_hurry_200 : decode cX10_hurry 200 = .ok (.istore 9, 2) := by decide +kernel
theorem dX10_hurry_202 : decode cX10_hurry 202 = .ok (.iload 9, 2) := by decide +kernel
theorem dX10_hurry_204 : decode cX10_hurry 204 = .ok (.iload_n 3, 1) := by decide +kernel
theorem dX10_hurry_205 : decode cX10_hurry 205 = .ok (.if_icmp .gt 48, 3) := by decide +kernel
theorem dX10_hurry_208 : decode cX10_hurry 208 = .ok (.aload_n 0, 1) := by decide +kernel
theorem dX10_hurry_209 : decode cX10_hurry 209 = .ok (.iload 8, 2) := by decide +kernel
theorem dX10_hurry_211 : decode cX10_hurry 211 = .ok (.iload 9, 2) := by decide +kernel
theorem dX10_hurry_213 : decode cX10_hurry 213 = .ok (.iload_n 3, 1) := by decide +kernel
theorem dX10_hurry_214 : decode cX10_hurry 214 = .ok (.invokevirtual 408, 3) := by decide +kernel
theorem dX10_hurry_217 : decode cX10_hurry 217 = .ok (.ifCond .ne 6, 3) := by decide +kernel
theorem dX10_hurry_220 : decode cX10_hurry 220 = .ok (.goto 27, 3) := by decide +kernel
theorem dX10_hurry_223 : decode cX10_hurry 223 = .ok (.iinc 6 1, 3) := by decide +kernel
theorem dX10_hurry_226 : decode cX10_hurry 226 = .ok (.iload 7, 2) := by decide +kernel
theorem dX10_hurry_228 : decode cX10_hurry 228 = .ok (.iconst (-1), 1) := by decide +kernel
theorem dX10_hurry_229 : decode cX10_hurry 229 = .ok (.if_icmp .ne 14, 3) := by decide +kernel
theorem dX10_hurry_232 : decode cX10_hurry 232 = .ok (.bipush 100, 2) := by decide +kernel
theorem dX10_hurry_234 : decode cX10_hurry 234 = .ok (.iload 8, 2) := by decide +kernel
theorem dX10_hurry_236 : decode cX10_hurry 236 = .ok (.imul, 1) := by decide +kernel
theorem dX10_hurry_237 : decode cX10_hurry 237 = .ok (.iload 9, 2) := by decide +kernel
theorem dX10_hurry_239 : decode cX10_hurry 239 = .ok (.iadd, 1) := by decide +kernel
theorem dX10_hurry_240 : decode cX10_hurry 240 = .ok (.goto 5, 3) := by decide +kernel
theorem dX10_hurry_243 : decode cX10_hurry 243 = .ok (.iload 7, 2) := by decide +kernel
theorem dX10_hurry_245 : decode cX10_hurry 245 = .ok (.istore 7, 2) := by decide +kernel
theorem dX10_hurry_247 : decode cX10_hurry 247 = .ok (.iinc 9 1, 3) := by decide +kernel
theorem dX10_hurry_250 : decode cX10_hurry 250 = .ok (.goto (-48), 3) := by decide +kernel
theorem dX10_hurry_253 : decode cX10_hurry 253 = .ok (.iinc 8 1, 3) := by decide +kernel
theorem dX10_hurry_256 : decode cX10_hurry 256 = .ok (.goto (-63), 3) := by decide +kernel
theorem dX10_hurry_259 : decode cX10_hurry 259 = .ok (.iload 5, 2) := by decide +kernel
theorem dX10_hurry_261 : decode cX10_hurry 261 = .ok (.ifCond .ne 8, 3) := by decide +kernel
theorem dX10_hurry_264 : decode cX10_hurry 264 = .ok (.iload 6, 2) := by decide +kernel
theorem dX10_hurry_266 : decode cX10_hurry 266 = .ok (.goto 55, 3) := by decide +kernel
theorem dX10_hurry_269 : decode cX10_hurry 269 = .ok (.iload 5, 2) := by decide +kernel
theorem dX10_hurry_271 : decode cX10_hurry 271 = .ok (.iconst 1, 1) := by decide +kernel
theorem dX10_hurry_272 : decode cX10_hurry 272 = .ok (.if_icmp .ne 8, 3) := by decide +kernel
theorem dX10_hurry_275 : decode cX10_hurry 275 = .ok (.iload 7, 2) := by decide +kernel
theorem dX10_hurry_277 : decode cX10_hurry 277 = .ok (.goto 44, 3) := by decide +kernel
theorem dX10_hurry_280 : decode cX10_hurry 280 = .ok (.iload 7, 2) := by decide +kernel
theorem dX10_hurry_282 : decode cX10_hurry 282 = .ok (.iconst (-1), 1) := by decide +kernel
theorem dX10_hurry_283 : decode cX10_hurry 283 = .ok (.if_icmp .ne 7, 3) := by decide +kernel
theorem dX10_hurry_286 : decode cX10_hurry 286 = .ok (.iconst 0, 1) := by decide +kernel
theorem dX10_hurry_287 : decode cX10_hurry 287 = .ok (.goto 34, 3) := by decide +kernel
theorem dX10_hurry_290 : decode cX10_hurry 290 = .ok (.aload_n 0, 1) := by decide +kernel
theorem dX10_hurry_291 : decode cX10_hurry 291 = .ok (.iconst 0, 1) := by decide +kernel
theorem dX10_hurry_292 : decode cX10_hurry 292 = .ok (.iload 7, 2) := by decide +kernel
theorem dX10_hurry_294 : decode cX10_hurry 294 = .ok (.bipush 100, 2) := by decide +kernel
theorem dX10_hurry_296 : decode cX10_hurry 296 = .ok (.idiv, 1) := by decide +kernel
theorem dX10_hurry_297 : decode cX10_hurry 297 = .ok (.iload 7, 2) := by decide +kernel
theorem dX10_hurry_299 : decode cX10_hurry 299 = .ok (.bipush 100, 2) := by decide +kernel
theorem dX10_hurry_301 : decode cX10_hurry 301 = .ok (.irem, 1) := by decide +kernel
theorem dX10_hurry_302 : decode cX10_hurry 302 = .ok (.invokevirtual 398, 3) := by decide +kernel
theorem dX10_hurry_305 : decode cX10_hurry 305 = .ok (.aload_n 0, 1) := by decide +kernel
theorem dX10_hurry_306 : decode cX10_hurry 306 = .ok (.iconst 1, 1) := by decide +kernel
theorem dX10_hurry_307 : decode cX10_hurry 307 = .ok (.iload 7, 2) := by decide +kernel
theorem dX10_hurry_309 : decode cX10_hurry 309 = .ok (.bipush 100, 2) := by decide +kernel
theorem dX10_hurry_311 : decode cX10_hurry 311 = .ok (.idiv, 1) := by decide +kernel
theorem dX10_hurry_312 : decode cX10_hurry 312 = .ok (.iload 7, 2) := by decide +kernel
theorem dX10_hurry_314 : decode cX10_hurry 314 = .ok (.bipush 100, 2) := by decide +kernel
theorem dX10_hurry_316 : decode cX10_hurry 316 = .ok (.irem, 1) := by decide +kernel
theorem dX10_hurry_317 : decode cX10_hurry 317 = .ok (.invokevirtual 398, 3) := by decide +kernel
theorem dX10_hurry_320 : decode cX10_hurry 320 = .ok (.iadd, 1) := by decide +kernel
theorem dX10_hurry_321 : decode cX10_hurry 321 = .ok (.ireturn, 1) := by decide +kernel
theorem dX10_image_0 : decode cX10_image 0 = .ok (.aload_n 0, 1) := by decide +kernel
theorem dX10_image_1 : decode cX10_image 1 = .ok (.iconst 0, 1) := by decide +kernel
theorem dX10_image_2 : decode cX10_image 2 = .ok (.putfield 3, 3) := by decide +kernel
theorem dX10_image_5 : decode cX10_image 5 = .ok (.aload_n 0, 1) := by decide +kernel
theorem dX10_image_6 : decode cX10_image 6 = .ok (.getfield 175, 3) := by decide +kernel
theorem dX10_image_9 : decode cX10_image 9 = .ok (.iconst 3, 1) := by decide +kernel
theorem dX10_image_10 : decode cX10_image 10 = .ok (.if_icmp .ne 5, 3) := by decide +kernel
theorem dX10_image_13 : decode cX10_image 13 = .ok (.iconst (-1), 1) := by decide +kernel
theorem dX10_image_14 : decode cX10_image 14 = .ok (.ireturn, 1) := by decide +kernel
theorem dX10_image_15 : decode cX10_image 15 = .ok (.aload_n 0, 1) := by decide +kernel
theorem dX10_image_16 : decode cX10_image 16 = .ok (.aload_n 0, 1) := by decide +kernel
theorem dX10_image_17 : decode cX10_image 17 = .ok (.getfield 175, 3) := by decide +kernel
theorem dX10_image_20 : decode cX10_image 20 = .ok (.iconst 1, 1) := by decide +kernel
theorem dX10_image_21 : decode cX10_image 21 = .ok (.invokevirtual 469, 3) := by decide +kernel
theorem dX10_image_24 : decode cX10_image 24 = .ok (.aload_n 0, 1) := by decide +kernel
theorem dX10_image_25 : decode cX10_image 25 = .ok (.dup, 1) := by decide +kernel
theorem dX10_image_26 : decode cX10_image 26 = .ok (.getfield 175, 3) := by decide +kernel
theorem dX10_image_29 : decode cX10_image 29 = .ok (.iconst 1, 1) := by decide +kernel
theorem dX10_image_30 : decode cX10_image 30 = .ok (.iadd, 1) := by decide +kernel
theorem dX10_image_31 : decode cX10_image 31 = .ok (.putfield 175, 3) := by decide +kernel
theorem dX10_image_34 : decode cX10_image 34 = .ok (.aload_n 0, 1) := by decide +kernel
theorem dX10_image_35 : decode cX10_image 35 = .ok (.getfield 175, 3) := by decide +kernel
theorem dX10_image_38 : decode cX10_image 38 = .ok (.ireturn, 1) := by decide +kernel
theorem dX10_inTurns_0 : decode cX10_inTurns 0 = .ok (.aload_n 0, 1) := by decide +kernel
theorem dX10_inTurns_1 : decode cX10_inTurns 1 = .ok (.iconst 0, 1) := by decide +kernel
theorem dX10_inTurns_2 : decode cX10_inTurns 2 = .ok (.putfield 3, 3) := by decide +kernel
theorem dX10_inTurns_5 : decode cX10_inTurns 5 = .ok (.aload_n 0, 1) := by decide +kernel
theorem dX10_inTurns_6 : decode cX10_inTurns 6 = .ok (.iload_n 1, 1) := by decide +kernel
theorem dX10_inTurns_7 : decode cX10_inTurns 7 = .ok (.ifCond .le 35, 3) := by decide +kernel
theorem dX10_inTurns_10 : decode cX10_inTurns 10 = .ok (.iload_n 1, 1) := by decide +kernel
theorem dX10_inTurns_11 : decode cX10_inTurns 11 = .ok (.iconst 1, 1) := by decide +kernel
theorem dX10_inTurns_12 : decode cX10_inTurns 12 = .ok (.aload_n 0, 1) := by decide +kernel
theorem dX10_inTurns_13 : decode cX10_inTurns 13 = .ok (.getfield 156, 3) := by decide +kernel
theorem dX10_inTurns_16 : decode cX10_inTurns 16 = .ok (.ishl, 1) := by decide +kernel
theorem dX10_inTurns_17 : decode cX10_inTurns 17 = .ok (.if_icmp .ge 25, 3) := by decide +kernel
theorem dX10_inTurns_20 : decode cX10_inTurns 20 = .ok (.iload_n 1, 1) := by decide +kernel
theorem dX10_inTurns_21 : decode cX10_inTurns 21 = .ok (.iload_n 1, 1) := by decide +kernel
theorem dX10_inTurns_22 : decode cX10_inTurns 22 = .ok (.iconst 1, 1) := by decide +kernel
theorem dX10_inTurns_23 : decode cX10_inTurns 23 = .ok (.isub, 1) := by decide +kernel
theorem dX10_inTurns_24 : decode cX10_inTurns 24 = .ok (.iand, 1) := by decide +kernel
theorem dX10_inTurns_25 : decode cX10_inTurns 25 = .ok (.ifCond .eq 17, 3) := by decide +kernel
theorem dX10_inTurns_28 : decode cX10_inTurns 28 = .ok (.iload_n 2, 1) := by decide +kernel
theorem dX10_inTurns_29 : decode cX10_inTurns 29 = .ok (.iconst 0, 1) := by decide +kernel
theorem dX10_inTurns_30 : decode cX10_inTurns 30 = .ok (.bipush 12, 2) := by decide +kernel
theorem dX10_inTurns_32 : decode cX10_inTurns 32 = .ok (.invokestatic 282, 3) := by decide +kernel
theorem dX10_inTurns_35 : decode cX10_inTurns 35 = .ok (.ifCond .eq 7, 3) := by decide +kernel
theorem dX10_inTurns_38 : decode cX10_inTurns 38 = .ok (.iconst 1, 1) := by decide +kernel
theorem dX10_inTurns_39 : decode cX10_inTurns 39 = .ok (.goto 4, 3) := by decide +kernel
theorem dX10_inTurns_42 : decode cX10_inTurns 42 = .ok (.iconst 0, 1) := by decide +kernel
theorem dX10_inTurns_43 : decode cX10_inTurns 43 = .ok (.iconst 1, 1) := by decide +kernel
theorem dX10_inTurns_44 : decode cX10_inTurns 44 = .ok (.iconst 1, 1) := by decide +kernel
theorem dX10_inTurns_45 : decode cX10_inTurns 45 = .ok (.invokevirtual 203, 3) := by decide +kernel
theorem dX10_inTurns_48 : decode cX10_inTurns 48 = .ok (.ifCond .ne 5, 3) := by decide +kernel
theorem dX10_inTurns_51 : decode cX10_inTurns 51 = .ok (.iconst 0, 1) := by decide +kernel
theorem dX10_inTurns_52 : decode cX10_inTurns 52 = .ok (.ireturn, 1) := by decide +kernel
theorem dX10_inTurns_53 : decode cX10_inTurns 53 = .ok (.aload_n 0, 1) := by decide +kernel
theorem dX10_inTurns_54 : decode cX10_inTurns 54 = .ok (.iconst 0, 1) := by decide +kernel
theorem dX10_inTurns_55 : decode cX10_inTurns 55 = .ok (.putfield 411, 3) := by decide +kernel
theorem dX10_inTurns_58 : decode cX10_inTurns 58 = .ok (.aload_n 0, 1) := by decide +kernel
theorem dX10_inTurns_59 : decode cX10_inTurns 59 = .ok (.iconst 0, 1) := by decide +kernel
theorem dX10_inTurns_60 : decode cX10_inTurns 60 = .ok (.iload_n 1, 1) := by decide +kernel
theorem dX10_inTurns_61 : decode cX10_inTurns 61 = .ok (.iload_n 2, 1) := by decide +kernel
theorem dX10_inTurns_62 : decode cX10_inTurns 62 = .ok (.iload_n 2, 1) := by decide +kernel
theorem dX10_inTurns_63 : decode cX10_inTurns 63 = .ok (.ldc_w 419, 3) := by decide +kernel
theorem dX10_inTurns_66 : decode cX10_inTurns 66 = .ok (.invokevirtual 414, 3) := by decide +kernel
theorem dX10_inTurns_69 : decode cX10_inTurns 69 = .ok (.aload_n 0, 1) := by decide +kernel
theorem dX10_inTurns_70 : decode cX10_inTurns 70 = .ok (.getfield 411, 3) := by decide +kernel
theorem dX10_inTurns_73 : decode cX10_inTurns 73 = .ok (.ireturn, 1) := by decide +kernel
theorem dX10_init_0 : decode cX10_init 0 = .ok (.aload_n 0, 1) := by decide +kernel
theorem dX10_init_1 : decode cX10_init 1 = .ok (.invokespecial 11, 3) := by decide +kernel
theorem dX10_init_4 : decode cX10_init 4 = .ok (.aload_n 0, 1) := by decide +kernel
theorem dX10_init_5 : decode cX10_init 5 = .ok (.iconst 2, 1) := by decide +kernel
theorem dX10_init_6 : decode cX10_init 6 = .ok (.newarray .int, 2) := by decide +kernel
theorem dX10_init_8 : decode cX10_init 8 = .ok (.putfield 7, 3) := by decide +kernel
theorem dX10_init_11 : decode cX10_init 11 = .ok (.aload_n 0, 1) := by decide +kernel
theorem dX10_init_12 : decode cX10_init 12 = .ok (.iconst (-1), 1) := by decide +kernel
theorem dX10_init_13 : decode cX10_init 13 = .ok (.putfield 17, 3) := by decide +kernel
theorem dX10_init_16 : decode cX10_init 16 = .ok (.aload_n 0, 1) := by decide +kernel
theorem dX10_init_17 : decode cX10_init 17 = .ok (.sipush 600, 3) := by decide +kernel
theorem dX10_init_20 : decode cX10_init 20 = .ok (.newarray .int, 2) := by decide +kernel
theorem dX10_init_22 : decode cX10_init 22 = .ok (.putfield 20, 3) := by decide +kernel
theorem dX10_init_25 : decode cX10_init 25 = .ok (.aload_n 0, 1) := by decide +kernel
theorem dX10_init_26 : decode cX10_init 26 = .ok (.bipush 40, 2) := by decide +kernel
theorem dX10_init_28 : decode cX10_init 28 = .ok (.newarray .int, 2) := by decide +kernel
theorem dX10_init_30 : decode cX10_init 30 = .ok (.putfield 23, 3) := by decide +kernel
theorem dX10_init_33 : decode cX10_init 33 = .ok (.aload_n 0, 1) := by decide +kernel
theorem dX10_init_34 : decode cX10_init 34 = .ok (.bipush 60, 2) := by decide +kernel
theorem dX10_init_36 : decode cX10_init 36 = .ok (.newarray .int, 2) := by decide +kernel
theorem dX10_init_38 : decode cX10_init 38 = .ok (.putfield 26, 3) := by decide +kernel
theorem dX10_init_41 : decode cX10_init 41 = .ok (.aload_n 0, 1) := by decide +kernel
theorem dX10_init_42 : decode cX10_init 42 = .ok (.bipush 40, 2) := by decide +kernel
theorem dX10_init_44 : decode cX10_init 44 = .ok (.newarray .int, 2) := by decide +kernel
theorem dX10_init_46 : decode cX10_init 46 = .ok (.putfield 29, 3) := by decide +kernel
theorem dX10_init_49 : decode cX10_init 49 = .ok (.aload_n 0, 1) := by decide +kernel
theorem dX10_init_50 : decode cX10_init 50 = .ok (.bipush 60, 2) := by decide +kernel
theorem dX10_init_52 : decode cX10_init 52 = .ok (.newarray .int, 2) := by decide +kernel
theorem dX10_init_54 : decode cX10_init 54 = .ok (.putfield 32, 3) := by decide +kernel
theorem dX10_init_57 : decode cX10_init 57 = .ok (.aload_n 0, 1) := by decide +kernel
theorem dX10_init_58 : decode cX10_init 58 = .ok (.sipush 150, 3) := by decide +kernel
theorem dX10_init_61 : decode cX10_init 61 = .ok (.newarray .int, 2) := by decide +kernel
theorem dX10_init_63 : decode cX10_init 63 = .ok (.putfield 35, 3) := by decide +kernel
theorem dX10_init_66 : decode cX10_init 66 = .ok (.aload_n 0, 1) := by decide +kernel
theorem dX10_init_67 : decode cX10_init 67 = .ok (.sipush 150, 3) := by decide +kernel
theorem dX10_init_70 : decode cX10_init 70 = .ok (.newarray .int, 2) := by decide +kernel
theorem dX10_init_72 : decode cX10_init 72 = .ok (.putfield 38, 3) := by decide +kernel
theorem dX10_init_75 : decode cX10_init 75 = .ok (.aload_n 0, 1) := by decide +kernel
theorem dX10_init_76 : decode cX10_init 76 = .ok (.sipush 300, 3) := by decide +kernel
theorem dX10_init_79 : decode cX10_init 79 = .ok (.newarray .int, 2) := by decide +kernel
theorem dX10_init_81 : decode cX10_init 81 = .ok (.putfield 41, 3) := by decide +kernel
theorem dX10_init_84 : decode cX10_init 84 = .ok (.aload_n 0, 1) := by decide +kernel
theorem dX10_init_85 : decode cX10_init 85 = .ok (.sipush 300, 3) := by decide +kernel
theorem dX10_init_88 : decode cX10_init 88 = .ok (.newarray .int, 2) := by decide +kernel
theorem dX10_init_90 : decode cX10_init 90 = .ok (.putfield 44, 3) := by decide +kernel
theorem dX10_init_93 : decode cX10_init 93 = .ok (.aload_n 0, 1) := by decide +kernel
theorem dX10_init_94 : decode cX10_init 94 = .ok (.iconst 2, 1) := by decide +kernel
theorem dX10_init_95 : decode cX10_init 95 = .ok (.newarray .int, 2) := by decide +kernel
theorem dX10_init_97 : decode cX10_init 97 = .ok (.putfield 47, 3) := by decide +kernel
theorem dX10_init_100 : decode cX10_init 100 = .ok (.aload_n 0, 1) := by decide +kernel
theorem dX10_init_101 : decode cX10_init 101 = .ok (.sipush 150, 3) := by decide +kernel
theorem dX10_init_104 : decode cX10_init 104 = .ok (.newarray .int, 2) := by decide +kernel
theorem dX10_init_106 : decode cX10_init 106 = .ok (.putfield 50, 3) := by decide +kernel
theorem dX10_init_109 : decode cX10_init 109 = .ok (.aload_n 0, 1) := by decide +kernel
theorem dX10_init_110 : decode cX10_init 110 = .ok (.bipush 9, 2) := by decide +kernel
theorem dX10_init_112 : decode cX10_init 112 = .ok (.newarray .int, 2) := by decide +kernel
theorem dX10_init_114 : decode cX10_init 114 = .ok (.putfield 53, 3) := by decide +kernel
theorem dX10_init_117 : decode cX10_init 117 = .ok (.aload_n 0, 1) := by decide +kernel
theorem dX10_init_118 : decode cX10_init 118 = .ok (.sipush 150, 3) := by decide +kernel
theorem dX10_init_121 : decode cX10_init 121 = .ok (.newarray .int, 2) := by decide +kernel
theorem dX10_init_123 : decode cX10_init 123 = .ok (.putfield 56, 3) := by decide +kernel
theorem dX10_init_126 : decode cX10_init 126 = .ok (.aload_n 0, 1) := by decide +kernel
theorem dX10_init_127 : decode cX10_init 127 = .ok (.sipush 150, 3) := by decide +kernel
theorem dX10_init_130 : decode cX10_init 130 = .ok (.newarray .int, 2) := by decide +kernel
theorem dX10_init_132 : decode cX10_init 132 = .ok (.putfield 59, 3) := by decide +kernel
theorem dX10_init_135 : decode cX10_init 135 = .ok (.aload_n 0, 1) := by decide +kernel
theorem dX10_init_136 : decode cX10_init 136 = .ok (.bipush 42, 2) := by decide +kernel
theorem dX10_init_138 : decode cX10_init 138 = .ok (.newarray .int, 2) := by decide +kernel
theorem dX10_init_140 : decode cX10_init 140 = .ok (.putfield 62, 3) := by decide +kernel
theorem dX10_init_143 : decode cX10_init 143 = .ok (.aload_n 0, 1) := by decide +kernel
theorem dX10_init_144 : decode cX10_init 144 = .ok (.bipush 42, 2) := by decide +kernel
theorem dX10_init_146 : decode cX10_init 146 = .ok (.newarray .int, 2) := by decide +kernel
theorem dX10_init_148 : decode cX10_init 148 = .ok (.putfield 65, 3) := by decide +kernel
theorem dX10_init_151 : decode cX10_init 151 = .ok (.aload_n 0, 1) := by decide +kernel
theorem dX10_init_152 : decode cX10_init 152 = .ok (.sipush 672, 3) := by decide +kernel
theorem dX10_init_155 : decode cX10_init 155 = .ok (.newarray .int, 2) := by decide +kernel
theorem dX10_init_157 : decode cX10_init 157 = .ok (.putfield 68, 3) := by decide +kernel
theorem dX10_init_160 : decode cX10_init 160 = .ok (.aload_n 0, 1) := by decide +kernel
theorem dX10_init_161 : decode cX10_init 161 = .ok (.iconst 5, 1) := by decide +kernel
theorem dX10_init_162 : decode cX10_init 162 = .ok (.newarray .int, 2) := by decide +kernel
theorem dX10_init_164 : decode cX10_init 164 = .ok (.putfield 71, 3) := by decide +kernel
theorem dX10_init_167 : decode cX10_init 167 = .ok (.aload_n 0, 1) := by decide +kernel
theorem dX10_init_168 : decode cX10_init 168 = .ok (.iconst 5, 1) := by decide +kernel
theorem dX10_init_169 : decode cX10_init 169 = .ok (.newarray .int, 2) := by decide +kernel
theorem dX10_init_171 : decode cX10_init 171 = .ok (.putfield 74, 3) := by decide +kernel
theorem dX10_init_174 : decode cX10_init 174 = .ok (.aload_n 0, 1) := by decide +kernel
theorem dX10_init_175 : decode cX10_init 175 = .ok (.bipush 16, 2) := by decide +kernel
theorem dX10_init_177 : decode cX10_init 177 = .ok (.newarray .int, 2) := by decide +kernel
theorem dX10_init_179 : decode cX10_init 179 = .ok (.putfield 77, 3) := by decide +kernel
theorem dX10_init_182 : decode cX10_init 182 = .ok (.aload_n 0, 1) := by decide +kernel
theorem dX10_init_183 : decode cX10_init 183 = .ok (.bipush 16, 2) := by decide +kernel
theorem dX10_init_185 : decode cX10_init 185 = .ok (.newarray .int, 2) := by decide +kernel
theorem dX10_init_187 : decode cX10_init 187 = .ok (.putfield 80, 3) := by decide +kernel
theorem dX10_init_190 : decode cX10_init 190 = .ok (.aload_n 0, 1) := by decide +kernel
theorem dX10_init_191 : decode cX10_init 191 = .ok (.sipush 162, 3) := by decide +kernel
theorem dX10_init_194 : decode cX10_init 194 = .ok (.newarray .int, 2) := by decide +kernel
theorem dX10_init_196 : decode cX10_init 196 = .ok (.putfield 83, 3) := by decide +kernel
theorem dX10_init_199 : decode cX10_init 199 = .ok (.aload_n 0, 1) := by decide +kernel
theorem dX10_init_200 : decode cX10_init 200 = .ok (.bipush 41, 2) := by decide +kernel
theorem dX10_init_202 : decode cX10_init 202 = .ok (.newarray .int, 2) := by decide +kernel
theorem dX10_init_204 : decode cX10_init 204 = .ok (.putfield 86, 3) := by decide +kernel
theorem dX10_init_207 : decode cX10_init 207 = .ok (.aload_n 0, 1) := by decide +kernel
theorem dX10_init_208 : decode cX10_init 208 = .ok (.sipush 2145, 3) := by decide +kernel
theorem dX10_init_211 : decode cX10_init 211 = .ok (.newarray .int, 2) := by decide +kernel
theorem dX10_init_213 : decode cX10_init 213 = .ok (.putfield 89, 3) := by decide +kernel
theorem dX10_init_216 : decode cX10_init 216 = .ok (.aload_n 0, 1) := by decide +kernel
theorem dX10_init_217 : decode cX10_init 217 = .ok (.invokevirtual 92, 3) := by decide +kernel
theorem dX10_init_220 : decode cX10_init 220 = .ok (.aload_n 0, 1) := by decide +kernel
theorem dX10_init_221 : decode cX10_init 221 = .ok (.invokevirtual 95, 3) := by decide +kernel
theorem dX10_init_224 : decode cX10_init 224 = .ok (.return_, 1) := by decide +kernel
theorem dX10_isAsleep_0 : decode cX10_isAsleep 0 = .ok (.aload_n 0, 1) := by decide +kernel
theorem dX10_isAsleep_1 : decode cX10_isAsleep 1 = .ok (.getfield 65, 3) := by decide +kernel
theorem dX10_isAsleep_4 : decode cX10_isAsleep 4 = .ok (.bipush 15, 2) := by decide +kernel
theorem dX10_isAsleep_6 : decode cX10_isAsleep 6 = .ok (.iload_n 1, 1) := by decide +kernel
theorem dX10_isAsleep_7 : decode cX10_isAsleep 7 = .ok (.iadd, 1) := by decide +kernel
theorem dX10_isAsleep_8 : decode cX10_isAsleep 8 = .ok (.iaload, 1) := by decide +kernel
theorem dX10_isAsleep_9 : decode cX10_isAsleep 9 = .ok (.ifCond .le 7, 3) := by decide +kernel
theorem dX10_isAsleep_12 : decode cX10_isAsleep 12 = .ok (.iconst 1, 1) := by decide +kernel
theorem dX10_isAsleep_13 : decode cX10_isAsleep 13 = .ok (.goto 4, 3) := by decide +kernel
theorem dX10_isAsleep_16 : decode cX10_isAsleep 16 = .ok (.iconst 0, 1) := by decide +kernel
theorem dX10_isAsleep_17 : decode cX10_isAsleep 17 = .ok (.ireturn, 1) := by decide +kernel
theorem dX10_isChanging_0 : decode cX10_isChanging 0 = .ok (.aload_n 0, 1) := by decide +kernel
theorem dX10_isChanging_1 : decode cX10_isChanging 1 = .ok (.iload_n 1, 1) := by decide +kernel
theorem dX10_isChanging_2 : decode cX10_isChanging 2 = .ok (.invokevirtual 343, 3) := by decide +kernel
theorem dX10_isChanging_5 : decode cX10_isChanging 5 = .ok (.ifCond .eq 34, 3) := by decide +kernel
theorem dX10_isChanging_8 : decode cX10_isChanging 8 = .ok (.iload_n 2, 1) := by decide +kernel
theorem dX10_isChanging_9 : decode cX10_isChanging 9 = .ok (.aload_n 0, 1) := by decide +kernel
theorem dX10_isChanging_10 : decode cX10_isChanging 10 = .ok (.getfield 29, 3) := by decide +kernel
theorem dX10_isChanging_13 : decode cX10_isChanging 13 = .ok (.bipush 8, 2) := by decide +kernel
theorem dX10_isChanging_15 : decode cX10_isChanging 15 = .ok (.iload_n 1, 1) := by decide +kernel
theorem dX10_isChanging_16 : decode cX10_isChanging 16 = .ok (.imul, 1) := by decide +kernel
theorem dX10_isChanging_17 : decode cX10_isChanging 17 = .ok (.iconst 1, 1) := by decide +kernel
theorem dX10_isChanging_18 : decode cX10_isChanging 18 = .ok (.iadd, 1) := by decide +kernel
theorem dX10_isChanging_19 : decode cX10_isChanging 19 = .ok (.iaload, 1) := by decide +kernel
theorem dX10_isChanging_20 : decode cX10_isChanging 20 = .ok (.aload_n 0, 1) := by decide +kernel
theorem dX10_isChanging_21 : decode cX10_isChanging 21 = .ok (.getfield 65, 3) := by decide +kernel
theorem dX10_isChanging_24 : decode cX10_isChanging 24 = .ok (.bipush 15, 2) := by decide +kernel
theorem dX10_isChanging_26 : decode cX10_isChanging 26 = .ok (.iload_n 1, 1) := by decide +kernel
theorem dX10_isChanging_27 : decode cX10_isChanging 27 = .ok (.iadd, 1) := by decide +kernel
theorem dX10_isChanging_28 : decode cX10_isChanging 28 = .ok (.iaload, 1) := by decide +kernel
theorem dX10_isChanging_29 : decode cX10_isChanging 29 = .ok (.iadd, 1) := by decide +kernel
theorem dX10_isChanging_30 : decode cX10_isChanging 30 = .ok (.if_icmp .le 7, 3) := by decide +kernel
theorem dX10_isChanging_33 : decode cX10_isChanging 33 = .ok (.iconst 1, 1) := by decide +kernel
theorem dX10_isChanging_34 : decode cX10_isChanging 34 = .ok (.goto 4, 3) := by decide +kernel
theorem dX10_isChanging_37 : decode cX10_isChanging 37 = .ok (.iconst 0, 1) := by decide +kernel
theorem dX10_isChanging_38 : decode cX10_isChanging 38 = .ok (.ireturn, 1) := by decide +kernel
theorem dX10_isChanging_39 : decode cX10_isChanging 39 = .ok (.aload_n 0, 1) := by decide +kernel
theorem dX10_isChanging_40 : decode cX10_isChanging 40 = .ok (.getfield 74, 3) := by decide +kernel
theorem dX10_isChanging_43 : decode cX10_isChanging 43 = .ok (.iload_n 1, 1) := by decide +kernel
theorem dX10_isChanging_44 : decode cX10_isChanging 44 = .ok (.iaload, 1) := by decide +kernel
theorem dX10_isChanging_45 : decode cX10_isChanging 45 = .ok (.ifCond .le 5, 3) := by decide +kernel
theorem dX10_isChanging_48 : decode cX10_isChanging 48 = .ok (.iconst 0, 1) := by decide +kernel
theorem dX10_isChanging_49 : decode cX10_isChanging 49 = .ok (.ireturn, 1) := by decide +kernel
theorem dX10_isChanging_50 : decode cX10_isChanging 50 = .ok (.aload_n 0, 1) := by decide +kernel
theorem dX10_isChanging_51 : decode cX10_isChanging 51 = .ok (.iload_n 1, 1) := by decide +kernel
theorem dX10_isChanging_52 : decode cX10_isChanging 52 = .ok (.iconst 0, 1) := by decide +kernel
theorem dX10_isChanging_53 : decode cX10_isChanging 53 = .ok (.iload_n 2, 1) := by decide +kernel
theorem dX10_isChanging_54 : decode cX10_isChanging 54 = .ok (.invokevirtual 337, 3) := by decide +kernel
theorem dX10_isChanging_57 : decode cX10_isChanging 57 = .ok (.aload_n 0, 1) := by decide +kernel
theorem dX10_isChanging_58 : decode cX10_isChanging 58 = .ok (.getfield 53, 3) := by decide +kernel
theorem dX10_isChanging_61 : decode cX10_isChanging 61 = .ok (.bipush 8, 2) := by decide +kernel
theorem dX10_isChanging_63 : decode cX10_isChanging 63 = .ok (.aload_n 0, 1) := by decide +kernel
theorem dX10_isChanging_64 : decode cX10_isChanging 64 = .ok (.getfield 65, 3) := by decide +kernel
theorem dX10_isChanging_67 : decode cX10_isChanging 67 = .ok (.bipush 35, 2) := by decide +kernel
theorem dX10_isChanging_69 : decode cX10_isChanging 69 = .ok (.iload_n 1, 1) := by decide +kernel
theorem dX10_isChanging_70 : decode cX10_isChanging 70 = .ok (.iadd, 1) := by decide +kernel
theorem dX10_isChanging_71 : decode cX10_isChanging 71 = .ok (.iaload, 1) := by decide +kernel
theorem dX10_isChanging_72 : decode cX10_isChanging 72 = .ok (.iastore, 1) := by decide +kernel
theorem dX10_isChanging_73 : decode cX10_isChanging 73 = .ok (.aload_n 0, 1) := by decide +kernel
theorem dX10_isChanging_74 : decode cX10_isChanging 74 = .ok (.invokevirtual 352, 3) := by decide +kernel
theorem dX10_isChanging_77 : decode cX10_isChanging 77 = .ok (.ireturn, 1) := by decide +kernel
theorem dX10_isDigit_0 : decode cX10_isDigit 0 = .ok (.iload_n 0, 1) := by decide +kernel
theorem dX10_isDigit_1 : decode cX10_isDigit 1 = .ok (.bipush 48, 2) := by decide +kernel
theorem dX10_isDigit_3 : decode cX10_isDigit 3 = .ok (.if_icmp .lt 13, 3) := by decide +kernel
theorem dX10_isDigit_6 : decode cX10_isDigit 6 = .ok (.iload_n 0, 1) := by decide +kernel
theorem dX10_isDigit_7 : decode cX10_isDigit 7 = .ok (.bipush 57, 2) := by decide +kernel
theorem dX10_isDigit_9 : decode cX10_isDigit 9 = .ok (.if_icmp .gt 7, 3) := by decide +kernel
theorem dX10_isDigit_12 : decode cX10_isDigit 12 = .ok (.iconst 1, 1) := by decide +kernel
theorem dX10_isDigit_13 : decode cX10_isDigit 13 = .ok (.goto 4, 3) := by decide +kernel
theorem dX10_isDigit_16 : decode cX10_isDigit 16 = .ok (.iconst 0, 1) := by decide +kernel
theorem dX10_isDigit_17 : decode cX10_isDigit 17 = .ok (.ireturn, 1) := by decide +kernel
theorem dX10_isFalling_0 : decode cX10_isFalling 0 = .ok (.aload_n 0, 1) := by decide +kernel
theorem dX10_isFalling_1 : decode cX10_isFalling 1 = .ok (.getfield 47, 3) := by decide +kernel
theorem dX10_isFalling_4 : decode cX10_isFalling 4 = .ok (.iconst 1, 1) := by decide +kernel
theorem dX10_isFalling_5 : decode cX10_isFalling 5 = .ok (.iaload, 1) := by decide +kernel
theorem dX10_isFalling_6 : decode cX10_isFalling 6 = .ok (.ifCond .ne 21, 3) := by decide +kernel
theorem dX10_isFalling_9 : decode cX10_isFalling 9 = .ok (.aload_n 0, 1) := by decide +kernel
theorem dX10_isFalling_10 : decode cX10_isFalling 10 = .ok (.getfield 53, 3) := by decide +kernel
theorem dX10_isFalling_13 : decode cX10_isFalling 13 = .ok (.iconst 4, 1) := by decide +kernel
theorem dX10_isFalling_14 : decode cX10_isFalling 14 = .ok (.iaload, 1) := by decide +kernel
theorem dX10_isFalling_15 : decode cX10_isFalling 15 = .ok (.iconst 4, 1) := by decide +kernel
theorem dX10_isFalling_16 : decode cX10_isFalling 16 = .ok (.idiv, 1) := by decide +kernel
theorem dX10_isFalling_17 : decode cX10_isFalling 17 = .ok (.aload_n 0, 1) := by decide +kernel
theorem dX10_isFalling_18 : decode cX10_isFalling 18 = .ok (.getfield 53, 3) := by decide +kernel
theorem dX10_isFalling_21 : decode cX10_isFalling 21 = .ok (.iconst 5, 1) := by decide +kernel
theorem dX10_isFalling_22 : decode cX10_isFalling 22 = .ok (.iaload, 1) := by decide +kernel
theorem dX10_isFalling_23 : decode cX10_isFalling 23 = .ok (.isub, 1) := by decide +kernel
theorem dX10_isFalling_24 : decode cX10_isFalling 24 = .ok (.goto 8, 3) := by decide +kernel
theorem dX10_isFalling_27 : decode cX10_isFalling 27 = .ok (.aload_n 0, 1) := by decide +kernel
theorem dX10_isFalling_28 : decode cX10_isFalling 28 = .ok (.iconst 1, 1) := by decide +kernel
theorem dX10_isFalling_29 : decode cX10_isFalling 29 = .ok (.invokevirtual 290, 3) := by decide +kernel
theorem dX10_isFalling_32 : decode cX10_isFalling 32 = .ok (.ifCond .le 7, 3) := by decide +kernel
theorem dX10_isFalling_35 : decode cX10_isFalling 35 = .ok (.iconst 1, 1) := by decide +kernel
theorem dX10_isFalling_36 : decode cX10_isFalling 36 = .ok (.goto 4, 3) := by decide +kernel
theorem dX10_isFalling_39 : decode cX10_isFalling 39 = .ok (.iconst 0, 1) := by decide +kernel
theorem dX10_isFalling_40 : decode cX10_isFalling 40 = .ok (.ireturn, 1) := by decide +kernel
theorem dX10_isFew_0 : decode cX10_isFew 0 = .ok (.iload_n 0, 1) := by decide +kernel
theorem dX10_isFew_1 : decode cX10_isFew 1 = .ok (.ifCond .lt 13, 3) := by decide +kernel
theorem dX10_isFew_4 : decode cX10_isFew 4 = .ok (.iload_n 0, 1) := by decide +kernel
theorem dX10_isFew_5 : decode cX10_isFew 5 = .ok (.bipush 120, 2) := by decide +kernel
theorem dX10_isFew_7 : decode cX10_isFew 7 = .ok (.if_icmp .gt 7, 3) := by decide +kernel
theorem dX10_isFew_10 : decode cX10_isFew 10 = .ok (.iconst 1, 1) := by decide +kernel
theorem dX10_isFew_11 : decode cX10_isFew 11 = .ok (.goto 4, 3) := by decide +kernel
theorem dX10_isFew_14 : decode cX10_isFew 14 = .ok (.iconst 0, 1) := by decide +kernel
theorem dX10_isFew_15 : decode cX10_isFew 15 = .ok (.ireturn, 1) := by decide +kernel
theorem dX10_isMany_0 : decode cX10_isMany 0 = .ok (.iload_n 0, 1) := by decide +kernel
theorem dX10_isMany_1 : decode cX10_isMany 1 = .ok (.ifCond .lt 14, 3) := by decide +kernel
theorem dX10_isMany_4 : decode cX10_isMany 4 = .ok (.iload_n 0, 1) := by decide +kernel
theorem dX10_isMany_5 : decode cX10_isMany 5 = .ok (.sipush 240, 3) := by decide +kernel
theorem dX10_isMany_8 : decode cX10_isMany 8 = .ok (.if_icmp .gt 7, 3) := by decide +kernel
theorem dX10_isMany_11 : decode cX10_isMany 11 = .ok (.iconst 1, 1) := by decide +kernel
theorem dX10_isMany_12 : decode cX10_isMany 12 = .ok (.goto 4, 3) := by decide +kernel
theorem dX10_isMany_15 : decode cX10_isMany 15 = .ok (.iconst 0, 1) := by decide +kernel
theorem dX10_isMany_16 : decode cX10_isMany 16 = .ok (.ireturn, 1) := by decide +kernel
theorem dX10_isMore_0 : decode cX10_isMore 0 = .ok (.aload_n 0, 1) := by decide +kernel
theorem dX10_isMore_1 : decode cX10_isMore 1 = .ok (.invokevirtual 113, 3) := by decide +kernel
theorem dX10_isMore_4 : decode cX10_isMore 4 = .ok (.pop, 1) := by decide +kernel
theorem dX10_isMore_5 : decode cX10_isMore 5 = .ok (.aload_n 0, 1) := by decide +kernel
theorem dX10_isMore_6 : decode cX10_isMore 6 = .ok (.getfield 107, 3) := by decide +kernel
theorem dX10_isMore_9 : decode cX10_isMore 9 = .ok (.aload_n 0, 1) := by decide +kernel
theorem dX10_isMore_10 : decode cX10_isMore 10 = .ok (.getfield 110, 3) := by decide +kernel
theorem dX10_isMore_13 : decode cX10_isMore 13 = .ok (.if_icmp .ge 7, 3) := by decide +kernel
theorem dX10_isMore_16 : decode cX10_isMore 16 = .ok (.iconst 1, 1) := by decide +kernel
theorem dX10_isMore_17 : decode cX10_isMore 17 = .ok (.goto 4, 3) := by decide +kernel
theorem dX10_isMore_20 : decode cX10_isMore 20 = .ok (.iconst 0, 1) := by decide +kernel
theorem dX10_isMore_21 : decode cX10_isMore 21 = .ok (.ireturn, 1) := by decide +kernel
theorem dX10_isNight_0 : decode cX10_isNight 0 = .ok (.iload_n 0, 1) := by decide +kernel
theorem dX10_isNight_1 : decode cX10_isNight 1 = .ok (.ifCond .lt 35, 3) := by decide +kernel
theorem dX10_isNight_4 : decode cX10_isNight 4 = .ok (.iload_n 0, 1) := by decide +kernel
theorem dX10_isNight_5 : decode cX10_isNight 5 = .ok (.bipush 16, 2) := by decide +kernel
theorem dX10_isNight_7 : decode cX10_isNight 7 = .ok (.if_icmp .gt 29, 3) := by decide +kernel
theorem dX10_isNight_10 : decode cX10_isNight 10 = .ok (.iload_n 1, 1) := by decide +kernel
theorem dX10_isNight_11 : decode cX10_isNight 11 = .ok (.ifCond .lt 25, 3) := by decide +kernel
theorem dX10_isNight_14 : decode cX10_isNight 14 = .ok (.iload_n 1, 1) := by decide +kernel
theorem dX10_isNight_15 : decode cX10_isNight 15 = .ok (.bipush 40, 2) := by decide +kernel
theorem dX10_isNight_17 : decode cX10_isNight 17 = .ok (.if_icmp .gt 19, 3) := by decide +kernel
theorem dX10_isNight_20 : decode cX10_isNight 20 = .ok (.iload_n 2, 1) := by decide +kernel
theorem dX10_isNight_21 : decode cX10_isNight 21 = .ok (.iconst 1, 1) := by decide +kernel
theorem dX10_isNight_22 : decode cX10_isNight 22 = .ok (.if_icmp .lt 14, 3) := by decide +kernel
theorem dX10_isNight_25 : decode cX10_isNight 25 = .ok (.iload_n 2, 1) := by decide +kernel
theorem dX10_isNight_26 : decode cX10_isNight 26 = .ok (.sipush 240, 3) := by decide +kernel
theorem dX10_isNight_29 : decode cX10_isNight 29 = .ok (.if_icmp .gt 7, 3) := by decide +kernel
theorem dX10_isNight_32 : decode cX10_isNight 32 = .ok (.iconst 1, 1) := by decide +kernel
theorem dX10_isNight_33 : decode cX10_isNight 33 = .ok (.goto 4, 3) := by decide +kernel
theorem dX10_isNight_36 : decode cX10_isNight 36 = .ok (.iconst 0, 1) := by decide +kernel
theorem dX10_isNight_37 : decode cX10_isNight 37 = .ok (.ireturn, 1) := by decide +kernel
theorem dX10_isRest_0 : decode cX10_isRest 0 = .ok (.iconst 0, 1) := by decide +kernel
theorem dX10_isRest_1 : decode cX10_isRest 1 = .ok (.istore 4, 2) := by decide +kernel
theorem dX10_isRest_3 : decode cX10_isRest 3 = .ok (.iload 4, 2) := by decide +kernel
theorem dX10_isRest_5 : decode cX10_isRest 5 = .ok (.iload_n 3, 1) := by decide +kernel
theorem dX10_isRest_6 : decode cX10_isRest 6 = .ok (.if_icmp .gt 47, 3) := by decide +kernel
theorem dX10_isRest_9 : decode cX10_isRest 9 = .ok (.aload_n 0, 1) := by decide +kernel
theorem dX10_isRest_10 : decode cX10_isRest 10 = .ok (.iconst 0, 1) := by decide +kernel
theorem dX10_isRest_11 : decode cX10_isRest 11 = .ok (.iload 4, 2) := by decide +kernel
theorem dX10_isRest_13 : decode cX10_isRest 13 = .ok (.iload_n 2, 1) := by decide +kernel
theorem dX10_isRest_14 : decode cX10_isRest 14 = .ok (.invokevirtual 398, 3) := by decide +kernel
theorem dX10_isRest_17 : decode cX10_isRest 17 = .ok (.aload_n 0, 1) := by decide +kernel
theorem dX10_isRest_18 : decode cX10_isRest 18 = .ok (.iconst 0, 1) := by decide +kernel
theorem dX10_isRest_19 : decode cX10_isRest 19 = .ok (.iload_n 1, 1) := by decide +kernel
theorem dX10_isRest_20 : decode cX10_isRest 20 = .ok (.iload_n 2, 1) := by decide +kernel
theorem dX10_isRest_21 : decode cX10_isRest 21 = .ok (.invokevirtual 398, 3) := by decide +kernel
theorem dX10_isRest_24 : decode cX10_isRest 24 = .ok (.if_icmp .gt 21, 3) := by decide +kernel
theorem dX10_isRest_27 : decode cX10_isRest 27 = .ok (.aload_n 0, 1) := by decide +kernel
theorem dX10_isRest_28 : decode cX10_isRest 28 = .ok (.iconst 1, 1) := by decide +kernel
theorem dX10_isRest_29 : decode cX10_isRest 29 = .ok (.iload_n 1, 1) := by decide +kernel
theorem dX10_isRest_30 : decode cX10_isRest 30 = .ok (.iload 4, 2) := by decide +kernel
theorem dX10_isRest_32 : decode cX10_isRest 32 = .ok (.invokevirtual 398, 3) := by decide +kernel
theorem dX10_isRest_35 : decode cX10_isRest 35 = .ok (.aload_n 0, 1) := by decide +kernel
theorem dX10_isRest_36 : decode cX10_isRest 36 = .ok (.iconst 1, 1) := by decide +kernel
theorem dX10_isRest_37 : decode cX10_isRest 37 = .ok (.iload_n 1, 1) := by decide +kernel
theorem dX10_isRest_38 : decode cX10_isRest 38 = .ok (.iload_n 2, 1) := by decide +kernel
theorem dX10_isRest_39 : decode cX10_isRest 39 = .ok (.invokevirtual 398, 3) := by decide +kernel
theorem dX10_isRest_42 : decode cX10_isRest 42 = .ok (.if_icmp .le 5, 3) := by decide +kernel
theorem dX10_isRest_45 : decode cX10_isRest 45 = .ok (.iconst 0, 1) := by decide +kernel
theorem dX10_isRest_46 : decode cX10_isRest 46 = .ok (.ireturn, 1) := by decide +kernel
theorem dX10_isRest_47 : decode cX10_isRest 47 = .ok (.iinc 4 1, 3) := by decide +kernel
theorem dX10_isRest_50 : decode cX10_isRest 50 = .ok (.goto (-47), 3) := by decide +kernel
theorem dX10_isRest_53 : decode cX10_isRest 53 = .ok (.iconst 1, 1) := by decide +kernel
theorem dX10_isRest_54 : decode cX10_isRest 54 = .ok (.ireturn, 1) := by decide +kernel
theorem dX10_isRow_0 : decode cX10_isRow 0 = .ok (.iload_n 0, 1) := by decide +kernel
theorem dX10_isRow_1 : decode cX10_isRow 1 = .ok (.ldc 185, 2) := by decide +kernel
theorem dX10_isRow_3 : decode cX10_isRow 3 = .ok (.invokestatic 187, 3) := by decide +kernel
theorem dX10_isRow_6 : decode cX10_isRow 6 = .ok (.if_icmp .eq 57, 3) := by decide +kernel
theorem dX10_isRow_9 : decode cX10_isRow 9 = .ok (.iload_n 0, 1) := by decide +kernel
theorem dX10_isRow_10 : decode cX10_isRow 10 = .ok (.ldc 194, 2) := by decide +kernel
theorem dX10_isRow_12 : decode cX10_isRow 12 = .ok (.invokestatic 187, 3) := by decide +kernel
theorem dX10_isRow_15 : decode cX10_isRow 15 = .ok (.if_icmp .eq 48, 3) := by decide +kernel
theorem dX10_isRow_18 : decode cX10_isRow 18 = .ok (.iload_n 0, 1) := by decide +kernel
theorem dX10_isRow_19 : decode cX10_isRow 19 = .ok (.ldc 196, 2) := by decide +kernel
theorem dX10_isRow_21 : decode cX10_isRow 21 = .ok (.invokestatic 187, 3) := by decide +kernel
theorem dX10_isRow_24 : decode cX10_isRow 24 = .ok (.if_icmp .eq 39, 3) := by decide +kernel
theorem dX10_isRow_27 : decode cX10_isRow 27 = .ok (.iload_n 0, 1) := by decide +kernel
theorem dX10_isRow_28 : decode cX10_isRow 28 = .ok (.ldc 198, 2) := by decide +kernel
theorem dX10_isRow_30 : decode cX10_isRow 30 = .ok (.invokestatic 187, 3) := by decide +kernel
theorem dX10_isRow_33 : decode cX10_isRow 33 = .ok (.if_icmp .eq 30, 3) := by decide +kernel
theorem dX10_isRow_36 : decode cX10_isRow 36 = .ok (.iload_n 0, 1) := by decide +kernel
theorem dX10_isRow_37 : decode cX10_isRow 37 = .ok (.ldc 200, 2) := by decide +kernel
theorem dX10_isRow_39 : decode cX10_isRow 39 = .ok (.invokestatic 187, 3) := by decide +kernel
theorem dX10_isRow_42 : decode cX10_isRow 42 = .ok (.if_icmp .eq 21, 3) := by decide +kernel
theorem dX10_isRow_45 : decode cX10_isRow 45 = .ok (.iload_n 0, 1) := by decide +kernel
theorem dX10_isRow_46 : decode cX10_isRow 46 = .ok (.ldc 201, 2) := by decide +kernel
theorem dX10_isRow_48 : decode cX10_isRow 48 = .ok (.invokestatic 187, 3) := by decide +kernel
theorem dX10_isRow_51 : decode cX10_isRow 51 = .ok (.if_icmp .eq 12, 3) := by decide +kernel
theorem dX10_isRow_54 : decode cX10_isRow 54 = .ok (.iload_n 0, 1) := by decide +kernel
theorem dX10_isRow_55 : decode cX10_isRow 55 = .ok (.ldc 202, 2) := by decide +kernel
theorem dX10_isRow_57 : decode cX10_isRow 57 = .ok (.invokestatic 187, 3) := by decide +kernel
theorem dX10_isRow_60 : decode cX10_isRow 60 = .ok (.if_icmp .ne 7, 3) := by decide +kernel
theorem dX10_isRow_63 : decode cX10_isRow 63 = .ok (.iconst 1, 1) := by decide +kernel
theorem dX10_isRow_64 : decode cX10_isRow 64 = .ok (.goto 4, 3) := by decide +kernel
theorem dX10_isRow_67 : decode cX10_isRow 67 = .ok (.iconst 0, 1) := by decide +kernel
theorem dX10_isRow_68 : decode cX10_isRow 68 = .ok (.ireturn, 1) := by decide +kernel
theorem dX10_isSleeper_0 : decode cX10_isSleeper 0 = .ok (.aload_n 0, 1) := by decide +kernel
theorem dX10_isSleeper_1 : decode cX10_isSleeper 1 = .ok (.iload_n 1, 1) := by decide +kernel
theorem dX10_isSleeper_2 : decode cX10_isSleeper 2 = .ok (.iconst 0, 1) := by decide +kernel
theorem dX10_isSleeper_3 : decode cX10_isSleeper 3 = .ok (.aload_n 0, 1) := by decide +kernel
theorem dX10_isSleeper_4 : decode cX10_isSleeper 4 = .ok (.getfield 156, 3) := by decide +kernel
theorem dX10_isSleeper_7 : decode cX10_isSleeper 7 = .ok (.iconst 1, 1) := by decide +kernel
theorem dX10_isSleeper_8 : decode cX10_isSleeper 8 = .ok (.isub, 1) := by decide +kernel
theorem dX10_isSleeper_9 : decode cX10_isSleeper 9 = .ok (.invokestatic 282, 3) := by decide +kernel
theorem dX10_isSleeper_12 : decode cX10_isSleeper 12 = .ok (.iload_n 2, 1) := by decide +kernel
theorem dX10_isSleeper_13 : decode cX10_isSleeper 13 = .ok (.iconst 0, 1) := by decide +kernel
theorem dX10_isSleeper_14 : decode cX10_isSleeper 14 = .ok (.invokevirtual 203, 3) := by decide +kernel
theorem dX10_isSleeper_17 : decode cX10_isSleeper 17 = .ok (.ireturn, 1) := by decide +kernel
theorem dX10_isSmall_0 : decode cX10_isSmall 0 = .ok (.iload_n 0, 1) := by decide +kernel
theorem dX10_isSmall_1 : decode cX10_isSmall 1 = .ok (.bipush 97, 2) := by decide +kernel
theorem dX10_isSmall_3 : decode cX10_isSmall 3 = .ok (.if_icmp .lt 13, 3) := by decide +kernel
theorem dX10_isSmall_6 : decode cX10_isSmall 6 = .ok (.iload_n 0, 1) := by decide +kernel
theorem dX10_isSmall_7 : decode cX10_isSmall 7 = .ok (.bipush 122, 2) := by decide +kernel
theorem dX10_isSmall_9 : decode cX10_isSmall 9 = .ok (.if_icmp .gt 7, 3) := by decide +kernel
theorem dX10_isSmall_12 : decode cX10_isSmall 12 = .ok (.iconst 1, 1) := by decide +kernel
theorem dX10_isSmall_13 : decode cX10_isSmall 13 = .ok (.goto 4, 3) := by decide +kernel
theorem dX10_isSmall_16 : decode cX10_isSmall 16 = .ok (.iconst 0, 1) := by decide +kernel
theorem dX10_isSmall_17 : decode cX10_isSmall 17 = .ok (.ireturn, 1) := by decide +kernel
theorem dX10_isTold_0 : decode cX10_isTold 0 = .ok (.iconst 0, 1) := by decide +kernel
theorem dX10_isTold_1 : decode cX10_isTold 1 = .ok (.istore_n 2, 1) := by decide +kernel
theorem dX10_isTold_2 : decode cX10_isTold 2 = .ok (.iload_n 2, 1) := by decide +kernel
theorem dX10_isTold_3 : decode cX10_isTold 3 = .ok (.aload_n 0, 1) := by decide +kernel
theorem dX10_isTold_4 : decode cX10_isTold 4 = .ok (.getfield 169, 3) := by decide +kernel
theorem dX10_isTold_7 : decode cX10_isTold 7 = .ok (.if_icmp .ge 23, 3) := by decide +kernel
theorem dX10_isTold_10 : decode cX10_isTold 10 = .ok (.aload_n 0, 1) := by decide +kernel
theorem dX10_isTold_11 : decode cX10_isTold 11 = .ok (.getfield 80, 3) := by decide +kernel
theorem dX10_isTold_14 : decode cX10_isTold 14 = .ok (.iconst 2, 1) := by decide +kernel
theorem dX10_isTold_15 : decode cX10_isTold 15 = .ok (.iload_n 2, 1) := by decide +kernel
theorem dX10_isTold_16 : decode cX10_isTold 16 = .ok (.imul, 1) := by decide +kernel
theorem dX10_isTold_17 : decode cX10_isTold 17 = .ok (.iaload, 1) := by decide +kernel
theorem dX10_isTold_18 : decode cX10_isTold 18 = .ok (.iload_n 1, 1) := by decide +kernel
theorem dX10_isTold_19 : decode cX10_isTold 19 = .ok (.if_icmp .ne 5, 3) := by decide +kernel
theorem dX10_isTold_22 : decode cX10_isTold 22 = .ok (.iconst 1, 1) := by decide +kernel
theorem dX10_isTold_23 : decode cX10_isTold 23 = .ok (.ireturn, 1) := by decide +kernel
theorem dX10_isTold_24 : decode cX10_isTold 24 = .ok (.iinc 2 1, 3) := by decide +kernel
theorem dX10_isTold_27 : decode cX10_isTold 27 = .ok (.goto (-25), 3) := by decide +kernel
theorem dX10_isTold_30 : decode cX10_isTold 30 = .ok (.iconst 0, 1) := by decide +kernel
theorem dX10_isTold_31 : decode cX10_isTold 31 = .ok (.ireturn, 1) := by decide +kernel
theorem dX10_keepsAll_0 : decode cX10_keepsAll 0 = .ok (.aload_n 0, 1) := by decide +kernel
theorem dX10_keepsAll_1 : decode cX10_keepsAll 1 = .ok (.sipush 715, 3) := by decide +kernel
theorem dX10_keepsAll_4 : decode cX10_keepsAll 4 = .ok (.iload_n 1, 1) := by decide +kernel
theorem dX10_keepsAll_5 : decode cX10_keepsAll 5 = .ok (.imul, 1) := by decide +kernel
theorem dX10_keepsAll_6 : decode cX10_keepsAll 6 = .ok (.aload_n 0, 1) := by decide +kernel
theorem dX10_keepsAll_7 : decode cX10_keepsAll 7 = .ok (.getfield 62, 3) := by decide +kernel
theorem dX10_keepsAll_10 : decode cX10_keepsAll 10 = .ok (.bipush 42, 2) := by decide +kernel
theorem dX10_keepsAll_12 : decode cX10_keepsAll 12 = .ok (.iload_n 2, 1) := by decide +kernel
theorem dX10_keepsAll_13 : decode cX10_keepsAll 13 = .ok (.invokevirtual 465, 3) := by decide +kernel
theorem dX10_keepsAll_16 : decode cX10_keepsAll 16 = .ok (.istore_n 3, 1) := by decide +kernel
theorem dX10_keepsAll_17 : decode cX10_keepsAll 17 = .ok (.aload_n 0, 1) := by decide +kernel
theorem dX10_keepsAll_18 : decode cX10_keepsAll 18 = .ok (.iload_n 3, 1) := by decide +kernel
theorem dX10_keepsAll_19 : decode cX10_keepsAll 19 = .ok (.aload_n 0, 1) := by decide +kernel
theorem dX10_keepsAll_20 : decode cX10_keepsAll 20 = .ok (.getfield 68, 3) := by decide +kernel
theorem dX10_keepsAll_23 : decode cX10_keepsAll 23 = .ok (.sipush 672, 3) := by decide +kernel
theorem dX10_keepsAll_26 : decode cX10_keepsAll 26 = .ok (.iload_n 2, 1) := by decide +kernel
theorem dX10_keepsAll_27 : decode cX10_keepsAll 27 = .ok (.invokevirtual 465, 3) := by decide +kernel
theorem dX10_keepsAll_30 : decode cX10_keepsAll 30 = .ok (.istore_n 3, 1) := by decide +kernel
theorem dX10_keepsAll_31 : decode cX10_keepsAll 31 = .ok (.iload_n 2, 1) := by decide +kernel
theorem dX10_keepsAll_32 : decode cX10_keepsAll 32 = .ok (.ifCond .eq 16, 3) := by decide +kernel
theorem dX10_keepsAll_35 : decode cX10_keepsAll 35 = .ok (.aload_n 0, 1) := by decide +kernel
theorem dX10_keepsAll_36 : decode cX10_keepsAll 36 = .ok (.getfield 89, 3) := by decide +kernel
theorem dX10_keepsAll_39 : decode cX10_keepsAll 39 = .ok (.iload_n 3, 1) := by decide +kernel
theorem dX10_keepsAll_40 : decode cX10_keepsAll 40 = .ok (.aload_n 0, 1) := by decide +kernel
theorem dX10_keepsAll_41 : decode cX10_keepsAll 41 = .ok (.getfield 172, 3) := by decide +kernel
theorem dX10_keepsAll_44 : decode cX10_keepsAll 44 = .ok (.iastore, 1) := by decide +kernel
theorem dX10_keepsAll_45 : decode cX10_keepsAll 45 = .ok (.goto 13, 3) := by decide +kernel
theorem dX10_keepsAll_48 : decode cX10_keepsAll 48 = .ok (.aload_n 0, 1) := by decide +kernel
theorem dX10_keepsAll_49 : decode cX10_keepsAll 49 = .ok (.aload_n 0, 1) := by decide +kernel
theorem dX10_keepsAll_50 : decode cX10_keepsAll 50 = .ok (.getfield 89, 3) := by decide +kernel
theorem dX10_keepsAll_53 : decode cX10_keepsAll 53 = .ok (.iload_n 3, 1) := by decide +kernel
theorem dX10_keepsAll_54 : decode cX10_keepsAll 54 = .ok (.iaload, 1) := by decide +kernel
theorem dX10_keepsAll_55 : decode cX10_keepsAll 55 = .ok (.putfield 172, 3) := by decide +kernel
theorem dX10_keepsAll_58 : decode cX10_keepsAll 58 = .ok (.return_, 1) := by decide +kernel
theorem dX10_keepsRow_0 : decode cX10_keepsRow 0 = .ok (.iconst 0, 1) := by decide +kernel
theorem dX10_keepsRow_1 : decode cX10_keepsRow 1 = .ok (.istore 5, 2) := by decide +kernel
theorem dX10_keepsRow_3 : decode cX10_keepsRow 3 = .ok (.iload 5, 2) := by decide +kernel
theorem dX10_keepsRow_5 : decode cX10_keepsRow 5 = .ok (.iload_n 3, 1) := by decide +kernel
theorem dX10_keepsRow_6 : decode cX10_keepsRow 6 = .ok (.if_icmp .ge 43, 3) := by decide +kernel
theorem dX10_keepsRow_9 : decode cX10_keepsRow 9 = .ok (.iload 4, 2) := by decide +kernel
theorem dX10_keepsRow_11 : decode cX10_keepsRow 11 = .ok (.ifCond .eq 19, 3) := by decide +kernel
theorem dX10_keepsRow_14 : decode cX10_keepsRow 14 = .ok (.aload_n 0, 1) := by decide +kernel
theorem dX10_keepsRow_15 : decode cX10_keepsRow 15 = .ok (.getfield 89, 3) := by decide +kernel
theorem dX10_keepsRow_18 : decode cX10_keepsRow 18 = .ok (.iload_n 1, 1) := by decide +kernel
theorem dX10_keepsRow_19 : decode cX10_keepsRow 19 = .ok (.iload 5, 2) := by decide +kernel
theorem dX10_keepsRow_21 : decode cX10_keepsRow 21 = .ok (.iadd, 1) := by decide +kernel
theorem dX10_keepsRow_22 : decode cX10_keepsRow 22 = .ok (.aload_n 2, 1) := by decide +kernel
theorem dX10_keepsRow_23 : decode cX10_keepsRow 23 = .ok (.iload 5, 2) := by decide +kernel
theorem dX10_keepsRow_25 : decode cX10_keepsRow 25 = .ok (.iaload, 1) := by decide +kernel
theorem dX10_keepsRow_26 : decode cX10_keepsRow 26 = .ok (.iastore, 1) := by decide +kernel
theorem dX10_keepsRow_27 : decode cX10_keepsRow 27 = .ok (.goto 16, 3) := by decide +kernel
theorem dX10_keepsRow_30 : decode cX10_keepsRow 30 = .ok (.aload_n 2, 1) := by decide +kernel
theorem dX10_keepsRow_31 : decode cX10_keepsRow 31 = .ok (.iload 5, 2) := by decide +kernel
theorem dX10_keepsRow_33 : decode cX10_keepsRow 33 = .ok (.aload_n 0, 1) := by decide +kernel
theorem dX10_keepsRow_34 : decode cX10_keepsRow 34 = .ok (.getfield 89, 3) := by decide +kernel
theorem dX10_keepsRow_37 : decode cX10_keepsRow 37 = .ok (.iload_n 1, 1) := by decide +kernel
theorem dX10_keepsRow_38 : decode cX10_keepsRow 38 = .ok (.iload 5, 2) := by decide +kernel
theorem dX10_keepsRow_40 : decode cX10_keepsRow 40 = .ok (.iadd, 1) := by decide +kernel
theorem dX10_keepsRow_41 : decode cX10_keepsRow 41 = .ok (.iaload, 1) := by decide +kernel
theorem dX10_keepsRow_42 : decode cX10_keepsRow 42 = .ok (.iastore, 1) := by decide +kernel
theorem dX10_keepsRow_43 : decode cX10_keepsRow 43 = .ok (.iinc 5 1, 3) := by decide +kernel
theorem dX10_keepsRow_46 : decode cX10_keepsRow 46 = .ok (.goto (-43), 3) := by decide +kernel
theorem dX10_keepsRow_49 : decode cX10_keepsRow 49 = .ok (.iload_n 1, 1) := by decide +kernel
theorem dX10_keepsRow_50 : decode cX10_keepsRow 50 = .ok (.iload_n 3, 1) := by decide +kernel
theorem dX10_keepsRow_51 : decode cX10_keepsRow 51 = .ok (.iadd, 1) := by decide +kernel
theorem dX10_keepsRow_52 : decode cX10_keepsRow 52 = .ok (.ireturn, 1) := by decide +kernel
theorem dX10_law_0 : decode cX10_law 0 = .ok (.aload_n 0, 1) := by decide +kernel
theorem dX10_law_1 : decode cX10_law 1 = .ok (.iconst 0, 1) := by decide +kernel
theorem dX10_law_2 : decode cX10_law 2 = .ok (.putfield 3, 3) := by decide +kernel
theorem dX10_law_5 : decode cX10_law 5 = .ok (.aload_n 0, 1) := by decide +kernel
theorem dX10_law_6 : decode cX10_law 6 = .ok (.iload_n 1, 1) := by decide +kernel
theorem dX10_law_7 : decode cX10_law 7 = .ok (.iconst 0, 1) := by decide +kernel
theorem dX10_law_8 : decode cX10_law 8 = .ok (.iconst 1, 1) := by decide +kernel
theorem dX10_law_9 : decode cX10_law 9 = .ok (.invokestatic 282, 3) := by decide +kernel
theorem dX10_law_12 : decode cX10_law 12 = .ok (.ifCond .eq 26, 3) := by decide +kernel
theorem dX10_law_15 : decode cX10_law 15 = .ok (.iload_n 2, 1) := by decide +kernel
theorem dX10_law_16 : decode cX10_law 16 = .ok (.ifCond .lt 22, 3) := by decide +kernel
theorem dX10_law_19 : decode cX10_law 19 = .ok (.iload_n 2, 1) := by decide +kernel
theorem dX10_law_20 : decode cX10_law 20 = .ok (.aload_n 0, 1) := by decide +kernel
theorem dX10_law_21 : decode cX10_law 21 = .ok (.getfield 98, 3) := by decide +kernel
theorem dX10_law_24 : decode cX10_law 24 = .ok (.if_icmp .gt 14, 3) := by decide +kernel
theorem dX10_law_27 : decode cX10_law 27 = .ok (.iload_n 2, 1) := by decide +kernel
theorem dX10_law_28 : decode cX10_law 28 = .ok (.sipush 150, 3) := by decide +kernel
theorem dX10_law_31 : decode cX10_law 31 = .ok (.if_icmp .gt 7, 3) := by decide +kernel
theorem dX10_law_34 : decode cX10_law 34 = .ok (.iconst 1, 1) := by decide +kernel
theorem dX10_law_35 : decode cX10_law 35 = .ok (.goto 4, 3) := by decide +kernel
theorem dX10_law_38 : decode cX10_law 38 = .ok (.iconst 0, 1) := by decide +kernel
theorem dX10_law_39 : decode cX10_law 39 = .ok (.iconst 1, 1) := by decide +kernel
theorem dX10_law_40 : decode cX10_law 40 = .ok (.iconst 1, 1) := by decide +kernel
theorem dX10_law_41 : decode cX10_law 41 = .ok (.invokevirtual 203, 3) := by decide +kernel
theorem dX10_law_44 : decode cX10_law 44 = .ok (.ifCond .ne 5, 3) := by decide +kernel
theorem dX10_law_47 : decode cX10_law 47 = .ok (.iconst 0, 1) := by decide +kernel
theorem dX10_law_48 : decode cX10_law 48 = .ok (.ireturn, 1) := by decide +kernel
theorem dX10_law_49 : decode cX10_law 49 = .ok (.aload_n 0, 1) := by decide +kernel
theorem dX10_law_50 : decode cX10_law 50 = .ok (.iload_n 2, 1) := by decide +kernel
theorem dX10_law_51 : decode cX10_law 51 = .ok (.invokevirtual 207, 3) := by decide +kernel
theorem dX10_law_54 : decode cX10_law 54 = .ok (.aload_n 0, 1) := by decide +kernel
theorem dX10_law_55 : decode cX10_law 55 = .ok (.iconst 0, 1) := by decide +kernel
theorem dX10_law_56 : decode cX10_law 56 = .ok (.putfield 241, 3) := by decide +kernel
theorem dX10_law_59 : decode cX10_law 59 = .ok (.aload_n 0, 1) := by decide +kernel
theorem dX10_law_60 : decode cX10_law 60 = .ok (.invokevirtual 256, 3) := by decide +kernel
theorem dX10_law_63 : decode cX10_law 63 = .ok (.aload_n 0, 1) := by decide +kernel
theorem dX10_law_64 : decode cX10_law 64 = .ok (.invokevirtual 130, 3) := by decide +kernel
theorem dX10_law_67 : decode cX10_law 67 = .ok (.ifCond .eq 19, 3) := by decide +kernel
theorem dX10_law_70 : decode cX10_law 70 = .ok (.aload_n 0, 1) := by decide +kernel
theorem dX10_law_71 : decode cX10_law 71 = .ok (.invokevirtual 211, 3) := by decide +kernel
theorem dX10_law_74 : decode cX10_law 74 = .ok (.ifCond .eq 12, 3) := by decide +kernel
theorem dX10_law_77 : decode cX10_law 77 = .ok (.aload_n 0, 1) := by decide +kernel
theorem dX10_law_78 : decode cX10_law 78 = .ok (.iconst 1, 1) := by decide +kernel
theorem dX10_law_79 : decode cX10_law 79 = .ok (.aload_n 0, 1) := by decide +kernel
theorem dX10_law_80 : decode cX10_law 80 = .ok (.getfield 107, 3) := by decide +kernel
theorem dX10_law_83 : decode cX10_law 83 = .ok (.invokevirtual 137, 3) := by decide +kernel
theorem dX10_law_86 : decode cX10_law 86 = .ok (.aload_n 0, 1) := by decide +kernel
theorem dX10_law_87 : decode cX10_law 87 = .ok (.iconst 1, 1) := by decide +kernel
theorem dX10_law_88 : decode cX10_law 88 = .ok (.invokevirtual 237, 3) := by decide +kernel
theorem dX10_law_91 : decode cX10_law 91 = .ok (.istore_n 3, 1) := by decide +kernel
theorem dX10_law_92 : decode cX10_law 92 = .ok (.aload_n 0, 1) := by decide +kernel
theorem dX10_law_93 : decode cX10_law 93 = .ok (.getfield 101, 3) := by decide +kernel
theorem dX10_law_96 : decode cX10_law 96 = .ok (.iconst (-1), 1) := by decide +kernel
theorem dX10_law_97 : decode cX10_law 97 = .ok (.if_icmp .eq 5, 3) := by decide +kernel
theorem dX10_law_100 : decode cX10_law 100 = .ok (.iload_n 3, 1) := by decide +kernel
theorem dX10_law_101 : decode cX10_law 101 = .ok (.ireturn, 1) := by decide +kernel
theorem dX10_law_102 : decode cX10_law 102 = .ok (.aload_n 0, 1) := by decide +kernel
theorem dX10_law_103 : decode cX10_law 103 = .ok (.getfield 47, 3) := by decide +kernel
theorem dX10_law_106 : decode cX10_law 106 = .ok (.iload_n 1, 1) := by decide +kernel
theorem dX10_law_107 : decode cX10_law 107 = .ok (.aload_n 0, 1) := by decide +kernel
theorem dX10_law_108 : decode cX10_law 108 = .ok (.getfield 241, 3) := by decide +kernel
theorem dX10_law_111 : decode cX10_law 111 = .ok (.iastore, 1) := by decide +kernel
theorem dX10_law_112 : decode cX10_law 112 = .ok (.iconst 0, 1) := by decide +kernel
theorem dX10_law_113 : decode cX10_law 113 = .ok (.istore 4, 2) := by decide +kernel
theorem dX10_law_115 : decode cX10_law 115 = .ok (.iload 4, 2) := by decide +kernel
theorem dX10_law_117 : decode cX10_law 117 = .ok (.aload_n 0, 1) := by decide +kernel
theorem dX10_law_118 : decode cX10_law 118 = .ok (.getfield 241, 3) := by decide +kernel
theorem dX10_law_121 : decode cX10_law 121 = .ok (.if_icmp .ge 49, 3) := by decide +kernel
theorem dX10_law_124 : decode cX10_law 124 = .ok (.aload_n 0, 1) := by decide +kernel
theorem dX10_law_125 : decode cX10_law 125 = .ok (.getfield 41, 3) := by decide +kernel
theorem dX10_law_128 : decode cX10_law 128 = .ok (.sipush 150, 3) := by decide +kernel
theorem dX10_law_131 : decode cX10_law 131 = .ok (.iload_n 1, 1) := by decide +kernel
theorem dX10_law_132 : decode cX10_law 132 = .ok (.imul, 1) := by decide +kernel
theorem dX10_law_133 : decode cX10_law 133 = .ok (.iload 4, 2) := by decide +kernel
theorem dX10_law_135 : decode cX10_law 135 = .ok (.iadd, 1) := by decide +kernel
theorem dX10_law_136 : decode cX10_law 136 = .ok (.aload_n 0, 1) := by decide +kernel
theorem dX10_law_137 : decode cX10_law 137 = .ok (.getfield 35, 3) := by decide +kernel
theorem dX10_law_140 : decode cX10_law 140 = .ok (.iload 4, 2) := by decide +kernel
theorem dX10_law_142 : decode cX10_law 142 = .ok (.iaload, 1) := by decide +kernel
theorem dX10_law_143 : decode cX10_law 143 = .ok (.iastore, 1) := by decide +kernel
theorem dX10_law_144 : decode cX10_law 144 = .ok (.aload_n 0, 1) := by decide +kernel
theorem dX10_law_145 : decode cX10_law 145 = .ok (.getfield 44, 3) := by decide +kernel
theorem dX10_law_148 : decode cX10_law 148 = .ok (.sipush 150, 3) := by decide +kernel
theorem dX10_law_151 : decode cX10_law 151 = .ok (.iload_n 1, 1) := by decide +kernel
theorem dX10_law_152 : decode cX10_law 152 = .ok (.imul, 1) := by decide +kernel
theorem dX10_law_153 : decode cX10_law 153 = .ok (.iload 4, 2) := by decide +kernel
theorem dX10_law_155 : decode cX10_law 155 = .ok (.iadd, 1) := by decide +kernel
theorem dX10_law_156 : decode cX10_law 156 = .ok (.aload_n 0, 1) := by decide +kernel
theorem dX10_law_157 : decode cX10_law 157 = .ok (.getfield 38, 3) := by decide +kernel
theorem dX10_law_160 : decode cX10_law 160 = .ok (.iload 4, 2) := by decide +kernel
theorem dX10_law_162 : decode cX10_law 162 = .ok (.iaload, 1) := by decide +kernel
theorem dX10_law_163 : decode cX10_law 163 = .ok (.iastore, 1) := by decide +kernel
theorem dX10_law_164 : decode cX10_law 164 = .ok (.iinc 4 1, 3) := by decide +kernel
theorem dX10_law_167 : decode cX10_law 167 = .ok (.goto (-52), 3) := by decide +kernel
theorem dX10_law_170 : decode cX10_law 170 = .ok (.iload_n 3, 1) := by decide +kernel
theorem dX10_law_171 : decode cX10_law 171 = .ok (.ireturn, 1) := by decide +kernel
theorem dX10_least_0 : decode cX10_least 0 = .ok (.lload_n 0, 1) := by decide +kernel
theorem dX10_least_1 : decode cX10_least 1 = .ok (.lstore 5, 2) := by decide +kernel
theorem dX10_least_3 : decode cX10_least 3 = .ok (.lload_n 2, 1) := by decide +kernel
theorem dX10_least_4 : decode cX10_least 4 = .ok (.lstore 7, 2) := by decide +kernel
theorem dX10_least_6 : decode cX10_least 6 = .ok (.lload 7, 2) := by decide +kernel
theorem dX10_least_8 : decode cX10_least 8 = .ok (.lconst 0, 1) := by decide +kernel
theorem dX10_least_9 : decode cX10_least 9 = .ok (.lcmp, 1) := by decide +kernel
theorem dX10_least_10 : decode cX10_least 10 = .ok (.ifCond .eq 21, 3) := by decide +kernel
theorem dX10_least_13 : decode cX10_least 13 = .ok (.lload 5, 2) := by decide +kernel
theorem dX10_least_15 : decode cX10_least 15 = .ok (.lload 7, 2) := by decide +kernel
theorem dX10_least_17 : decode cX10_least 17 = .ok (.lrem, 1) := by decide +kernel
theorem dX10_least_18 : decode cX10_least 18 = .ok (.lstore 9, 2) := by decide +kernel
theorem dX10_least_20 : decode cX10_least 20 = .ok (.lload 7, 2) := by decide +kernel
theorem dX10_least_22 : decode cX10_least 22 = .ok (.lstore 5, 2) := by decide +kernel
theorem dX10_least_24 : decode cX10_least 24 = .ok (.lload 9, 2) := by decide +kernel
theorem dX10_least_26 : decode cX10_least 26 = .ok (.lstore 7, 2) := by decide +kernel
theorem dX10_least_28 : decode cX10_least 28 = .ok (.goto (-22), 3) := by decide +kernel
theorem dX10_least_31 : decode cX10_least 31 = .ok (.iload 4, 2) := by decide +kernel
theorem dX10_least_33 : decode cX10_least 33 = .ok (.ifCond .ne 7, 3) := by decide +kernel
theorem dX10_least_36 : decode cX10_least 36 = .ok (.lload_n 0, 1) := by decide +kernel
theorem dX10_least_37 : decode cX10_least 37 = .ok (.goto 4, 3) := by decide +kernel
theorem dX10_least_40 : decode cX10_least 40 = .ok (.lload_n 2, 1) := by decide +kernel
theorem dX10_least_41 : decode cX10_least 41 = .ok (.lload 5, 2) := by decide +kernel
theorem dX10_least_43 : decode cX10_least 43 = .ok (.ldiv, 1) := by decide +kernel
theorem dX10_least_44 : decode cX10_least 44 = .ok (.lreturn, 1) := by decide +kernel
theorem dX10_lies_0 : decode cX10_lies 0 = .ok (.iload_n 2, 1) := by decide +kernel
theorem dX10_lies_1 : decode cX10_lies 1 = .ok (.ifCond .eq 34, 3) := by decide +kernel
theorem dX10_lies_4 : decode cX10_lies 4 = .ok (.aload_n 0, 1) := by decide +kernel
theorem dX10_lies_5 : decode cX10_lies 5 = .ok (.getfield 65, 3) := by decide +kernel
theorem dX10_lies_8 : decode cX10_lies 8 = .ok (.bipush 15, 2) := by decide +kernel
theorem dX10_lies_10 : decode cX10_lies 10 = .ok (.iload_n 1, 1) := by decide +kernel
theorem dX10_lies_11 : decode cX10_lies 11 = .ok (.iadd, 1) := by decide +kernel
theorem dX10_lies_12 : decode cX10_lies 12 = .ok (.iconst 1, 1) := by decide +kernel
theorem dX10_lies_13 : decode cX10_lies 13 = .ok (.iastore, 1) := by decide +kernel
theorem dX10_lies_14 : decode cX10_lies 14 = .ok (.aload_n 0, 1) := by decide +kernel
theorem dX10_lies_15 : decode cX10_lies 15 = .ok (.getfield 65, 3) := by decide +kernel
theorem dX10_lies_18 : decode cX10_lies 18 = .ok (.bipush 25, 2) := by decide +kernel
theorem dX10_lies_20 : decode cX10_lies 20 = .ok (.iload_n 1, 1) := by decide +kernel
theorem dX10_lies_21 : decode cX10_lies 21 = .ok (.iadd, 1) := by decide +kernel
theorem dX10_lies_22 : decode cX10_lies 22 = .ok (.iconst 0, 1) := by decide +kernel
theorem dX10_lies_23 : decode cX10_lies 23 = .ok (.iastore, 1) := by decide +kernel
theorem dX10_lies_24 : decode cX10_lies 24 = .ok (.aload_n 0, 1) := by decide +kernel
theorem dX10_lies_25 : decode cX10_lies 25 = .ok (.getfield 65, 3) := by decide +kernel
theorem dX10_lies_28 : decode cX10_lies 28 = .ok (.bipush 35, 2) := by decide +kernel
theorem dX10_lies_30 : decode cX10_lies 30 = .ok (.iload_n 1, 1) := by decide +kernel
theorem dX10_lies_31 : decode cX10_lies 31 = .ok (.iadd, 1) := by decide +kernel
theorem dX10_lies_32 : decode cX10_lies 32 = .ok (.iconst 0, 1) := by decide +kernel
theorem dX10_lies_33 : decode cX10_lies 33 = .ok (.iastore, 1) := by decide +kernel
theorem dX10_lies_34 : decode cX10_lies 34 = .ok (.return_, 1) := by decide +kernel
theorem dX10_lies_35 : decode cX10_lies 35 = .ok (.aload_n 0, 1) := by decide +kernel
theorem dX10_lies_36 : decode cX10_lies 36 = .ok (.getfield 65, 3) := by decide +kernel
theorem dX10_lies_39 : decode cX10_lies 39 = .ok (.iconst 0, 1) := by decide +kernel
theorem dX10_lies_40 : decode cX10_lies 40 = .ok (.iload_n 1, 1) := by decide +kernel
theorem dX10_lies_41 : decode cX10_lies 41 = .ok (.iadd, 1) := by decide +kernel
theorem dX10_lies_42 : decode cX10_lies 42 = .ok (.iaload, 1) := by decide +kernel
theorem dX10_lies_43 : decode cX10_lies 43 = .ok (.bipush 99, 2) := by decide +kernel
theorem dX10_lies_45 : decode cX10_lies 45 = .ok (.if_icmp .ge 15, 3) := by decide +kernel
theorem dX10_lies_48 : decode cX10_lies 48 = .ok (.aload_n 0, 1) := by decide +kernel
theorem dX10_lies_49 : decode cX10_lies 49 = .ok (.getfield 65, 3) := by decide +kernel
theorem dX10_lies_52 : decode cX10_lies 52 = .ok (.iconst 0, 1) := by decide +kernel
theorem dX10_lies_53 : decode cX10_lies 53 = .ok (.iload_n 1, 1) := by decide +kernel
theorem dX10_lies_54 : decode cX10_lies 54 = .ok (.iadd, 1) := by decide +kernel
theorem dX10_lies_55 : decode cX10_lies 55 = .ok (.dup2, 1) := by decide +kernel
theorem dX10_lies_56 : decode cX10_lies 56 = .ok (.iaload, 1) := by decide +kernel
theorem dX10_lies_57 : decode cX10_lies 57 = .ok (.iconst 1, 1) := by decide +kernel
theorem dX10_lies_58 : decode cX10_lies 58 = .ok (.iadd, 1) := by decide +kernel
theorem dX10_lies_59 : decode cX10_lies 59 = .ok (.iastore, 1) := by decide +kernel
theorem dX10_lies_60 : decode cX10_lies 60 = .ok (.aload_n 0, 1) := by decide +kernel
theorem dX10_lies_61 : decode cX10_lies 61 = .ok (.getfield 65, 3) := by decide +kernel
theorem dX10_lies_64 : decode cX10_lies 64 = .ok (.bipush 35, 2) := by decide +kernel
theorem dX10_lies_66 : decode cX10_lies 66 = .ok (.iload_n 1, 1) := by decide +kernel
theorem dX10_lies_67 : decode cX10_lies 67 = .ok (.iadd, 1) := by decide +kernel
theorem dX10_lies_68 : decode cX10_lies 68 = .ok (.dup2, 1) := by decide +kernel
theorem dX10_lies_69 : decode cX10_lies 69 = .ok (.iaload, 1) := by decide +kernel
theorem dX10_lies_70 : decode cX10_lies 70 = .ok (.iconst 1, 1) := by decide +kernel
theorem dX10_lies_71 : decode cX10_lies 71 = .ok (.iadd, 1) := by decide +kernel
theorem dX10_lies_72 : decode cX10_lies 72 = .ok (.iastore, 1) := by decide +kernel
theorem dX10_lies_73 : decode cX10_lies 73 = .ok (.return_, 1) := by decide +kernel
theorem dX10_listen_0 : decode cX10_listen 0 = .ok (.aload_n 0, 1) := by decide +kernel
theorem dX10_listen_1 : decode cX10_listen 1 = .ok (.iconst 0, 1) := by decide +kernel
theorem dX10_listen_2 : decode cX10_listen 2 = .ok (.putfield 3, 3) := by decide +kernel
theorem dX10_listen_5 : decode cX10_listen 5 = .ok (.aload_n 0, 1) := by decide +kernel
theorem dX10_listen_6 : decode cX10_listen 6 = .ok (.iload_n 1, 1) := by decide +kernel
theorem dX10_listen_7 : decode cX10_listen 7 = .ok (.iconst 1, 1) := by decide +kernel
theorem dX10_listen_8 : decode cX10_listen 8 = .ok (.invokevirtual 383, 3) := by decide +kernel
theorem dX10_listen_11 : decode cX10_listen 11 = .ok (.ifCond .eq 18, 3) := by decide +kernel
theorem dX10_listen_14 : decode cX10_listen 14 = .ok (.aload_n 0, 1) := by decide +kernel
theorem dX10_listen_15 : decode cX10_listen 15 = .ok (.iload_n 2, 1) := by decide +kernel
theorem dX10_listen_16 : decode cX10_listen 16 = .ok (.iconst 0, 1) := by decide +kernel
theorem dX10_listen_17 : decode cX10_listen 17 = .ok (.iconst 1, 1) := by decide +kernel
theorem dX10_listen_18 : decode cX10_listen 18 = .ok (.invokestatic 282, 3) := by decide +kernel
theorem dX10_listen_21 : decode cX10_listen 21 = .ok (.iconst 2, 1) := by decide +kernel
theorem dX10_listen_22 : decode cX10_listen 22 = .ok (.iconst 1, 1) := by decide +kernel
theorem dX10_listen_23 : decode cX10_listen 23 = .ok (.invokevirtual 203, 3) := by decide +kernel
theorem dX10_listen_26 : decode cX10_listen 26 = .ok (.ifCond .ne 5, 3) := by decide +kernel
theorem dX10_listen_29 : decode cX10_listen 29 = .ok (.iconst 0, 1) := by decide +kernel
theorem dX10_listen_30 : decode cX10_listen 30 = .ok (.ireturn, 1) := by decide +kernel
theorem dX10_listen_31 : decode cX10_listen 31 = .ok (.aload_n 0, 1) := by decide +kernel
theorem dX10_listen_32 : decode cX10_listen 32 = .ok (.iload_n 1, 1) := by decide +kernel
theorem dX10_listen_33 : decode cX10_listen 33 = .ok (.invokevirtual 423, 3) := by decide +kernel
theorem dX10_listen_36 : decode cX10_listen 36 = .ok (.istore_n 3, 1) := by decide +kernel
theorem dX10_listen_37 : decode cX10_listen 37 = .ok (.iconst (-1), 1) := by decide +kernel
theorem dX10_listen_38 : decode cX10_listen 38 = .ok (.istore 4, 2) := by decide +kernel
theorem dX10_listen_40 : decode cX10_listen 40 = .ok (.iconst (-1), 1) := by decide +kernel
theorem dX10_listen_41 : decode cX10_listen 41 = .ok (.istore 5, 2) := by decide +kernel
theorem dX10_listen_43 : decode cX10_listen 43 = .ok (.iconst 0, 1) := by decide +kernel
theorem dX10_listen_44 : decode cX10_listen 44 = .ok (.istore 6, 2) := by decide +kernel
theorem dX10_listen_46 : decode cX10_listen 46 = .ok (.iload 6, 2) := by decide +kernel
theorem dX10_listen_48 : decode cX10_listen 48 = .ok (.sipush 240, 3) := by decide +kernel
theorem dX10_listen_51 : decode cX10_listen 51 = .ok (.if_icmp .ge 55, 3) := by decide +kernel
theorem dX10_listen_54 : decode cX10_listen 54 = .ok (.aload_n 0, 1) := by decide +kernel
theorem dX10_listen_55 : decode cX10_listen 55 = .ok (.iload 6, 2) := by decide +kernel
theorem dX10_listen_57 : decode cX10_listen 57 = .ok (.invokevirtual 426, 3) := by decide +kernel
theorem dX10_listen_60 : decode cX10_listen 60 = .ok (.ifCond .eq 6, 3) := by decide +kernel
theorem dX10_listen_63 : decode cX10_listen 63 = .ok (.goto 37, 3) := by decide +kernel
theorem dX10_listen_66 : decode cX10_listen 66 = .ok (.aload_n 0, 1) := by decide +kernel
theorem dX10_listen_67 : decode cX10_listen 67 = .ok (.iload_n 1, 1) := by decide +kernel
theorem dX10_listen_68 : decode cX10_listen 68 = .ok (.iload 6, 2) := by decide +kernel
theorem dX10_listen_70 : decode cX10_listen 70 = .ok (.iload_n 3, 1) := by decide +kernel
theorem dX10_listen_71 : decode cX10_listen 71 = .ok (.invokevirtual 429, 3) := by decide +kernel
theorem dX10_listen_74 : decode cX10_listen 74 = .ok (.istore 7, 2) := by decide +kernel
theorem dX10_listen_76 : decode cX10_listen 76 = .ok (.iload 4, 2) := by decide +kernel
theorem dX10_listen_78 : decode cX10_listen 78 = .ok (.iconst (-1), 1) := by decide +kernel
theorem dX10_listen_79 : decode cX10_listen 79 = .ok (.if_icmp .eq 13, 3) := by decide +kernel
theorem dX10_listen_82 : decode cX10_listen 82 = .ok (.iload 7, 2) := by decide +kernel
theorem dX10_listen_84 : decode cX10_listen 84 = .ok (.iload 5, 2) := by decide +kernel
theorem dX10_listen_86 : decode cX10_listen 86 = .ok (.if_icmp .lt 6, 3) := by decide +kernel
theorem dX10_listen_89 : decode cX10_listen 89 = .ok (.goto 11, 3) := by decide +kernel
theorem dX10_listen_92 : decode cX10_listen 92 = .ok (.iload 6, 2) := by decide +kernel
theorem dX10_listen_94 : decode cX10_listen 94 = .ok (.istore 4, 2) := by decide +kernel
theorem dX10_listen_96 : decode cX10_listen 96 = .ok (.iload 7, 2) := by decide +kernel
theorem dX10_listen_98 : decode cX10_listen 98 = .ok (.istore 5, 2) := by decide +kernel
theorem dX10_listen_100 : decode cX10_listen 100 = .ok (.iinc 6 1, 3) := by decide +kernel
theorem dX10_listen_103 : decode cX10_listen 103 = .ok (.goto (-57), 3) := by decide +kernel
theorem dX10_listen_106 : decode cX10_listen 106 = .ok (.iload_n 2, 1) := by decide +kernel
theorem dX10_listen_107 : decode cX10_listen 107 = .ok (.ifCond .ne 8, 3) := by decide +kernel
theorem dX10_listen_110 : decode cX10_listen 110 = .ok (.iload 4, 2) := by decide +kernel
theorem dX10_listen_112 : decode cX10_listen 112 = .ok (.goto 5, 3) := by decide +kernel
theorem dX10_listen_115 : decode cX10_listen 115 = .ok (.iload 5, 2) := by decide +kernel
theorem dX10_listen_117 : decode cX10_listen 117 = .ok (.ireturn, 1) := by decide +kernel
theorem dX10_loud_0 : decode cX10_loud 0 = .ok (.aload_n 0, 1) := by decide +kernel
theorem dX10_loud_1 : decode cX10_loud 1 = .ok (.iconst 0, 1) := by decide +kernel
theorem dX10_loud_2 : decode cX10_loud 2 = .ok (.putfield 3, 3) := by decide +kernel
theorem dX10_loud_5 : decode cX10_loud 5 = .ok (.aload_n 0, 1) := by decide +kernel
theorem dX10_loud_6 : decode cX10_loud 6 = .ok (.iload_n 1, 1) := by decide +kernel
theorem dX10_loud_7 : decode cX10_loud 7 = .ok (.iconst 1, 1) := by decide +kernel
theorem dX10_loud_8 : decode cX10_loud 8 = .ok (.invokevirtual 383, 3) := by decide +kernel
theorem dX10_loud_11 : decode cX10_loud 11 = .ok (.ifCond .ne 5, 3) := by decide +kernel
theorem dX10_loud_14 : decode cX10_loud 14 = .ok (.iconst 0, 1) := by decide +kernel
theorem dX10_loud_15 : decode cX10_loud 15 = .ok (.ireturn, 1) := by decide +kernel
theorem dX10_loud_16 : decode cX10_loud 16 = .ok (.aload_n 0, 1) := by decide +kernel
theorem dX10_loud_17 : decode cX10_loud 17 = .ok (.invokevirtual 316, 3) := by decide +kernel
theorem dX10_loud_20 : decode cX10_loud 20 = .ok (.aload_n 0, 1) := by decide +kernel
theorem dX10_loud_21 : decode cX10_loud 21 = .ok (.iload_n 1, 1) := by decide +kernel
theorem dX10_loud_22 : decode cX10_loud 22 = .ok (.invokevirtual 346, 3) := by decide +kernel
theorem dX10_loud_25 : decode cX10_loud 25 = .ok (.ireturn, 1) := by decide +kernel
theorem dX10_loudIn_0 : decode cX10_loudIn 0 = .ok (.aload_n 0, 1) := by decide +kernel
theorem dX10_loudIn_1 : decode cX10_loudIn 1 = .ok (.invokevirtual 316, 3) := by decide +kernel
theorem dX10_loudIn_4 : decode cX10_loudIn 4 = .ok (.aload_n 0, 1) := by decide +kernel
theorem dX10_loudIn_5 : decode cX10_loudIn 5 = .ok (.getfield 65, 3) := by decide +kernel
theorem dX10_loudIn_8 : decode cX10_loudIn 8 = .ok (.bipush 40, 2) := by decide +kernel
theorem dX10_loudIn_10 : decode cX10_loudIn 10 = .ok (.iload_n 3, 1) := by decide +kernel
theorem dX10_loudIn_11 : decode cX10_loudIn 11 = .ok (.iastore, 1) := by decide +kernel
theorem dX10_loudIn_12 : decode cX10_loudIn 12 = .ok (.aload_n 0, 1) := by decide +kernel
theorem dX10_loudIn_13 : decode cX10_loudIn 13 = .ok (.getfield 65, 3) := by decide +kernel
theorem dX10_loudIn_16 : decode cX10_loudIn 16 = .ok (.iconst 0, 1) := by decide +kernel
theorem dX10_loudIn_17 : decode cX10_loudIn 17 = .ok (.iload_n 1, 1) := by decide +kernel
theorem dX10_loudIn_18 : decode cX10_loudIn 18 = .ok (.iadd, 1) := by decide +kernel
theorem dX10_loudIn_19 : decode cX10_loudIn 19 = .ok (.aload_n 0, 1) := by decide +kernel
theorem dX10_loudIn_20 : decode cX10_loudIn 20 = .ok (.getfield 29, 3) := by decide +kernel
theorem dX10_loudIn_23 : decode cX10_loudIn 23 = .ok (.bipush 8, 2) := by decide +kernel
theorem dX10_loudIn_25 : decode cX10_loudIn 25 = .ok (.iload_n 1, 1) := by decide +kernel
theorem dX10_loudIn_26 : decode cX10_loudIn 26 = .ok (.imul, 1) := by decide +kernel
theorem dX10_loudIn_27 : decode cX10_loudIn 27 = .ok (.iconst 0, 1) := by decide +kernel
theorem dX10_loudIn_28 : decode cX10_loudIn 28 = .ok (.iadd, 1) := by decide +kernel
theorem dX10_loudIn_29 : decode cX10_loudIn 29 = .ok (.iaload, 1) := by decide +kernel
theorem dX10_loudIn_30 : decode cX10_loudIn 30 = .ok (.iload_n 3, 1) := by decide +kernel
theorem dX10_loudIn_31 : decode cX10_loudIn 31 = .ok (.if_icmp .le 19, 3) := by decide +kernel
theorem dX10_loudIn_34 : decode cX10_loudIn 34 = .ok (.aload_n 0, 1) := by decide +kernel
theorem dX10_loudIn_35 : decode cX10_loudIn 35 = .ok (.getfield 29, 3) := by decide +kernel
theorem dX10_loudIn_38 : decode cX10_loudIn 38 = .ok (.bipush 8, 2) := by decide +kernel
theorem dX10_loudIn_40 : decode cX10_loudIn 40 = .ok (.iload_n 1, 1) := by decide +kernel
theorem dX10_loudIn_41 : decode cX10_loudIn 41 = .ok (.imul, 1) := by decide +kernel
theorem dX10_loudIn_42 : decode cX10_loudIn 42 = .ok (.iconst 0, 1) := by decide +kernel
theorem dX10_loudIn_43 : decode cX10_loudIn 43 = .ok (.iadd, 1) := by decide +kernel
theorem dX10_loudIn_44 : decode cX10_loudIn 44 = .ok (.iaload, 1) := by decide +kernel
theorem dX10_loudIn_45 : decode cX10_loudIn 45 = .ok (.iload_n 3, 1) := by decide +kernel
theorem dX10_loudIn_46 : decode cX10_loudIn 46 = .ok (.isub, 1) := by decide +kernel
theorem dX10_loudIn_47 : decode cX10_loudIn 47 = .ok (.goto 4, 3) := by decide +kernel
theorem dX10_loudIn_50 : decode cX10_loudIn 50 = .ok (.iconst 0, 1) := by decide +kernel
theorem dX10_loudIn_51 : decode cX10_loudIn 51 = .ok (.iastore, 1) := by decide +kernel
theorem dX10_loudIn_52 : decode cX10_loudIn 52 = .ok (.aload_n 0, 1) := by decide +kernel
theorem dX10_loudIn_53 : decode cX10_loudIn 53 = .ok (.iload_n 1, 1) := by decide +kernel
theorem dX10_loudIn_54 : decode cX10_loudIn 54 = .ok (.iload_n 3, 1) := by decide +kernel
theorem dX10_loudIn_55 : decode cX10_loudIn 55 = .ok (.bipush 8, 2) := by decide +kernel
theorem dX10_loudIn_57 : decode cX10_loudIn 57 = .ok (.if_icmp .ge 9, 3) := by decide +kernel
theorem dX10_loudIn_60 : decode cX10_loudIn 60 = .ok (.iload_n 3, 1) := by decide +kernel
theorem dX10_loudIn_61 : decode cX10_loudIn 61 = .ok (.iconst 1, 1) := by decide +kernel
theorem dX10_loudIn_62 : decode cX10_loudIn 62 = .ok (.iadd, 1) := by decide +kernel
theorem dX10_loudIn_63 : decode cX10_loudIn 63 = .ok (.goto 5, 3) := by decide +kernel
theorem dX10_loudIn_66 : decode cX10_loudIn 66 = .ok (.bipush 9, 2) := by decide +kernel
theorem dX10_loudIn_68 : decode cX10_loudIn 68 = .ok (.iconst 0, 1) := by decide +kernel
theorem dX10_loudIn_69 : decode cX10_loudIn 69 = .ok (.invokevirtual 337, 3) := by decide +kernel
theorem dX10_loudIn_72 : decode cX10_loudIn 72 = .ok (.aload_n 0, 1) := by decide +kernel
theorem dX10_loudIn_73 : decode cX10_loudIn 73 = .ok (.getfield 53, 3) := by decide +kernel
theorem dX10_loudIn_76 : decode cX10_loudIn 76 = .ok (.iconst 0, 1) := by decide +kernel
theorem dX10_loudIn_77 : decode cX10_loudIn 77 = .ok (.iload_n 2, 1) := by decide +kernel
theorem dX10_loudIn_78 : decode cX10_loudIn 78 = .ok (.iastore, 1) := by decide +kernel
theorem dX10_loudIn_79 : decode cX10_loudIn 79 = .ok (.aload_n 0, 1) := by decide +kernel
theorem dX10_loudIn_80 : decode cX10_loudIn 80 = .ok (.invokevirtual 340, 3) := by decide +kernel
theorem dX10_loudIn_83 : decode cX10_loudIn 83 = .ok (.ireturn, 1) := by decide +kernel
theorem dX10_loudNow_0 : decode cX10_loudNow 0 = .ok (.aload_n 0, 1) := by decide +kernel
theorem dX10_loudNow_1 : decode cX10_loudNow 1 = .ok (.getfield 47, 3) := by decide +kernel
theorem dX10_loudNow_4 : decode cX10_loudNow 4 = .ok (.iconst 0, 1) := by decide +kernel
theorem dX10_loudNow_5 : decode cX10_loudNow 5 = .ok (.iaload, 1) := by decide +kernel
theorem dX10_loudNow_6 : decode cX10_loudNow 6 = .ok (.ifCond .ne 28, 3) := by decide +kernel
theorem dX10_loudNow_9 : decode cX10_loudNow 9 = .ok (.iconst 2, 1) := by decide +kernel
theorem dX10_loudNow_10 : decode cX10_loudNow 10 = .ok (.aload_n 0, 1) := by decide +kernel
theorem dX10_loudNow_11 : decode cX10_loudNow 11 = .ok (.getfield 53, 3) := by decide +kernel
theorem dX10_loudNow_14 : decode cX10_loudNow 14 = .ok (.iconst 0, 1) := by decide +kernel
theorem dX10_loudNow_15 : decode cX10_loudNow 15 = .ok (.iaload, 1) := by decide +kernel
theorem dX10_loudNow_16 : decode cX10_loudNow 16 = .ok (.imul, 1) := by decide +kernel
theorem dX10_loudNow_17 : decode cX10_loudNow 17 = .ok (.aload_n 0, 1) := by decide +kernel
theorem dX10_loudNow_18 : decode cX10_loudNow 18 = .ok (.getfield 53, 3) := by decide +kernel
theorem dX10_loudNow_21 : decode cX10_loudNow 21 = .ok (.iconst 1, 1) := by decide +kernel
theorem dX10_loudNow_22 : decode cX10_loudNow 22 = .ok (.iaload, 1) := by decide +kernel
theorem dX10_loudNow_23 : decode cX10_loudNow 23 = .ok (.iadd, 1) := by decide +kernel
theorem dX10_loudNow_24 : decode cX10_loudNow 24 = .ok (.aload_n 0, 1) := by decide +kernel
theorem dX10_loudNow_25 : decode cX10_loudNow 25 = .ok (.getfield 53, 3) := by decide +kernel
theorem dX10_loudNow_28 : decode cX10_loudNow 28 = .ok (.iconst 2, 1) := by decide +kernel
theorem dX10_loudNow_29 : decode cX10_loudNow 29 = .ok (.iaload, 1) := by decide +kernel
theorem dX10_loudNow_30 : decode cX10_loudNow 30 = .ok (.iadd, 1) := by decide +kernel
theorem dX10_loudNow_31 : decode cX10_loudNow 31 = .ok (.goto 8, 3) := by decide +kernel
theorem dX10_loudNow_34 : decode cX10_loudNow 34 = .ok (.aload_n 0, 1) := by decide +kernel
theorem dX10_loudNow_35 : decode cX10_loudNow 35 = .ok (.iconst 0, 1) := by decide +kernel
theorem dX10_loudNow_36 : decode cX10_loudNow 36 = .ok (.invokevirtual 290, 3) := by decide +kernel
theorem dX10_loudNow_39 : decode cX10_loudNow 39 = .ok (.istore_n 1, 1) := by decide +kernel
theorem dX10_loudNow_40 : decode cX10_loudNow 40 = .ok (.iload_n 1, 1) := by decide +kernel
theorem dX10_loudNow_41 : decode cX10_loudNow 41 = .ok (.ifCond .ge 7, 3) := by decide +kernel
theorem dX10_loudNow_44 : decode cX10_loudNow 44 = .ok (.iconst 0, 1) := by decide +kernel
theorem dX10_loudNow_45 : decode cX10_loudNow 45 = .ok (.goto 15, 3) := by decide +kernel
theorem dX10_loudNow_48 : decode cX10_loudNow 48 = .ok (.iload_n 1, 1) := by decide +kernel
theorem dX10_loudNow_49 : decode cX10_loudNow 49 = .ok (.bipush 40, 2) := by decide +kernel
theorem dX10_loudNow_51 : decode cX10_loudNow 51 = .ok (.if_icmp .le 8, 3) := by decide +kernel
theorem dX10_loudNow_54 : decode cX10_loudNow 54 = .ok (.bipush 40, 2) := by decide +kernel
theorem dX10_loudNow_56 : decode cX10_loudNow 56 = .ok (.goto 4, 3) := by decide +kernel
theorem dX10_loudNow_59 : decode cX10_loudNow 59 = .ok (.iload_n 1, 1) := by decide +kernel
theorem dX10_loudNow_60 : decode cX10_loudNow 60 = .ok (.ireturn, 1) := by decide +kernel
theorem dX10_loudOf_0 : decode cX10_loudOf 0 = .ok (.aload_n 0, 1) := by decide +kernel
theorem dX10_loudOf_1 : decode cX10_loudOf 1 = .ok (.iload_n 1, 1) := by decide +kernel
theorem dX10_loudOf_2 : decode cX10_loudOf 2 = .ok (.aload_n 0, 1) := by decide +kernel
theorem dX10_loudOf_3 : decode cX10_loudOf 3 = .ok (.getfield 65, 3) := by decide +kernel
theorem dX10_loudOf_6 : decode cX10_loudOf 6 = .ok (.bipush 15, 2) := by decide +kernel
theorem dX10_loudOf_8 : decode cX10_loudOf 8 = .ok (.iload_n 1, 1) := by decide +kernel
theorem dX10_loudOf_9 : decode cX10_loudOf 9 = .ok (.iadd, 1) := by decide +kernel
theorem dX10_loudOf_10 : decode cX10_loudOf 10 = .ok (.iaload, 1) := by decide +kernel
theorem dX10_loudOf_11 : decode cX10_loudOf 11 = .ok (.iconst 0, 1) := by decide +kernel
theorem dX10_loudOf_12 : decode cX10_loudOf 12 = .ok (.invokevirtual 337, 3) := by decide +kernel
theorem dX10_loudOf_15 : decode cX10_loudOf 15 = .ok (.aload_n 0, 1) := by decide +kernel
theorem dX10_loudOf_16 : decode cX10_loudOf 16 = .ok (.invokevirtual 340, 3) := by decide +kernel
theorem dX10_loudOf_19 : decode cX10_loudOf 19 = .ok (.ireturn, 1) := by decide +kernel
theorem dX10_loudest_0 : decode cX10_loudest 0 = .ok (.aload_n 0, 1) := by decide +kernel
theorem dX10_loudest_1 : decode cX10_loudest 1 = .ok (.iconst 0, 1) := by decide +kernel
theorem dX10_loudest_2 : decode cX10_loudest 2 = .ok (.putfield 3, 3) := by decide +kernel
theorem dX10_loudest_5 : decode cX10_loudest 5 = .ok (.aload_n 0, 1) := by decide +kernel
theorem dX10_loudest_6 : decode cX10_loudest 6 = .ok (.iload_n 1, 1) := by decide +kernel
theorem dX10_loudest_7 : decode cX10_loudest 7 = .ok (.iconst 1, 1) := by decide +kernel
theorem dX10_loudest_8 : decode cX10_loudest 8 = .ok (.invokevirtual 383, 3) := by decide +kernel
theorem dX10_loudest_11 : decode cX10_loudest 11 = .ok (.ifCond .ne 5, 3) := by decide +kernel
theorem dX10_loudest_14 : decode cX10_loudest 14 = .ok (.iconst 0, 1) := by decide +kernel
theorem dX10_loudest_15 : decode cX10_loudest 15 = .ok (.ireturn, 1) := by decide +kernel
theorem dX10_loudest_16 : decode cX10_loudest 16 = .ok (.aload_n 0, 1) := by decide +kernel
theorem dX10_loudest_17 : decode cX10_loudest 17 = .ok (.invokevirtual 316, 3) := by decide +kernel
theorem dX10_loudest_20 : decode cX10_loudest 20 = .ok (.iconst (-1), 1) := by decide +kernel
theorem dX10_loudest_21 : decode cX10_loudest 21 = .ok (.istore_n 2, 1) := by decide +kernel
theorem dX10_loudest_22 : decode cX10_loudest 22 = .ok (.iconst 0, 1) := by decide +kernel
theorem dX10_loudest_23 : decode cX10_loudest 23 = .ok (.istore_n 3, 1) := by decide +kernel
theorem dX10_loudest_24 : decode cX10_loudest 24 = .ok (.iconst 0, 1) := by decide +kernel
theorem dX10_loudest_25 : decode cX10_loudest 25 = .ok (.istore 4, 2) := by decide +kernel
theorem dX10_loudest_27 : decode cX10_loudest 27 = .ok (.iload 4, 2) := by decide +kernel
theorem dX10_loudest_29 : decode cX10_loudest 29 = .ok (.aload_n 0, 1) := by decide +kernel
theorem dX10_loudest_30 : decode cX10_loudest 30 = .ok (.getfield 156, 3) := by decide +kernel
theorem dX10_loudest_33 : decode cX10_loudest 33 = .ok (.if_icmp .ge 34, 3) := by decide +kernel
theorem dX10_loudest_36 : decode cX10_loudest 36 = .ok (.aload_n 0, 1) := by decide +kernel
theorem dX10_loudest_37 : decode cX10_loudest 37 = .ok (.iload_n 1, 1) := by decide +kernel
theorem dX10_loudest_38 : decode cX10_loudest 38 = .ok (.iload 4, 2) := by decide +kernel
theorem dX10_loudest_40 : decode cX10_loudest 40 = .ok (.invokevirtual 349, 3) := by decide +kernel
theorem dX10_loudest_43 : decode cX10_loudest 43 = .ok (.iload_n 3, 1) := by decide +kernel
theorem dX10_loudest_44 : decode cX10_loudest 44 = .ok (.if_icmp .gt 6, 3) := by decide +kernel
theorem dX10_loudest_47 : decode cX10_loudest 47 = .ok (.goto 14, 3) := by decide +kernel
theorem dX10_loudest_50 : decode cX10_loudest 50 = .ok (.iload 4, 2) := by decide +kernel
theorem dX10_loudest_52 : decode cX10_loudest 52 = .ok (.istore_n 2, 1) := by decide +kernel
theorem dX10_loudest_53 : decode cX10_loudest 53 = .ok (.aload_n 0, 1) := by decide +kernel
theorem dX10_loudest_54 : decode cX10_loudest 54 = .ok (.iload_n 1, 1) := by decide +kernel
theorem dX10_loudest_55 : decode cX10_loudest 55 = .ok (.iload 4, 2) := by decide +kernel
theorem dX10_loudest_57 : decode cX10_loudest 57 = .ok (.invokevirtual 349, 3) := by decide +kernel
theorem dX10_loudest_60 : decode cX10_loudest 60 = .ok (.istore_n 3, 1) := by decide +kernel
theorem dX10_loudest_61 : decode cX10_loudest 61 = .ok (.iinc 4 1, 3) := by decide +kernel
theorem dX10_loudest_64 : decode cX10_loudest 64 = .ok (.goto (-37), 3) := by decide +kernel
theorem dX10_loudest_67 : decode cX10_loudest 67 = .ok (.iload_n 2, 1) := by decide +kernel
theorem dX10_loudest_68 : decode cX10_loudest 68 = .ok (.ireturn, 1) := by decide +kernel
theorem dX10_may_0 : decode cX10_may 0 = .ok (.iload_n 1, 1) := by decide +kernel
theorem dX10_may_1 : decode cX10_may 1 = .ok (.ifCond .ne 25, 3) := by decide +kernel
theorem dX10_may_4 : decode cX10_may 4 = .ok (.aload_n 0, 1) := by decide +kernel
theorem dX10_may_5 : decode cX10_may 5 = .ok (.getfield 3, 3) := by decide +kernel
theorem dX10_may_8 : decode cX10_may 8 = .ok (.ifCond .ne 18, 3) := by decide +kernel
theorem dX10_may_11 : decode cX10_may 11 = .ok (.aload_n 0, 1) := by decide +kernel
theorem dX10_may_12 : decode cX10_may 12 = .ok (.iload_n 2, 1) := by decide +kernel
theorem dX10_may_13 : decode cX10_may 13 = .ok (.putfield 3, 3) := by decide +kernel
theorem dX10_may_16 : decode cX10_may 16 = .ok (.aload_n 0, 1) := by decide +kernel
theorem dX10_may_17 : decode cX10_may 17 = .ok (.getfield 7, 3) := by decide +kernel
theorem dX10_may_20 : decode cX10_may 20 = .ok (.iload_n 3, 1) := by decide +kernel
theorem dX10_may_21 : decode cX10_may 21 = .ok (.dup2, 1) := by decide +kernel
theorem dX10_may_22 : decode cX10_may 22 = .ok (.iaload, 1) := by decide +kernel
theorem dX10_may_23 : decode cX10_may 23 = .ok (.iconst 1, 1) := by decide +kernel
theorem dX10_may_24 : decode cX10_may 24 = .ok (.iadd, 1) := by decide +kernel
theorem dX10_may_25 : decode cX10_may 25 = .ok (.iastore, 1) := by decide +kernel
theorem dX10_may_26 : decode cX10_may 26 = .ok (.aload_n 0, 1) := by decide +kernel
theorem dX10_may_27 : decode cX10_may 27 = .ok (.getfield 3, 3) := by decide +kernel
theorem dX10_may_30 : decode cX10_may 30 = .ok (.ifCond .ne 7, 3) := by decide +kernel
theorem dX10_may_33 : decode cX10_may 33 = .ok (.iconst 1, 1) := by decide +kernel
theorem dX10_may_34 : decode cX10_may 34 = .ok (.goto 4, 3) := by decide +kernel
theorem dX10_may_37 : decode cX10_may 37 = .ok (.iconst 0, 1) := by decide +kernel
theorem dX10_may_38 : decode cX10_may 38 = .ok (.ireturn, 1) := by decide +kernel
theorem dX10_meanOf_0 : decode cX10_meanOf 0 = .ok (.iload_n 2, 1) := by decide +kernel
theorem dX10_meanOf_1 : decode cX10_meanOf 1 = .ok (.iload_n 1, 1) := by decide +kernel
theorem dX10_meanOf_2 : decode cX10_meanOf 2 = .ok (.if_icmp .ge 7, 3) := by decide +kernel
theorem dX10_meanOf_5 : decode cX10_meanOf 5 = .ok (.lconst 0, 1) := by decide +kernel
theorem dX10_meanOf_6 : decode cX10_meanOf 6 = .ok (.goto 22, 3) := by decide +kernel
theorem dX10_meanOf_9 : decode cX10_meanOf 9 = .ok (.iload_n 0, 1) := by decide +kernel
theorem dX10_meanOf_10 : decode cX10_meanOf 10 = .ok (.i2l, 1) := by decide +kernel
theorem dX10_meanOf_11 : decode cX10_meanOf 11 = .ok (.iload_n 1, 1) := by decide +kernel
theorem dX10_meanOf_12 : decode cX10_meanOf 12 = .ok (.invokestatic 432, 3) := by decide +kernel
theorem dX10_meanOf_15 : decode cX10_meanOf 15 = .ok (.bipush 16, 2) := by decide +kernel
theorem dX10_meanOf_17 : decode cX10_meanOf 17 = .ok (.iload_n 2, 1) := by decide +kernel
theorem dX10_meanOf_18 : decode cX10_meanOf 18 = .ok (.iload_n 1, 1) := by decide +kernel
theorem dX10_meanOf_19 : decode cX10_meanOf 19 = .ok (.isub, 1) := by decide +kernel
theorem dX10_meanOf_20 : decode cX10_meanOf 20 = .ok (.bipush 16, 2) := by decide +kernel
theorem dX10_meanOf_22 : decode cX10_meanOf 22 = .ok (.iload_n 0, 1) := by decide +kernel
theorem dX10_meanOf_23 : decode cX10_meanOf 23 = .ok (.isub, 1) := by decide +kernel
theorem dX10_meanOf_24 : decode cX10_meanOf 24 = .ok (.imul, 1) := by decide +kernel
theorem dX10_meanOf_25 : decode cX10_meanOf 25 = .ok (.iadd, 1) := by decide +kernel
theorem dX10_meanOf_26 : decode cX10_meanOf 26 = .ok (.i2l, 1) := by decide +kernel
theorem dX10_meanOf_27 : decode cX10_meanOf 27 = .ok (.lmul, 1) := by decide +kernel
theorem dX10_meanOf_28 : decode cX10_meanOf 28 = .ok (.lreturn, 1) := by decide +kernel
theorem dX10_mine_0 : decode cX10_mine 0 = .ok (.aload_n 0, 1) := by decide +kernel
theorem dX10_mine_1 : decode cX10_mine 1 = .ok (.getfield 83, 3) := by decide +kernel
theorem dX10_mine_4 : decode cX10_mine 4 = .ok (.iconst 2, 1) := by decide +kernel
theorem dX10_mine_5 : decode cX10_mine 5 = .ok (.bipush 9, 2) := by decide +kernel
theorem dX10_mine_7 : decode cX10_mine 7 = .ok (.iload_n 2, 1) := by decide +kernel
theorem dX10_mine_8 : decode cX10_mine 8 = .ok (.imul, 1) := by decide +kernel
theorem dX10_mine_9 : decode cX10_mine 9 = .ok (.iload_n 3, 1) := by decide +kernel
theorem dX10_mine_10 : decode cX10_mine 10 = .ok (.iadd, 1) := by decide +kernel
theorem dX10_mine_11 : decode cX10_mine 11 = .ok (.imul, 1) := by decide +kernel
theorem dX10_mine_12 : decode cX10_mine 12 = .ok (.iload_n 1, 1) := by decide +kernel
theorem dX10_mine_13 : decode cX10_mine 13 = .ok (.iadd, 1) := by decide +kernel
theorem dX10_mine_14 : decode cX10_mine 14 = .ok (.iaload, 1) := by decide +kernel
theorem dX10_mine_15 : decode cX10_mine 15 = .ok (.ireturn, 1) := by decide +kernel
theorem dX10_minute_0 : decode cX10_minute 0 = .ok (.aload_n 0, 1) := by decide +kernel
theorem dX10_minute_1 : decode cX10_minute 1 = .ok (.getfield 65, 3) := by decide +kernel
theorem dX10_minute_4 : decode cX10_minute 4 = .ok (.bipush 40, 2) := by decide +kernel
theorem dX10_minute_6 : decode cX10_minute 6 = .ok (.iaload, 1) := by decide +kernel
theorem dX10_minute_7 : decode cX10_minute 7 = .ok (.sipush 240, 3) := by decide +kernel
theorem dX10_minute_10 : decode cX10_minute 10 = .ok (.if_icmp .ne 5, 3) := by decide +kernel
theorem dX10_minute_13 : decode cX10_minute 13 = .ok (.iconst 0, 1) := by decide +kernel
theorem dX10_minute_14 : decode cX10_minute 14 = .ok (.ireturn, 1) := by decide +kernel
theorem dX10_minute_15 : decode cX10_minute 15 = .ok (.iconst 0, 1) := by decide +kernel
theorem dX10_minute_16 : decode cX10_minute 16 = .ok (.istore_n 1, 1) := by decide +kernel
theorem dX10_minute_17 : decode cX10_minute 17 = .ok (.iload_n 1, 1) := by decide +kernel
theorem dX10_minute_18 : decode cX10_minute 18 = .ok (.aload_n 0, 1) := by decide +kernel
theorem dX10_minute_19 : decode cX10_minute 19 = .ok (.getfield 156, 3) := by decide +kernel
theorem dX10_minute_22 : decode cX10_minute 22 = .ok (.if_icmp .ge 20, 3) := by decide +kernel
theorem dX10_minute_25 : decode cX10_minute 25 = .ok (.aload_n 0, 1) := by decide +kernel
theorem dX10_minute_26 : decode cX10_minute 26 = .ok (.getfield 71, 3) := by decide +kernel
theorem dX10_minute_29 : decode cX10_minute 29 = .ok (.iload_n 1, 1) := by decide +kernel
theorem dX10_minute_30 : decode cX10_minute 30 = .ok (.aload_n 0, 1) := by decide +kernel
theorem dX10_minute_31 : decode cX10_minute 31 = .ok (.iload_n 1, 1) := by decide +kernel
theorem dX10_minute_32 : decode cX10_minute 32 = .ok (.invokevirtual 355, 3) := by decide +kernel
theorem dX10_minute_35 : decode cX10_minute 35 = .ok (.iastore, 1) := by decide +kernel
theorem dX10_minute_36 : decode cX10_minute 36 = .ok (.iinc 1 1, 3) := by decide +kernel
theorem dX10_minute_39 : decode cX10_minute 39 = .ok (.goto (-22), 3) := by decide +kernel
theorem dX10_minute_42 : decode cX10_minute 42 = .ok (.iconst 0, 1) := by decide +kernel
theorem dX10_minute_43 : decode cX10_minute 43 = .ok (.istore_n 1, 1) := by decide +kernel
theorem dX10_minute_44 : decode cX10_minute 44 = .ok (.iload_n 1, 1) := by decide +kernel
theorem dX10_minute_45 : decode cX10_minute 45 = .ok (.aload_n 0, 1) := by decide +kernel
theorem dX10_minute_46 : decode cX10_minute 46 = .ok (.getfield 156, 3) := by decide +kernel
theorem dX10_minute_49 : decode cX10_minute 49 = .ok (.if_icmp .ge 74, 3) := by decide +kernel
theorem dX10_minute_52 : decode cX10_minute 52 = .ok (.aload_n 0, 1) := by decide +kernel
theorem dX10_minute_53 : decode cX10_minute 53 = .ok (.iload_n 1, 1) := by decide +kernel
theorem dX10_minute_54 : decode cX10_minute 54 = .ok (.aload_n 0, 1) := by decide +kernel
theorem dX10_minute_55 : decode cX10_minute 55 = .ok (.getfield 71, 3) := by decide +kernel
theorem dX10_minute_58 : decode cX10_minute 58 = .ok (.iload_n 1, 1) := by decide +kernel
theorem dX10_minute_59 : decode cX10_minute 59 = .ok (.iaload, 1) := by decide +kernel
theorem dX10_minute_60 : decode cX10_minute 60 = .ok (.invokevirtual 358, 3) := by decide +kernel
theorem dX10_minute_63 : decode cX10_minute 63 = .ok (.istore_n 2, 1) := by decide +kernel
theorem dX10_minute_64 : decode cX10_minute 64 = .ok (.aload_n 0, 1) := by decide +kernel
theorem dX10_minute_65 : decode cX10_minute 65 = .ok (.iload_n 1, 1) := by decide +kernel
theorem dX10_minute_66 : decode cX10_minute 66 = .ok (.invokevirtual 343, 3) := by decide +kernel
theorem dX10_minute_69 : decode cX10_minute 69 = .ok (.ifCond .ne 12, 3) := by decide +kernel
theorem dX10_minute_72 : decode cX10_minute 72 = .ok (.aload_n 0, 1) := by decide +kernel
theorem dX10_minute_73 : decode cX10_minute 73 = .ok (.iload_n 1, 1) := by decide +kernel
theorem dX10_minute_74 : decode cX10_minute 74 = .ok (.iload_n 2, 1) := by decide +kernel
theorem dX10_minute_75 : decode cX10_minute 75 = .ok (.invokevirtual 362, 3) := by decide +kernel
theorem dX10_minute_78 : decode cX10_minute 78 = .ok (.goto 20, 3) := by decide +kernel
theorem dX10_minute_81 : decode cX10_minute 81 = .ok (.iload_n 2, 1) := by decide +kernel
theorem dX10_minute_82 : decode cX10_minute 82 = .ok (.ifCond .eq 11, 3) := by decide +kernel
theorem dX10_minute_85 : decode cX10_minute 85 = .ok (.aload_n 0, 1) := by decide +kernel
theorem dX10_minute_86 : decode cX10_minute 86 = .ok (.iload_n 1, 1) := by decide +kernel
theorem dX10_minute_87 : decode cX10_minute 87 = .ok (.invokevirtual 366, 3) := by decide +kernel
theorem dX10_minute_90 : decode cX10_minute 90 = .ok (.goto 8, 3) := by decide +kernel
theorem dX10_minute_93 : decode cX10_minute 93 = .ok (.aload_n 0, 1) := by decide +kernel
theorem dX10_minute_94 : decode cX10_minute 94 = .ok (.iload_n 1, 1) := by decide +kernel
theorem dX10_minute_95 : decode cX10_minute 95 = .ok (.invokevirtual 369, 3) := by decide +kernel
theorem dX10_minute_98 : decode cX10_minute 98 = .ok (.aload_n 0, 1) := by decide +kernel
theorem dX10_minute_99 : decode cX10_minute 99 = .ok (.getfield 74, 3) := by decide +kernel
theorem dX10_minute_102 : decode cX10_minute 102 = .ok (.iload_n 1, 1) := by decide +kernel
theorem dX10_minute_103 : decode cX10_minute 103 = .ok (.iaload, 1) := by decide +kernel
theorem dX10_minute_104 : decode cX10_minute 104 = .ok (.ifCond .le 13, 3) := by decide +kernel
theorem dX10_minute_107 : decode cX10_minute 107 = .ok (.aload_n 0, 1) := by decide +kernel
theorem dX10_minute_108 : decode cX10_minute 108 = .ok (.getfield 74, 3) := by decide +kernel
theorem dX10_minute_111 : decode cX10_minute 111 = .ok (.iload_n 1, 1) := by decide +kernel
theorem dX10_minute_112 : decode cX10_minute 112 = .ok (.dup2, 1) := by decide +kernel
theorem dX10_minute_113 : decode cX10_minute 113 = .ok (.iaload, 1) := by decide +kernel
theorem dX10_minute_114 : decode cX10_minute 114 = .ok (.iconst 1, 1) := by decide +kernel
theorem dX10_minute_115 : decode cX10_minute 115 = .ok (.isub, 1) := by decide +kernel
theorem dX10_minute_116 : decode cX10_minute 116 = .ok (.iastore, 1) := by decide +kernel
theorem dX10_minute_117 : decode cX10_minute 117 = .ok (.iinc 1 1, 3) := by decide +kernel
theorem dX10_minute_120 : decode cX10_minute 120 = .ok (.goto (-76), 3) := by decide +kernel
theorem dX10_minute_123 : decode cX10_minute 123 = .ok (.aload_n 0, 1) := by decide +kernel
theorem dX10_minute_124 : decode cX10_minute 124 = .ok (.getfield 65, 3) := by decide +kernel
theorem dX10_minute_127 : decode cX10_minute 127 = .ok (.bipush 40, 2) := by decide +kernel
theorem dX10_minute_129 : decode cX10_minute 129 = .ok (.dup2, 1) := by decide +kernel
theorem dX10_minute_130 : decode cX10_minute 130 = .ok (.iaload, 1) := by decide +kernel
theorem dX10_minute_131 : decode cX10_minute 131 = .ok (.iconst 1, 1) := by decide +kernel
theorem dX10_minute_132 : decode cX10_minute 132 = .ok (.iadd, 1) := by decide +kernel
theorem dX10_minute_133 : decode cX10_minute 133 = .ok (.iastore, 1) := by decide +kernel
theorem dX10_minute_134 : decode cX10_minute 134 = .ok (.iconst 1, 1) := by decide +kernel
theorem dX10_minute_135 : decode cX10_minute 135 = .ok (.ireturn, 1) := by decide +kernel
theorem dX10_most_0 : decode cX10_most 0 = .ok (.aload_n 0, 1) := by decide +kernel
theorem dX10_most_1 : decode cX10_most 1 = .ok (.iconst 0, 1) := by decide +kernel
theorem dX10_most_2 : decode cX10_most 2 = .ok (.putfield 3, 3) := by decide +kernel
theorem dX10_most_5 : decode cX10_most 5 = .ok (.aload_n 0, 1) := by decide +kernel
theorem dX10_most_6 : decode cX10_most 6 = .ok (.iload_n 1, 1) := by decide +kernel
theorem dX10_most_7 : decode cX10_most 7 = .ok (.iconst 0, 1) := by decide +kernel
theorem dX10_most_8 : decode cX10_most 8 = .ok (.iconst 1, 1) := by decide +kernel
theorem dX10_most_9 : decode cX10_most 9 = .ok (.invokestatic 282, 3) := by decide +kernel
theorem dX10_most_12 : decode cX10_most 12 = .ok (.iconst 1, 1) := by decide +kernel
theorem dX10_most_13 : decode cX10_most 13 = .ok (.iconst 1, 1) := by decide +kernel
theorem dX10_most_14 : decode cX10_most 14 = .ok (.invokevirtual 203, 3) := by decide +kernel
theorem dX10_most_17 : decode cX10_most 17 = .ok (.ifCond .ne 5, 3) := by decide +kernel
theorem dX10_most_20 : decode cX10_most 20 = .ok (.iconst 0, 1) := by decide +kernel
theorem dX10_most_21 : decode cX10_most 21 = .ok (.ireturn, 1) := by decide +kernel
theorem dX10_most_22 : decode cX10_most 22 = .ok (.aload_n 0, 1) := by decide +kernel
theorem dX10_most_23 : decode cX10_most 23 = .ok (.invokevirtual 316, 3) := by decide +kernel
theorem dX10_most_26 : decode cX10_most 26 = .ok (.iconst 0, 1) := by decide +kernel
theorem dX10_most_27 : decode cX10_most 27 = .ok (.istore_n 2, 1) := by decide +kernel
theorem dX10_most_28 : decode cX10_most 28 = .ok (.iconst (-1), 1) := by decide +kernel
theorem dX10_most_29 : decode cX10_most 29 = .ok (.istore_n 3, 1) := by decide +kernel
theorem dX10_most_30 : decode cX10_most 30 = .ok (.iconst 0, 1) := by decide +kernel
theorem dX10_most_31 : decode cX10_most 31 = .ok (.istore 4, 2) := by decide +kernel
theorem dX10_most_33 : decode cX10_most 33 = .ok (.iload 4, 2) := by decide +kernel
theorem dX10_most_35 : decode cX10_most 35 = .ok (.bipush 120, 2) := by decide +kernel
theorem dX10_most_37 : decode cX10_most 37 = .ok (.if_icmp .gt 30, 3) := by decide +kernel
theorem dX10_most_40 : decode cX10_most 40 = .ok (.aload_n 0, 1) := by decide +kernel
theorem dX10_most_41 : decode cX10_most 41 = .ok (.invokevirtual 380, 3) := by decide +kernel
theorem dX10_most_44 : decode cX10_most 44 = .ok (.iload_n 3, 1) := by decide +kernel
theorem dX10_most_45 : decode cX10_most 45 = .ok (.if_icmp .le 11, 3) := by decide +kernel
theorem dX10_most_48 : decode cX10_most 48 = .ok (.iload 4, 2) := by decide +kernel
theorem dX10_most_50 : decode cX10_most 50 = .ok (.istore_n 2, 1) := by decide +kernel
theorem dX10_most_51 : decode cX10_most 51 = .ok (.aload_n 0, 1) := by decide +kernel
theorem dX10_most_52 : decode cX10_most 52 = .ok (.invokevirtual 380, 3) := by decide +kernel
theorem dX10_most_55 : decode cX10_most 55 = .ok (.istore_n 3, 1) := by decide +kernel
theorem dX10_most_56 : decode cX10_most 56 = .ok (.aload_n 0, 1) := by decide +kernel
theorem dX10_most_57 : decode cX10_most 57 = .ok (.invokevirtual 372, 3) := by decide +kernel
theorem dX10_most_60 : decode cX10_most 60 = .ok (.pop, 1) := by decide +kernel
theorem dX10_most_61 : decode cX10_most 61 = .ok (.iinc 4 1, 3) := by decide +kernel
theorem dX10_most_64 : decode cX10_most 64 = .ok (.goto (-31), 3) := by decide +kernel
theorem dX10_most_67 : decode cX10_most 67 = .ok (.iload_n 1, 1) := by decide +kernel
theorem dX10_most_68 : decode cX10_most 68 = .ok (.ifCond .ne 7, 3) := by decide +kernel
theorem dX10_most_71 : decode cX10_most 71 = .ok (.iload_n 2, 1) := by decide +kernel
theorem dX10_most_72 : decode cX10_most 72 = .ok (.goto 4, 3) := by decide +kernel
theorem dX10_most_75 : decode cX10_most 75 = .ok (.iload_n 3, 1) := by decide +kernel
theorem dX10_most_76 : decode cX10_most 76 = .ok (.ireturn, 1) := by decide +kernel
theorem dX10_nights_0 : decode cX10_nights 0 = .ok (.aload_n 0, 1) := by decide +kernel
theorem dX10_nights_1 : decode cX10_nights 1 = .ok (.iconst 0, 1) := by decide +kernel
theorem dX10_nights_2 : decode cX10_nights 2 = .ok (.putfield 3, 3) := by decide +kernel
theorem dX10_nights_5 : decode cX10_nights 5 = .ok (.aload_n 0, 1) := by decide +kernel
theorem dX10_nights_6 : decode cX10_nights 6 = .ok (.iload_n 2, 1) := by decide +kernel
theorem dX10_nights_7 : decode cX10_nights 7 = .ok (.iload_n 3, 1) := by decide +kernel
theorem dX10_nights_8 : decode cX10_nights 8 = .ok (.iload 4, 2) := by decide +kernel
theorem dX10_nights_10 : decode cX10_nights 10 = .ok (.invokestatic 455, 3) := by decide +kernel
theorem dX10_nights_13 : decode cX10_nights 13 = .ok (.ifCond .eq 17, 3) := by decide +kernel
theorem dX10_nights_16 : decode cX10_nights 16 = .ok (.iload 5, 2) := by decide +kernel
theorem dX10_nights_18 : decode cX10_nights 18 = .ok (.iconst 0, 1) := by decide +kernel
theorem dX10_nights_19 : decode cX10_nights 19 = .ok (.iconst 3, 1) := by decide +kernel
theorem dX10_nights_20 : decode cX10_nights 20 = .ok (.invokestatic 282, 3) := by decide +kernel
theorem dX10_nights_23 : decode cX10_nights 23 = .ok (.ifCond .eq 7, 3) := by decide +kernel
theorem dX10_nights_26 : decode cX10_nights 26 = .ok (.iconst 1, 1) := by decide +kernel
theorem dX10_nights_27 : decode cX10_nights 27 = .ok (.goto 4, 3) := by decide +kernel
theorem dX10_nights_30 : decode cX10_nights 30 = .ok (.iconst 0, 1) := by decide +kernel
theorem dX10_nights_31 : decode cX10_nights 31 = .ok (.iconst 1, 1) := by decide +kernel
theorem dX10_nights_32 : decode cX10_nights 32 = .ok (.iconst 1, 1) := by decide +kernel
theorem dX10_nights_33 : decode cX10_nights 33 = .ok (.invokevirtual 203, 3) := by decide +kernel
theorem dX10_nights_36 : decode cX10_nights 36 = .ok (.ifCond .ne 5, 3) := by decide +kernel
theorem dX10_nights_39 : decode cX10_nights 39 = .ok (.iconst 0, 1) := by decide +kernel
theorem dX10_nights_40 : decode cX10_nights 40 = .ok (.ireturn, 1) := by decide +kernel
theorem dX10_nights_41 : decode cX10_nights 41 = .ok (.aload_n 0, 1) := by decide +kernel
theorem dX10_nights_42 : decode cX10_nights 42 = .ok (.iload_n 1, 1) := by decide +kernel
theorem dX10_nights_43 : decode cX10_nights 43 = .ok (.iload_n 2, 1) := by decide +kernel
theorem dX10_nights_44 : decode cX10_nights 44 = .ok (.iload_n 3, 1) := by decide +kernel
theorem dX10_nights_45 : decode cX10_nights 45 = .ok (.iload 4, 2) := by decide +kernel
theorem dX10_nights_47 : decode cX10_nights 47 = .ok (.invokevirtual 458, 3) := by decide +kernel
theorem dX10_nights_50 : decode cX10_nights 50 = .ok (.iload 5, 2) := by decide +kernel
theorem dX10_nights_52 : decode cX10_nights 52 = .ok (.ifCond .ne 10, 3) := by decide +kernel
theorem dX10_nights_55 : decode cX10_nights 55 = .ok (.aload_n 0, 1) := by decide +kernel
theorem dX10_nights_56 : decode cX10_nights 56 = .ok (.invokevirtual 462, 3) := by decide +kernel
theorem dX10_nights_59 : decode cX10_nights 59 = .ok (.goto 44, 3) := by decide +kernel
theorem dX10_nights_62 : decode cX10_nights 62 = .ok (.iload 5, 2) := by decide +kernel
theorem dX10_nights_64 : decode cX10_nights 64 = .ok (.iconst 1, 1) := by decide +kernel
theorem dX10_nights_65 : decode cX10_nights 65 = .ok (.if_icmp .ne 21, 3) := by decide +kernel
theorem dX10_nights_68 : decode cX10_nights 68 = .ok (.aload_n 0, 1) := by decide +kernel
theorem dX10_nights_69 : decode cX10_nights 69 = .ok (.getfield 65, 3) := by decide +kernel
theorem dX10_nights_72 : decode cX10_nights 72 = .ok (.bipush 41, 2) := by decide +kernel
theorem dX10_nights_74 : decode cX10_nights 74 = .ok (.iaload, 1) := by decide +kernel
theorem dX10_nights_75 : decode cX10_nights 75 = .ok (.aload_n 0, 1) := by decide +kernel
theorem dX10_nights_76 : decode cX10_nights 76 = .ok (.getfield 62, 3) := by decide +kernel
theorem dX10_nights_79 : decode cX10_nights 79 = .ok (.bipush 41, 2) := by decide +kernel
theorem dX10_nights_81 : decode cX10_nights 81 = .ok (.iaload, 1) := by decide +kernel
theorem dX10_nights_82 : decode cX10_nights 82 = .ok (.isub, 1) := by decide +kernel
theorem dX10_nights_83 : decode cX10_nights 83 = .ok (.goto 20, 3) := by decide +kernel
theorem dX10_nights_86 : decode cX10_nights 86 = .ok (.iload 5, 2) := by decide +kernel
theorem dX10_nights_88 : decode cX10_nights 88 = .ok (.iconst 2, 1) := by decide +kernel
theorem dX10_nights_89 : decode cX10_nights 89 = .ok (.if_icmp .ne 10, 3) := by decide +kernel
theorem dX10_nights_92 : decode cX10_nights 92 = .ok (.aload_n 0, 1) := by decide +kernel
theorem dX10_nights_93 : decode cX10_nights 93 = .ok (.getfield 449, 3) := by decide +kernel
theorem dX10_nights_96 : decode cX10_nights 96 = .ok (.goto 7, 3) := by decide +kernel
theorem dX10_nights_99 : decode cX10_nights 99 = .ok (.aload_n 0, 1) := by decide +kernel
theorem dX10_nights_100 : decode cX10_nights 100 = .ok (.invokevirtual 380, 3) := by decide +kernel
theorem dX10_nights_103 : decode cX10_nights 103 = .ok (.ireturn, 1) := by decide +kernel
theorem dX10_noise_0 : decode cX10_noise 0 = .ok (.aload_n 0, 1) := by decide +kernel
theorem dX10_noise_1 : decode cX10_noise 1 = .ok (.iconst 0, 1) := by decide +kernel
theorem dX10_noise_2 : decode cX10_noise 2 = .ok (.putfield 3, 3) := by decide +kernel
theorem dX10_noise_5 : decode cX10_noise 5 = .ok (.aload_n 0, 1) := by decide +kernel
theorem dX10_noise_6 : decode cX10_noise 6 = .ok (.iload_n 1, 1) := by decide +kernel
theorem dX10_noise_7 : decode cX10_noise 7 = .ok (.iconst 1, 1) := by decide +kernel
theorem dX10_noise_8 : decode cX10_noise 8 = .ok (.invokevirtual 383, 3) := by decide +kernel
theorem dX10_noise_11 : decode cX10_noise 11 = .ok (.ifCond .ne 5, 3) := by decide +kernel
theorem dX10_noise_14 : decode cX10_noise 14 = .ok (.iconst 0, 1) := by decide +kernel
theorem dX10_noise_15 : decode cX10_noise 15 = .ok (.ireturn, 1) := by decide +kernel
theorem dX10_noise_16 : decode cX10_noise 16 = .ok (.aload_n 0, 1) := by decide +kernel
theorem dX10_noise_17 : decode cX10_noise 17 = .ok (.invokevirtual 316, 3) := by decide +kernel
theorem dX10_noise_20 : decode cX10_noise 20 = .ok (.aload_n 0, 1) := by decide +kernel
theorem dX10_noise_21 : decode cX10_noise 21 = .ok (.iload_n 1, 1) := by decide +kernel
theorem dX10_noise_22 : decode cX10_noise 22 = .ok (.invokevirtual 355, 3) := by decide +kernel
theorem dX10_noise_25 : decode cX10_noise 25 = .ok (.ireturn, 1) := by decide +kernel
theorem dX10_noiseOf_0 : decode cX10_noiseOf 0 = .ok (.aload_n 0, 1) := by decide +kernel
theorem dX10_noiseOf_1 : decode cX10_noiseOf 1 = .ok (.getfield 32, 3) := by decide +kernel
theorem dX10_noiseOf_4 : decode cX10_noiseOf 4 = .ok (.aload_n 0, 1) := by decide +kernel
theorem dX10_noiseOf_5 : decode cX10_noiseOf 5 = .ok (.getfield 65, 3) := by decide +kernel
theorem dX10_noiseOf_8 : decode cX10_noiseOf 8 = .ok (.bipush 40, 2) := by decide +kernel
theorem dX10_noiseOf_10 : decode cX10_noiseOf 10 = .ok (.iaload, 1) := by decide +kernel
theorem dX10_noiseOf_11 : decode cX10_noiseOf 11 = .ok (.bipush 60, 2) := by decide +kernel
theorem dX10_noiseOf_13 : decode cX10_noiseOf 13 = .ok (.irem, 1) := by decide +kernel
theorem dX10_noiseOf_14 : decode cX10_noiseOf 14 = .ok (.iaload, 1) := by decide +kernel
theorem dX10_noiseOf_15 : decode cX10_noiseOf 15 = .ok (.aload_n 0, 1) := by decide +kernel
theorem dX10_noiseOf_16 : decode cX10_noiseOf 16 = .ok (.getfield 334, 3) := by decide +kernel
theorem dX10_noiseOf_19 : decode cX10_noiseOf 19 = .ok (.iadd, 1) := by decide +kernel
theorem dX10_noiseOf_20 : decode cX10_noiseOf 20 = .ok (.aload_n 0, 1) := by decide +kernel
theorem dX10_noiseOf_21 : decode cX10_noiseOf 21 = .ok (.getfield 65, 3) := by decide +kernel
theorem dX10_noiseOf_24 : decode cX10_noiseOf 24 = .ok (.bipush 10, 2) := by decide +kernel
theorem dX10_noiseOf_26 : decode cX10_noiseOf 26 = .ok (.iload_n 1, 1) := by decide +kernel
theorem dX10_noiseOf_27 : decode cX10_noiseOf 27 = .ok (.iadd, 1) := by decide +kernel
theorem dX10_noiseOf_28 : decode cX10_noiseOf 28 = .ok (.iaload, 1) := by decide +kernel
theorem dX10_noiseOf_29 : decode cX10_noiseOf 29 = .ok (.isub, 1) := by decide +kernel
theorem dX10_noiseOf_30 : decode cX10_noiseOf 30 = .ok (.istore_n 2, 1) := by decide +kernel
theorem dX10_noiseOf_31 : decode cX10_noiseOf 31 = .ok (.iconst 0, 1) := by decide +kernel
theorem dX10_noiseOf_32 : decode cX10_noiseOf 32 = .ok (.istore_n 3, 1) := by decide +kernel
theorem dX10_noiseOf_33 : decode cX10_noiseOf 33 = .ok (.iload_n 3, 1) := by decide +kernel
theorem dX10_noiseOf_34 : decode cX10_noiseOf 34 = .ok (.aload_n 0, 1) := by decide +kernel
theorem dX10_noiseOf_35 : decode cX10_noiseOf 35 = .ok (.getfield 156, 3) := by decide +kernel
theorem dX10_noiseOf_38 : decode cX10_noiseOf 38 = .ok (.if_icmp .ge 18, 3) := by decide +kernel
theorem dX10_noiseOf_41 : decode cX10_noiseOf 41 = .ok (.iload_n 2, 1) := by decide +kernel
theorem dX10_noiseOf_42 : decode cX10_noiseOf 42 = .ok (.aload_n 0, 1) := by decide +kernel
theorem dX10_noiseOf_43 : decode cX10_noiseOf 43 = .ok (.iload_n 1, 1) := by decide +kernel
theorem dX10_noiseOf_44 : decode cX10_noiseOf 44 = .ok (.iload_n 3, 1) := by decide +kernel
theorem dX10_noiseOf_45 : decode cX10_noiseOf 45 = .ok (.invokevirtual 349, 3) := by decide +kernel
theorem dX10_noiseOf_48 : decode cX10_noiseOf 48 = .ok (.iadd, 1) := by decide +kernel
theorem dX10_noiseOf_49 : decode cX10_noiseOf 49 = .ok (.istore_n 2, 1) := by decide +kernel
theorem dX10_noiseOf_50 : decode cX10_noiseOf 50 = .ok (.iinc 3 1, 3) := by decide +kernel
theorem dX10_noiseOf_53 : decode cX10_noiseOf 53 = .ok (.goto (-20), 3) := by decide +kernel
theorem dX10_noiseOf_56 : decode cX10_noiseOf 56 = .ok (.iload_n 2, 1) := by decide +kernel
theorem dX10_noiseOf_57 : decode cX10_noiseOf 57 = .ok (.ifCond .le 7, 3) := by decide +kernel
theorem dX10_noiseOf_60 : decode cX10_noiseOf 60 = .ok (.iload_n 2, 1) := by decide +kernel
theorem dX10_noiseOf_61 : decode cX10_noiseOf 61 = .ok (.goto 4, 3) := by decide +kernel
theorem dX10_noiseOf_64 : decode cX10_noiseOf 64 = .ok (.iconst 0, 1) := by decide +kernel
theorem dX10_noiseOf_65 : decode cX10_noiseOf 65 = .ok (.ireturn, 1) := by decide +kernel
theorem dX10_nudges_0 : decode cX10_nudges 0 = .ok (.aload_n 0, 1) := by decide +kernel
theorem dX10_nudges_1 : decode cX10_nudges 1 = .ok (.iconst 0, 1) := by decide +kernel
theorem dX10_nudges_2 : decode cX10_nudges 2 = .ok (.putfield 3, 3) := by decide +kernel
theorem dX10_nudges_5 : decode cX10_nudges 5 = .ok (.aload_n 0, 1) := by decide +kernel
theorem dX10_nudges_6 : decode cX10_nudges 6 = .ok (.iload_n 1, 1) := by decide +kernel
theorem dX10_nudges_7 : decode cX10_nudges 7 = .ok (.iconst 1, 1) := by decide +kernel
theorem dX10_nudges_8 : decode cX10_nudges 8 = .ok (.invokevirtual 383, 3) := by decide +kernel
theorem dX10_nudges_11 : decode cX10_nudges 11 = .ok (.ifCond .eq 48, 3) := by decide +kernel
theorem dX10_nudges_14 : decode cX10_nudges 14 = .ok (.aload_n 0, 1) := by decide +kernel
theorem dX10_nudges_15 : decode cX10_nudges 15 = .ok (.iload_n 2, 1) := by decide +kernel
theorem dX10_nudges_16 : decode cX10_nudges 16 = .ok (.iconst 1, 1) := by decide +kernel
theorem dX10_nudges_17 : decode cX10_nudges 17 = .ok (.invokevirtual 383, 3) := by decide +kernel
theorem dX10_nudges_20 : decode cX10_nudges 20 = .ok (.ifCond .eq 39, 3) := by decide +kernel
theorem dX10_nudges_23 : decode cX10_nudges 23 = .ok (.aload_n 0, 1) := by decide +kernel
theorem dX10_nudges_24 : decode cX10_nudges 24 = .ok (.iload_n 1, 1) := by decide +kernel
theorem dX10_nudges_25 : decode cX10_nudges 25 = .ok (.iload_n 2, 1) := by decide +kernel
theorem dX10_nudges_26 : decode cX10_nudges 26 = .ok (.if_icmp .eq 24, 3) := by decide +kernel
theorem dX10_nudges_29 : decode cX10_nudges 29 = .ok (.iload_n 3, 1) := by decide +kernel
theorem dX10_nudges_30 : decode cX10_nudges 30 = .ok (.invokestatic 401, 3) := by decide +kernel
theorem dX10_nudges_33 : decode cX10_nudges 33 = .ok (.ifCond .eq 17, 3) := by decide +kernel
theorem dX10_nudges_36 : decode cX10_nudges 36 = .ok (.iload 4, 2) := by decide +kernel
theorem dX10_nudges_38 : decode cX10_nudges 38 = .ok (.iconst 0, 1) := by decide +kernel
theorem dX10_nudges_39 : decode cX10_nudges 39 = .ok (.iconst 1, 1) := by decide +kernel
theorem dX10_nudges_40 : decode cX10_nudges 40 = .ok (.invokestatic 282, 3) := by decide +kernel
theorem dX10_nudges_43 : decode cX10_nudges 43 = .ok (.ifCond .eq 7, 3) := by decide +kernel
theorem dX10_nudges_46 : decode cX10_nudges 46 = .ok (.iconst 1, 1) := by decide +kernel
theorem dX10_nudges_47 : decode cX10_nudges 47 = .ok (.goto 4, 3) := by decide +kernel
theorem dX10_nudges_50 : decode cX10_nudges 50 = .ok (.iconst 0, 1) := by decide +kernel
theorem dX10_nudges_51 : decode cX10_nudges 51 = .ok (.iconst 2, 1) := by decide +kernel
theorem dX10_nudges_52 : decode cX10_nudges 52 = .ok (.iconst 1, 1) := by decide +kernel
theorem dX10_nudges_53 : decode cX10_nudges 53 = .ok (.invokevirtual 203, 3) := by decide +kernel
theorem dX10_nudges_56 : decode cX10_nudges 56 = .ok (.ifCond .ne 5, 3) := by decide +kernel
theorem dX10_nudges_59 : decode cX10_nudges 59 = .ok (.iconst 0, 1) := by decide +kernel
theorem dX10_nudges_60 : decode cX10_nudges 60 = .ok (.ireturn, 1) := by decide +kernel
theorem dX10_nudges_61 : decode cX10_nudges 61 = .ok (.iconst 0, 1) := by decide +kernel
theorem dX10_nudges_62 : decode cX10_nudges 62 = .ok (.istore 5, 2) := by decide +kernel
theorem dX10_nudges_64 : decode cX10_nudges 64 = .ok (.iconst (-1), 1) := by decide +kernel
theorem dX10_nudges_65 : decode cX10_nudges 65 = .ok (.istore 6, 2) := by decide +kernel
theorem dX10_nudges_67 : decode cX10_nudges 67 = .ok (.iconst 0, 1) := by decide +kernel
theorem dX10_nudges_68 : decode cX10_nudges 68 = .ok (.istore 7, 2) := by decide +kernel
theorem dX10_nudges_70 : decode cX10_nudges 70 = .ok (.iload 7, 2) := by decide +kernel
theorem dX10_nudges_72 : decode cX10_nudges 72 = .ok (.bipush 64, 2) := by decide +kernel
theorem dX10_nudges_74 : decode cX10_nudges 74 = .ok (.if_icmp .ge 108, 3) := by decide +kernel
theorem dX10_nudges_77 : decode cX10_nudges 77 = .ok (.aload_n 0, 1) := by decide +kernel
theorem dX10_nudges_78 : decode cX10_nudges 78 = .ok (.invokevirtual 316, 3) := by decide +kernel
theorem dX10_nudges_81 : decode cX10_nudges 81 = .ok (.iconst 0, 1) := by decide +kernel
theorem dX10_nudges_82 : decode cX10_nudges 82 = .ok (.istore 8, 2) := by decide +kernel
theorem dX10_nudges_84 : decode cX10_nudges 84 = .ok (.iload 8, 2) := by decide +kernel
theorem dX10_nudges_86 : decode cX10_nudges 86 = .ok (.iload_n 3, 1) := by decide +kernel
theorem dX10_nudges_87 : decode cX10_nudges 87 = .ok (.if_icmp .ge 52, 3) := by decide +kernel
theorem dX10_nudges_90 : decode cX10_nudges 90 = .ok (.iload 8, 2) := by decide +kernel
theorem dX10_nudges_92 : decode cX10_nudges 92 = .ok (.bipush 6, 2) := by decide +kernel
theorem dX10_nudges_94 : decode cX10_nudges 94 = .ok (.if_icmp .ge 34, 3) := by decide +kernel
theorem dX10_nudges_97 : decode cX10_nudges 97 = .ok (.aload_n 0, 1) := by decide +kernel
theorem dX10_nudges_98 : decode cX10_nudges 98 = .ok (.getfield 65, 3) := by decide +kernel
theorem dX10_nudges_101 : decode cX10_nudges 101 = .ok (.bipush 40, 2) := by decide +kernel
theorem dX10_nudges_103 : decode cX10_nudges 103 = .ok (.iaload, 1) := by decide +kernel
theorem dX10_nudges_104 : decode cX10_nudges 104 = .ok (.sipush 240, 3) := by decide +kernel
theorem dX10_nudges_107 : decode cX10_nudges 107 = .ok (.if_icmp .ge 21, 3) := by decide +kernel
theorem dX10_nudges_110 : decode cX10_nudges 110 = .ok (.iload 7, 2) := by decide +kernel
theorem dX10_nudges_112 : decode cX10_nudges 112 = .ok (.iload 8, 2) := by decide +kernel
theorem dX10_nudges_114 : decode cX10_nudges 114 = .ok (.ishr, 1) := by decide +kernel
theorem dX10_nudges_115 : decode cX10_nudges 115 = .ok (.iconst 1, 1) := by decide +kernel
theorem dX10_nudges_116 : decode cX10_nudges 116 = .ok (.iand, 1) := by decide +kernel
theorem dX10_nudges_117 : decode cX10_nudges 117 = .ok (.iconst 1, 1) := by decide +kernel
theorem dX10_nudges_118 : decode cX10_nudges 118 = .ok (.if_icmp .ne 10, 3) := by decide +kernel
theorem dX10_nudges_121 : decode cX10_nudges 121 = .ok (.aload_n 0, 1) := by decide +kernel
theorem dX10_nudges_122 : decode cX10_nudges 122 = .ok (.iload_n 1, 1) := by decide +kernel
theorem dX10_nudges_123 : decode cX10_nudges 123 = .ok (.iload_n 2, 1) := by decide +kernel
theorem dX10_nudges_124 : decode cX10_nudges 124 = .ok (.invokevirtual 374, 3) := by decide +kernel
theorem dX10_nudges_127 : decode cX10_nudges 127 = .ok (.pop, 1) := by decide +kernel
theorem dX10_nudges_128 : decode cX10_nudges 128 = .ok (.aload_n 0, 1) := by decide +kernel
theorem dX10_nudges_129 : decode cX10_nudges 129 = .ok (.invokevirtual 372, 3) := by decide +kernel
theorem dX10_nudges_132 : decode cX10_nudges 132 = .ok (.pop, 1) := by decide +kernel
theorem dX10_nudges_133 : decode cX10_nudges 133 = .ok (.iinc 8 1, 3) := by decide +kernel
theorem dX10_nudges_136 : decode cX10_nudges 136 = .ok (.goto (-52), 3) := by decide +kernel
theorem dX10_nudges_139 : decode cX10_nudges 139 = .ok (.aload_n 0, 1) := by decide +kernel
theorem dX10_nudges_140 : decode cX10_nudges 140 = .ok (.invokevirtual 377, 3) := by decide +kernel
theorem dX10_nudges_143 : decode cX10_nudges 143 = .ok (.istore 8, 2) := by decide +kernel
theorem dX10_nudges_145 : decode cX10_nudges 145 = .ok (.aload_n 0, 1) := by decide +kernel
theorem dX10_nudges_146 : decode cX10_nudges 146 = .ok (.invokevirtual 316, 3) := by decide +kernel
theorem dX10_nudges_149 : decode cX10_nudges 149 = .ok (.iload 8, 2) := by decide +kernel
theorem dX10_nudges_151 : decode cX10_nudges 151 = .ok (.aload_n 0, 1) := by decide +kernel
theorem dX10_nudges_152 : decode cX10_nudges 152 = .ok (.invokevirtual 377, 3) := by decide +kernel
theorem dX10_nudges_155 : decode cX10_nudges 155 = .ok (.isub, 1) := by decide +kernel
theorem dX10_nudges_156 : decode cX10_nudges 156 = .ok (.istore 8, 2) := by decide +kernel
theorem dX10_nudges_158 : decode cX10_nudges 158 = .ok (.iload 8, 2) := by decide +kernel
theorem dX10_nudges_160 : decode cX10_nudges 160 = .ok (.iload 6, 2) := by decide +kernel
theorem dX10_nudges_162 : decode cX10_nudges 162 = .ok (.if_icmp .gt 6, 3) := by decide +kernel
theorem dX10_nudges_165 : decode cX10_nudges 165 = .ok (.goto 11, 3) := by decide +kernel
theorem dX10_nudges_168 : decode cX10_nudges 168 = .ok (.iload 7, 2) := by decide +kernel
theorem dX10_nudges_170 : decode cX10_nudges 170 = .ok (.istore 5, 2) := by decide +kernel
theorem dX10_nudges_172 : decode cX10_nudges 172 = .ok (.iload 8, 2) := by decide +kernel
theorem dX10_nudges_174 : decode cX10_nudges 174 = .ok (.istore 6, 2) := by decide +kernel
theorem dX10_nudges_176 : decode cX10_nudges 176 = .ok (.iinc 7 1, 3) := by decide +kernel
theorem dX10_nudges_179 : decode cX10_nudges 179 = .ok (.goto (-109), 3) := by decide +kernel
theorem dX10_nudges_182 : decode cX10_nudges 182 = .ok (.iload 4, 2) := by decide +kernel
theorem dX10_nudges_184 : decode cX10_nudges 184 = .ok (.ifCond .ne 8, 3) := by decide +kernel
theorem dX10_nudges_187 : decode cX10_nudges 187 = .ok (.iload 6, 2) := by decide +kernel
theorem dX10_nudges_189 : decode cX10_nudges 189 = .ok (.goto 5, 3) := by decide +kernel
theorem dX10_nudges_192 : decode cX10_nudges 192 = .ok (.iload 5, 2) := by decide +kernel
theorem dX10_nudges_194 : decode cX10_nudges 194 = .ok (.ireturn, 1) := by decide +kernel
theorem dX10_nudgesNow_0 : decode cX10_nudgesNow 0 = .ok (.aload_n 0, 1) := by decide +kernel
theorem dX10_nudgesNow_1 : decode cX10_nudgesNow 1 = .ok (.iload_n 1, 1) := by decide +kernel
theorem dX10_nudgesNow_2 : decode cX10_nudgesNow 2 = .ok (.invokevirtual 343, 3) := by decide +kernel
theorem dX10_nudgesNow_5 : decode cX10_nudgesNow 5 = .ok (.ifCond .ne 43, 3) := by decide +kernel
theorem dX10_nudgesNow_8 : decode cX10_nudgesNow 8 = .ok (.aload_n 0, 1) := by decide +kernel
theorem dX10_nudgesNow_9 : decode cX10_nudgesNow 9 = .ok (.iload_n 2, 1) := by decide +kernel
theorem dX10_nudgesNow_10 : decode cX10_nudgesNow 10 = .ok (.invokevirtual 343, 3) := by decide +kernel
theorem dX10_nudgesNow_13 : decode cX10_nudgesNow 13 = .ok (.ifCond .eq 35, 3) := by decide +kernel
theorem dX10_nudgesNow_16 : decode cX10_nudgesNow 16 = .ok (.aload_n 0, 1) := by decide +kernel
theorem dX10_nudgesNow_17 : decode cX10_nudgesNow 17 = .ok (.getfield 65, 3) := by decide +kernel
theorem dX10_nudgesNow_20 : decode cX10_nudgesNow 20 = .ok (.iconst 5, 1) := by decide +kernel
theorem dX10_nudgesNow_21 : decode cX10_nudgesNow 21 = .ok (.iload_n 1, 1) := by decide +kernel
theorem dX10_nudgesNow_22 : decode cX10_nudgesNow 22 = .ok (.iadd, 1) := by decide +kernel
theorem dX10_nudgesNow_23 : decode cX10_nudgesNow 23 = .ok (.iaload, 1) := by decide +kernel
theorem dX10_nudgesNow_24 : decode cX10_nudgesNow 24 = .ok (.aload_n 0, 1) := by decide +kernel
theorem dX10_nudgesNow_25 : decode cX10_nudgesNow 25 = .ok (.getfield 65, 3) := by decide +kernel
theorem dX10_nudgesNow_28 : decode cX10_nudgesNow 28 = .ok (.iconst 5, 1) := by decide +kernel
theorem dX10_nudgesNow_29 : decode cX10_nudgesNow 29 = .ok (.iload_n 2, 1) := by decide +kernel
theorem dX10_nudgesNow_30 : decode cX10_nudgesNow 30 = .ok (.iadd, 1) := by decide +kernel
theorem dX10_nudgesNow_31 : decode cX10_nudgesNow 31 = .ok (.iaload, 1) := by decide +kernel
theorem dX10_nudgesNow_32 : decode cX10_nudgesNow 32 = .ok (.if_icmp .ne 16, 3) := by decide +kernel
theorem dX10_nudgesNow_35 : decode cX10_nudgesNow 35 = .ok (.aload_n 0, 1) := by decide +kernel
theorem dX10_nudgesNow_36 : decode cX10_nudgesNow 36 = .ok (.getfield 65, 3) := by decide +kernel
theorem dX10_nudgesNow_39 : decode cX10_nudgesNow 39 = .ok (.bipush 20, 2) := by decide +kernel
theorem dX10_nudgesNow_41 : decode cX10_nudgesNow 41 = .ok (.iload_n 2, 1) := by decide +kernel
theorem dX10_nudgesNow_42 : decode cX10_nudgesNow 42 = .ok (.iadd, 1) := by decide +kernel
theorem dX10_nudgesNow_43 : decode cX10_nudgesNow 43 = .ok (.iaload, 1) := by decide +kernel
theorem dX10_nudgesNow_44 : decode cX10_nudgesNow 44 = .ok (.iconst 1, 1) := by decide +kernel
theorem dX10_nudgesNow_45 : decode cX10_nudgesNow 45 = .ok (.if_icmp .ne 5, 3) := by decide +kernel
theorem dX10_nudgesNow_48 : decode cX10_nudgesNow 48 = .ok (.iconst 0, 1) := by decide +kernel
theorem dX10_nudgesNow_49 : decode cX10_nudgesNow 49 = .ok (.ireturn, 1) := by decide +kernel
theorem dX10_nudgesNow_50 : decode cX10_nudgesNow 50 = .ok (.aload_n 0, 1) := by decide +kernel
theorem dX10_nudgesNow_51 : decode cX10_nudgesNow 51 = .ok (.getfield 65, 3) := by decide +kernel
theorem dX10_nudgesNow_54 : decode cX10_nudgesNow 54 = .ok (.bipush 15, 2) := by decide +kernel
theorem dX10_nudgesNow_56 : decode cX10_nudgesNow 56 = .ok (.iload_n 2, 1) := by decide +kernel
theorem dX10_nudgesNow_57 : decode cX10_nudgesNow 57 = .ok (.iadd, 1) := by decide +kernel
theorem dX10_nudgesNow_58 : decode cX10_nudgesNow 58 = .ok (.iaload, 1) := by decide +kernel
theorem dX10_nudgesNow_59 : decode cX10_nudgesNow 59 = .ok (.iconst 2, 1) := by decide +kernel
theorem dX10_nudgesNow_60 : decode cX10_nudgesNow 60 = .ok (.if_icmp .gt 10, 3) := by decide +kernel
theorem dX10_nudgesNow_63 : decode cX10_nudgesNow 63 = .ok (.aload_n 0, 1) := by decide +kernel
theorem dX10_nudgesNow_64 : decode cX10_nudgesNow 64 = .ok (.iload_n 2, 1) := by decide +kernel
theorem dX10_nudgesNow_65 : decode cX10_nudgesNow 65 = .ok (.invokevirtual 366, 3) := by decide +kernel
theorem dX10_nudgesNow_68 : decode cX10_nudgesNow 68 = .ok (.iconst 1, 1) := by decide +kernel
theorem dX10_nudgesNow_69 : decode cX10_nudgesNow 69 = .ok (.ireturn, 1) := by decide +kernel
theorem dX10_nudgesNow_70 : decode cX10_nudgesNow 70 = .ok (.aload_n 0, 1) := by decide +kernel
theorem dX10_nudgesNow_71 : decode cX10_nudgesNow 71 = .ok (.getfield 65, 3) := by decide +kernel
theorem dX10_nudgesNow_74 : decode cX10_nudgesNow 74 = .ok (.bipush 15, 2) := by decide +kernel
theorem dX10_nudgesNow_76 : decode cX10_nudgesNow 76 = .ok (.iload_n 2, 1) := by decide +kernel
theorem dX10_nudgesNow_77 : decode cX10_nudgesNow 77 = .ok (.iadd, 1) := by decide +kernel
theorem dX10_nudgesNow_78 : decode cX10_nudgesNow 78 = .ok (.dup2, 1) := by decide +kernel
theorem dX10_nudgesNow_79 : decode cX10_nudgesNow 79 = .ok (.iaload, 1) := by decide +kernel
theorem dX10_nudgesNow_80 : decode cX10_nudgesNow 80 = .ok (.iconst 2, 1) := by decide +kernel
theorem dX10_nudgesNow_81 : decode cX10_nudgesNow 81 = .ok (.isub, 1) := by decide +kernel
theorem dX10_nudgesNow_82 : decode cX10_nudgesNow 82 = .ok (.iastore, 1) := by decide +kernel
theorem dX10_nudgesNow_83 : decode cX10_nudgesNow 83 = .ok (.aload_n 0, 1) := by decide +kernel
theorem dX10_nudgesNow_84 : decode cX10_nudgesNow 84 = .ok (.getfield 65, 3) := by decide +kernel
theorem dX10_nudgesNow_87 : decode cX10_nudgesNow 87 = .ok (.bipush 20, 2) := by decide +kernel
theorem dX10_nudgesNow_89 : decode cX10_nudgesNow 89 = .ok (.iload_n 2, 1) := by decide +kernel
theorem dX10_nudgesNow_90 : decode cX10_nudgesNow 90 = .ok (.iadd, 1) := by decide +kernel
theorem dX10_nudgesNow_91 : decode cX10_nudgesNow 91 = .ok (.iconst 1, 1) := by decide +kernel
theorem dX10_nudgesNow_92 : decode cX10_nudgesNow 92 = .ok (.iastore, 1) := by decide +kernel
theorem dX10_nudgesNow_93 : decode cX10_nudgesNow 93 = .ok (.aload_n 0, 1) := by decide +kernel
theorem dX10_nudgesNow_94 : decode cX10_nudgesNow 94 = .ok (.getfield 65, 3) := by decide +kernel
theorem dX10_nudgesNow_97 : decode cX10_nudgesNow 97 = .ok (.bipush 25, 2) := by decide +kernel
theorem dX10_nudgesNow_99 : decode cX10_nudgesNow 99 = .ok (.iload_n 2, 1) := by decide +kernel
theorem dX10_nudgesNow_100 : decode cX10_nudgesNow 100 = .ok (.iadd, 1) := by decide +kernel
theorem dX10_nudgesNow_101 : decode cX10_nudgesNow 101 = .ok (.iconst 0, 1) := by decide +kernel
theorem dX10_nudgesNow_102 : decode cX10_nudgesNow 102 = .ok (.iastore, 1) := by decide +kernel
theorem dX10_nudgesNow_103 : decode cX10_nudgesNow 103 = .ok (.iconst 1, 1) := by decide +kernel
theorem dX10_nudgesNow_104 : decode cX10_nudgesNow 104 = .ok (.ireturn, 1) := by decide +kernel
