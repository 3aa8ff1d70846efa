theorem d_Mo_counted_56 : decode b_Mo_counted 56 = .ok (.iload 5, 2) := by decide +kernel
theorem d_Mo_counted_58 : decode b_Mo_counted 58 = .ok (.if_icmp .le 8, 3) := by decide +kernel
theorem d_Mo_counted_61 : decode b_Mo_counted 61 = .ok (.iload 4, 2) := by decide +kernel
theorem d_Mo_counted_63 : decode b_Mo_counted 63 = .ok (.goto 5, 3) := by decide +kernel
theorem d_Mo_counted_66 : decode b_Mo_counted 66 = .ok (.iload 5, 2) := by decide +kernel
theorem d_Mo_counted_68 : decode b_Mo_counted 68 = .ok (.ireturn, 1) := by decide +kernel
theorem d_Mo_may_0 : decode b_Mo_may 0 = .ok (.iload_n 3, 1) := by decide +kernel
theorem d_Mo_may_1 : decode b_Mo_may 1 = .ok (.ifCond .lt 28, 3) := by decide +kernel
theorem d_Mo_may_4 : decode b_Mo_may 4 = .ok (.aload_n 0, 1) := by decide +kernel
theorem d_Mo_may_5 : decode b_Mo_may 5 = .ok (.getfield 23, 3) := by decide +kernel
theorem d_Mo_may_8 : decode b_Mo_may 8 = .ok (.bipush 120, 2) := by decide +kernel
theorem d_Mo_may_10 : decode b_Mo_may 10 = .ok (.iload_n 2, 1) := by decide +kernel
theorem d_Mo_may_11 : decode b_Mo_may 11 = .ok (.iadd, 1) := by decide +kernel
theorem d_Mo_may_12 : decode b_Mo_may 12 = .ok (.iaload, 1) := by decide +kernel
theorem d_Mo_may_13 : decode b_Mo_may 13 = .ok (.ifCond .le 20, 3) := by decide +kernel
theorem d_Mo_may_16 : decode b_Mo_may 16 = .ok (.aload_n 0, 1) := by decide +kernel
theorem d_Mo_may_17 : decode b_Mo_may 17 = .ok (.getfield 23, 3) := by decide +kernel
theorem d_Mo_may_20 : decode b_Mo_may 20 = .ok (.iconst 3, 1) := by decide +kernel
theorem d_Mo_may_21 : decode b_Mo_may 21 = .ok (.iload_n 1, 1) := by decide +kernel
theorem d_Mo_may_22 : decode b_Mo_may 22 = .ok (.imul, 1) := by decide +kernel
theorem d_Mo_may_23 : decode b_Mo_may 23 = .ok (.iload_n 3, 1) := by decide +kernel
theorem d_Mo_may_24 : decode b_Mo_may 24 = .ok (.iadd, 1) := by decide +kernel
theorem d_Mo_may_25 : decode b_Mo_may 25 = .ok (.iaload, 1) := by decide +kernel
theorem d_Mo_may_26 : decode b_Mo_may 26 = .ok (.ifCond .le 7, 3) := by decide +kernel
theorem d_Mo_may_29 : decode b_Mo_may 29 = .ok (.iconst 1, 1) := by decide +kernel
theorem d_Mo_may_30 : decode b_Mo_may 30 = .ok (.goto 4, 3) := by decide +kernel
theorem d_Mo_may_33 : decode b_Mo_may 33 = .ok (.iconst 0, 1) := by decide +kernel
theorem d_Mo_may_34 : decode b_Mo_may 34 = .ok (.ireturn, 1) := by decide +kernel
theorem d_Mo_words_0 : decode b_Mo_words 0 = .ok (.aload_n 0, 1) := by decide +kernel
theorem d_Mo_words_1 : decode b_Mo_words 1 = .ok (.getfield 23, 3) := by decide +kernel
theorem d_Mo_words_4 : decode b_Mo_words 4 = .ok (.iload_n 1, 1) := by decide +kernel
theorem d_Mo_words_5 : decode b_Mo_words 5 = .ok (.iaload, 1) := by decide +kernel
theorem d_Mo_words_6 : decode b_Mo_words 6 = .ok (.ifCond .le 7, 3) := by decide +kernel
theorem d_Mo_words_9 : decode b_Mo_words 9 = .ok (.iconst 1, 1) := by decide +kernel
theorem d_Mo_words_10 : decode b_Mo_words 10 = .ok (.goto 4, 3) := by decide +kernel
theorem d_Mo_words_13 : decode b_Mo_words 13 = .ok (.iconst 0, 1) := by decide +kernel
theorem d_Mo_words_14 : decode b_Mo_words 14 = .ok (.aload_n 0, 1) := by decide +kernel
theorem d_Mo_words_15 : decode b_Mo_words 15 = .ok (.getfield 23, 3) := by decide +kernel
theorem d_Mo_words_18 : decode b_Mo_words 18 = .ok (.iload_n 1, 1) := by decide +kernel
theorem d_Mo_words_19 : decode b_Mo_words 19 = .ok (.iconst 1, 1) := by decide +kernel
theorem d_Mo_words_20 : decode b_Mo_words 20 = .ok (.iadd, 1) := by decide +kernel
theorem d_Mo_words_21 : decode b_Mo_words 21 = .ok (.iaload, 1) := by decide +kernel
theorem d_Mo_words_22 : decode b_Mo_words 22 = .ok (.ifCond .le 7, 3) := by decide +kernel
theorem d_Mo_words_25 : decode b_Mo_words 25 = .ok (.iconst 1, 1) := by decide +kernel
theorem d_Mo_words_26 : decode b_Mo_words 26 = .ok (.goto 4, 3) := by decide +kernel
theorem d_Mo_words_29 : decode b_Mo_words 29 = .ok (.iconst 0, 1) := by decide +kernel
theorem d_Mo_words_30 : decode b_Mo_words 30 = .ok (.iadd, 1) := by decide +kernel
theorem d_Mo_words_31 : decode b_Mo_words 31 = .ok (.aload_n 0, 1) := by decide +kernel
theorem d_Mo_words_32 : decode b_Mo_words 32 = .ok (.getfield 23, 3) := by decide +kernel
theorem d_Mo_words_35 : decode b_Mo_words 35 = .ok (.iload_n 1, 1) := by decide +kernel
theorem d_Mo_words_36 : decode b_Mo_words 36 = .ok (.iconst 2, 1) := by decide +kernel
theorem d_Mo_words_37 : decode b_Mo_words 37 = .ok (.iadd, 1) := by decide +kernel
theorem d_Mo_words_38 : decode b_Mo_words 38 = .ok (.iaload, 1) := by decide +kernel
theorem d_Mo_words_39 : decode b_Mo_words 39 = .ok (.ifCond .le 7, 3) := by decide +kernel
theorem d_Mo_words_42 : decode b_Mo_words 42 = .ok (.iconst 1, 1) := by decide +kernel
theorem d_Mo_words_43 : decode b_Mo_words 43 = .ok (.goto 4, 3) := by decide +kernel
theorem d_Mo_words_46 : decode b_Mo_words 46 = .ok (.iconst 0, 1) := by decide +kernel
theorem d_Mo_words_47 : decode b_Mo_words 47 = .ok (.iadd, 1) := by decide +kernel
theorem d_Mo_words_48 : decode b_Mo_words 48 = .ok (.ireturn, 1) := by decide +kernel
theorem d_Mo_cost_0 : decode b_Mo_cost 0 = .ok (.iload_n 2, 1) := by decide +kernel
theorem d_Mo_cost_1 : decode b_Mo_cost 1 = .ok (.ifCond .ge 7, 3) := by decide +kernel
theorem d_Mo_cost_4 : decode b_Mo_cost 4 = .ok (.iconst 0, 1) := by decide +kernel
theorem d_Mo_cost_5 : decode b_Mo_cost 5 = .ok (.goto 13, 3) := by decide +kernel
theorem d_Mo_cost_8 : decode b_Mo_cost 8 = .ok (.aload_n 0, 1) := by decide +kernel
theorem d_Mo_cost_9 : decode b_Mo_cost 9 = .ok (.getfield 45, 3) := by decide +kernel
theorem d_Mo_cost_12 : decode b_Mo_cost 12 = .ok (.iconst 3, 1) := by decide +kernel
theorem d_Mo_cost_13 : decode b_Mo_cost 13 = .ok (.iload_n 1, 1) := by decide +kernel
theorem d_Mo_cost_14 : decode b_Mo_cost 14 = .ok (.imul, 1) := by decide +kernel
theorem d_Mo_cost_15 : decode b_Mo_cost 15 = .ok (.iload_n 2, 1) := by decide +kernel
theorem d_Mo_cost_16 : decode b_Mo_cost 16 = .ok (.iadd, 1) := by decide +kernel
theorem d_Mo_cost_17 : decode b_Mo_cost 17 = .ok (.iaload, 1) := by decide +kernel
theorem d_Mo_cost_18 : decode b_Mo_cost 18 = .ok (.ireturn, 1) := by decide +kernel
theorem d_Mo_turned_0 : decode b_Mo_turned 0 = .ok (.iload_n 0, 1) := by decide +kernel
theorem d_Mo_turned_1 : decode b_Mo_turned 1 = .ok (.ifCond .lt 16, 3) := by decide +kernel
theorem d_Mo_turned_4 : decode b_Mo_turned 4 = .ok (.iload_n 1, 1) := by decide +kernel
theorem d_Mo_turned_5 : decode b_Mo_turned 5 = .ok (.ifCond .lt 12, 3) := by decide +kernel
theorem d_Mo_turned_8 : decode b_Mo_turned 8 = .ok (.iload_n 0, 1) := by decide +kernel
theorem d_Mo_turned_9 : decode b_Mo_turned 9 = .ok (.iload_n 1, 1) := by decide +kernel
theorem d_Mo_turned_10 : decode b_Mo_turned 10 = .ok (.if_icmp .le 7, 3) := by decide +kernel
theorem d_Mo_turned_13 : decode b_Mo_turned 13 = .ok (.iconst 1, 1) := by decide +kernel
theorem d_Mo_turned_14 : decode b_Mo_turned 14 = .ok (.goto 4, 3) := by decide +kernel
theorem d_Mo_turned_17 : decode b_Mo_turned 17 = .ok (.iconst 0, 1) := by decide +kernel
theorem d_Mo_turned_18 : decode b_Mo_turned 18 = .ok (.ireturn, 1) := by decide +kernel
theorem d_Mo_sumBy_0 : decode b_Mo_sumBy 0 = .ok (.iconst 0, 1) := by decide +kernel
theorem d_Mo_sumBy_1 : decode b_Mo_sumBy 1 = .ok (.istore_n 3, 1) := by decide +kernel
theorem d_Mo_sumBy_2 : decode b_Mo_sumBy 2 = .ok (.iload_n 3, 1) := by decide +kernel
theorem d_Mo_sumBy_3 : decode b_Mo_sumBy 3 = .ok (.bipush 9, 2) := by decide +kernel
theorem d_Mo_sumBy_5 : decode b_Mo_sumBy 5 = .ok (.if_icmp .ge 101, 3) := by decide +kernel
theorem d_Mo_sumBy_8 : decode b_Mo_sumBy 8 = .ok (.aload_n 0, 1) := by decide +kernel
theorem d_Mo_sumBy_9 : decode b_Mo_sumBy 9 = .ok (.getfield 23, 3) := by decide +kernel
theorem d_Mo_sumBy_12 : decode b_Mo_sumBy 12 = .ok (.bipush 120, 2) := by decide +kernel
theorem d_Mo_sumBy_14 : decode b_Mo_sumBy 14 = .ok (.iload_n 3, 1) := by decide +kernel
theorem d_Mo_sumBy_15 : decode b_Mo_sumBy 15 = .ok (.iconst 3, 1) := by decide +kernel
theorem d_Mo_sumBy_16 : decode b_Mo_sumBy 16 = .ok (.idiv, 1) := by decide +kernel
theorem d_Mo_sumBy_17 : decode b_Mo_sumBy 17 = .ok (.iadd, 1) := by decide +kernel
theorem d_Mo_sumBy_18 : decode b_Mo_sumBy 18 = .ok (.iaload, 1) := by decide +kernel
theorem d_Mo_sumBy_19 : decode b_Mo_sumBy 19 = .ok (.ifCond .le 22, 3) := by decide +kernel
theorem d_Mo_sumBy_22 : decode b_Mo_sumBy 22 = .ok (.aload_n 0, 1) := by decide +kernel
theorem d_Mo_sumBy_23 : decode b_Mo_sumBy 23 = .ok (.getfield 23, 3) := by decide +kernel
theorem d_Mo_sumBy_26 : decode b_Mo_sumBy 26 = .ok (.iconst 3, 1) := by decide +kernel
theorem d_Mo_sumBy_27 : decode b_Mo_sumBy 27 = .ok (.iload_n 1, 1) := by decide +kernel
theorem d_Mo_sumBy_28 : decode b_Mo_sumBy 28 = .ok (.imul, 1) := by decide +kernel
theorem d_Mo_sumBy_29 : decode b_Mo_sumBy 29 = .ok (.iload_n 3, 1) := by decide +kernel
theorem d_Mo_sumBy_30 : decode b_Mo_sumBy 30 = .ok (.iconst 3, 1) := by decide +kernel
theorem d_Mo_sumBy_31 : decode b_Mo_sumBy 31 = .ok (.irem, 1) := by decide +kernel
theorem d_Mo_sumBy_32 : decode b_Mo_sumBy 32 = .ok (.iadd, 1) := by decide +kernel
theorem d_Mo_sumBy_33 : decode b_Mo_sumBy 33 = .ok (.iaload, 1) := by decide +kernel
theorem d_Mo_sumBy_34 : decode b_Mo_sumBy 34 = .ok (.ifCond .le 7, 3) := by decide +kernel
theorem d_Mo_sumBy_37 : decode b_Mo_sumBy 37 = .ok (.iconst 1, 1) := by decide +kernel
theorem d_Mo_sumBy_38 : decode b_Mo_sumBy 38 = .ok (.goto 4, 3) := by decide +kernel
theorem d_Mo_sumBy_41 : decode b_Mo_sumBy 41 = .ok (.iconst 0, 1) := by decide +kernel
theorem d_Mo_sumBy_42 : decode b_Mo_sumBy 42 = .ok (.istore 4, 2) := by decide +kernel
theorem d_Mo_sumBy_44 : decode b_Mo_sumBy 44 = .ok (.aload_n 0, 1) := by decide +kernel
theorem d_Mo_sumBy_45 : decode b_Mo_sumBy 45 = .ok (.getfield 45, 3) := by decide +kernel
theorem d_Mo_sumBy_48 : decode b_Mo_sumBy 48 = .ok (.iload_n 3, 1) := by decide +kernel
theorem d_Mo_sumBy_49 : decode b_Mo_sumBy 49 = .ok (.iload 4, 2) := by decide +kernel
theorem d_Mo_sumBy_51 : decode b_Mo_sumBy 51 = .ok (.ifCond .ne 7, 3) := by decide +kernel
theorem d_Mo_sumBy_54 : decode b_Mo_sumBy 54 = .ok (.iconst 0, 1) := by decide +kernel
theorem d_Mo_sumBy_55 : decode b_Mo_sumBy 55 = .ok (.goto 44, 3) := by decide +kernel
theorem d_Mo_sumBy_58 : decode b_Mo_sumBy 58 = .ok (.iload_n 2, 1) := by decide +kernel
theorem d_Mo_sumBy_59 : decode b_Mo_sumBy 59 = .ok (.ifCond .eq 23, 3) := by decide +kernel
theorem d_Mo_sumBy_62 : decode b_Mo_sumBy 62 = .ok (.aload_n 0, 1) := by decide +kernel
theorem d_Mo_sumBy_63 : decode b_Mo_sumBy 63 = .ok (.bipush 120, 2) := by decide +kernel
theorem d_Mo_sumBy_65 : decode b_Mo_sumBy 65 = .ok (.iload_n 3, 1) := by decide +kernel
theorem d_Mo_sumBy_66 : decode b_Mo_sumBy 66 = .ok (.iconst 3, 1) := by decide +kernel
theorem d_Mo_sumBy_67 : decode b_Mo_sumBy 67 = .ok (.idiv, 1) := by decide +kernel
theorem d_Mo_sumBy_68 : decode b_Mo_sumBy 68 = .ok (.iadd, 1) := by decide +kernel
theorem d_Mo_sumBy_69 : decode b_Mo_sumBy 69 = .ok (.iconst 3, 1) := by decide +kernel
theorem d_Mo_sumBy_70 : decode b_Mo_sumBy 70 = .ok (.iload_n 1, 1) := by decide +kernel
theorem d_Mo_sumBy_71 : decode b_Mo_sumBy 71 = .ok (.imul, 1) := by decide +kernel
theorem d_Mo_sumBy_72 : decode b_Mo_sumBy 72 = .ok (.iload_n 3, 1) := by decide +kernel
theorem d_Mo_sumBy_73 : decode b_Mo_sumBy 73 = .ok (.iconst 3, 1) := by decide +kernel
theorem d_Mo_sumBy_74 : decode b_Mo_sumBy 74 = .ok (.irem, 1) := by decide +kernel
theorem d_Mo_sumBy_75 : decode b_Mo_sumBy 75 = .ok (.iadd, 1) := by decide +kernel
theorem d_Mo_sumBy_76 : decode b_Mo_sumBy 76 = .ok (.invokevirtual 83, 3) := by decide +kernel
theorem d_Mo_sumBy_79 : decode b_Mo_sumBy 79 = .ok (.goto 20, 3) := by decide +kernel
theorem d_Mo_sumBy_82 : decode b_Mo_sumBy 82 = .ok (.aload_n 0, 1) := by decide +kernel
theorem d_Mo_sumBy_83 : decode b_Mo_sumBy 83 = .ok (.bipush 120, 2) := by decide +kernel
theorem d_Mo_sumBy_85 : decode b_Mo_sumBy 85 = .ok (.iload_n 3, 1) := by decide +kernel
theorem d_Mo_sumBy_86 : decode b_Mo_sumBy 86 = .ok (.iconst 3, 1) := by decide +kernel
theorem d_Mo_sumBy_87 : decode b_Mo_sumBy 87 = .ok (.idiv, 1) := by decide +kernel
theorem d_Mo_sumBy_88 : decode b_Mo_sumBy 88 = .ok (.iadd, 1) := by decide +kernel
theorem d_Mo_sumBy_89 : decode b_Mo_sumBy 89 = .ok (.iconst 3, 1) := by decide +kernel
theorem d_Mo_sumBy_90 : decode b_Mo_sumBy 90 = .ok (.iload_n 1, 1) := by decide +kernel
theorem d_Mo_sumBy_91 : decode b_Mo_sumBy 91 = .ok (.imul, 1) := by decide +kernel
theorem d_Mo_sumBy_92 : decode b_Mo_sumBy 92 = .ok (.iload_n 3, 1) := by decide +kernel
theorem d_Mo_sumBy_93 : decode b_Mo_sumBy 93 = .ok (.iconst 3, 1) := by decide +kernel
theorem d_Mo_sumBy_94 : decode b_Mo_sumBy 94 = .ok (.irem, 1) := by decide +kernel
theorem d_Mo_sumBy_95 : decode b_Mo_sumBy 95 = .ok (.iadd, 1) := by decide +kernel
theorem d_Mo_sumBy_96 : decode b_Mo_sumBy 96 = .ok (.invokevirtual 86, 3) := by decide +kernel
theorem d_Mo_sumBy_99 : decode b_Mo_sumBy 99 = .ok (.iastore, 1) := by decide +kernel
theorem d_Mo_sumBy_100 : decode b_Mo_sumBy 100 = .ok (.iinc 3 1, 3) := by decide +kernel
theorem d_Mo_sumBy_103 : decode b_Mo_sumBy 103 = .ok (.goto (-101), 3) := by decide +kernel
theorem d_Mo_sumBy_106 : decode b_Mo_sumBy 106 = .ok (.aload_n 0, 1) := by decide +kernel
theorem d_Mo_sumBy_107 : decode b_Mo_sumBy 107 = .ok (.bipush 120, 2) := by decide +kernel
theorem d_Mo_sumBy_109 : decode b_Mo_sumBy 109 = .ok (.invokevirtual 89, 3) := by decide +kernel
theorem d_Mo_sumBy_112 : decode b_Mo_sumBy 112 = .ok (.aload_n 0, 1) := by decide +kernel
theorem d_Mo_sumBy_113 : decode b_Mo_sumBy 113 = .ok (.iconst 3, 1) := by decide +kernel
theorem d_Mo_sumBy_114 : decode b_Mo_sumBy 114 = .ok (.iload_n 1, 1) := by decide +kernel
theorem d_Mo_sumBy_115 : decode b_Mo_sumBy 115 = .ok (.imul, 1) := by decide +kernel
theorem d_Mo_sumBy_116 : decode b_Mo_sumBy 116 = .ok (.invokevirtual 89, 3) := by decide +kernel
theorem d_Mo_sumBy_119 : decode b_Mo_sumBy 119 = .ok (.iadd, 1) := by decide +kernel
theorem d_Mo_sumBy_120 : decode b_Mo_sumBy 120 = .ok (.istore_n 3, 1) := by decide +kernel
theorem d_Mo_sumBy_121 : decode b_Mo_sumBy 121 = .ok (.iconst (-1), 1) := by decide +kernel
theorem d_Mo_sumBy_122 : decode b_Mo_sumBy 122 = .ok (.istore 4, 2) := by decide +kernel
theorem d_Mo_sumBy_124 : decode b_Mo_sumBy 124 = .ok (.iconst 0, 1) := by decide +kernel
theorem d_Mo_sumBy_125 : decode b_Mo_sumBy 125 = .ok (.istore 5, 2) := by decide +kernel
theorem d_Mo_sumBy_127 : decode b_Mo_sumBy 127 = .ok (.iload 5, 2) := by decide +kernel
theorem d_Mo_sumBy_129 : decode b_Mo_sumBy 129 = .ok (.bipush 64, 2) := by decide +kernel
theorem d_Mo_sumBy_131 : decode b_Mo_sumBy 131 = .ok (.if_icmp .ge 256, 3) := by decide +kernel
theorem d_Mo_sumBy_134 : decode b_Mo_sumBy 134 = .ok (.iload 5, 2) := by decide +kernel
theorem d_Mo_sumBy_136 : decode b_Mo_sumBy 136 = .ok (.bipush 16, 2) := by decide +kernel
theorem d_Mo_sumBy_138 : decode b_Mo_sumBy 138 = .ok (.idiv, 1) := by decide +kernel
theorem d_Mo_sumBy_139 : decode b_Mo_sumBy 139 = .ok (.iconst 1, 1) := by decide +kernel
theorem d_Mo_sumBy_140 : decode b_Mo_sumBy 140 = .ok (.isub, 1) := by decide +kernel
theorem d_Mo_sumBy_141 : decode b_Mo_sumBy 141 = .ok (.istore 6, 2) := by decide +kernel
theorem d_Mo_sumBy_143 : decode b_Mo_sumBy 143 = .ok (.iload 5, 2) := by decide +kernel
theorem d_Mo_sumBy_145 : decode b_Mo_sumBy 145 = .ok (.iconst 4, 1) := by decide +kernel
theorem d_Mo_sumBy_146 : decode b_Mo_sumBy 146 = .ok (.idiv, 1) := by decide +kernel
theorem d_Mo_sumBy_147 : decode b_Mo_sumBy 147 = .ok (.iconst 4, 1) := by decide +kernel
theorem d_Mo_sumBy_148 : decode b_Mo_sumBy 148 = .ok (.irem, 1) := by decide +kernel
theorem d_Mo_sumBy_149 : decode b_Mo_sumBy 149 = .ok (.iconst 1, 1) := by decide +kernel
theorem d_Mo_sumBy_150 : decode b_Mo_sumBy 150 = .ok (.isub, 1) := by decide +kernel
theorem d_Mo_sumBy_151 : decode b_Mo_sumBy 151 = .ok (.istore 7, 2) := by decide +kernel
theorem d_Mo_sumBy_153 : decode b_Mo_sumBy 153 = .ok (.iload 5, 2) := by decide +kernel
theorem d_Mo_sumBy_155 : decode b_Mo_sumBy 155 = .ok (.iconst 4, 1) := by decide +kernel
theorem d_Mo_sumBy_156 : decode b_Mo_sumBy 156 = .ok (.irem, 1) := by decide +kernel
theorem d_Mo_sumBy_157 : decode b_Mo_sumBy 157 = .ok (.iconst 1, 1) := by decide +kernel
theorem d_Mo_sumBy_158 : decode b_Mo_sumBy 158 = .ok (.isub, 1) := by decide +kernel
theorem d_Mo_sumBy_159 : decode b_Mo_sumBy 159 = .ok (.istore 8, 2) := by decide +kernel
theorem d_Mo_sumBy_161 : decode b_Mo_sumBy 161 = .ok (.iload 6, 2) := by decide +kernel
theorem d_Mo_sumBy_163 : decode b_Mo_sumBy 163 = .ok (.ifCond .lt 17, 3) := by decide +kernel
theorem d_Mo_sumBy_166 : decode b_Mo_sumBy 166 = .ok (.iload 6, 2) := by decide +kernel
theorem d_Mo_sumBy_168 : decode b_Mo_sumBy 168 = .ok (.iload 7, 2) := by decide +kernel
theorem d_Mo_sumBy_170 : decode b_Mo_sumBy 170 = .ok (.if_icmp .eq 26, 3) := by decide +kernel
theorem d_Mo_sumBy_173 : decode b_Mo_sumBy 173 = .ok (.iload 6, 2) := by decide +kernel
theorem d_Mo_sumBy_175 : decode b_Mo_sumBy 175 = .ok (.iload 8, 2) := by decide +kernel
theorem d_Mo_sumBy_177 : decode b_Mo_sumBy 177 = .ok (.if_icmp .eq 19, 3) := by decide +kernel
theorem d_Mo_sumBy_180 : decode b_Mo_sumBy 180 = .ok (.iload 7, 2) := by decide +kernel
theorem d_Mo_sumBy_182 : decode b_Mo_sumBy 182 = .ok (.ifCond .lt 10, 3) := by decide +kernel
theorem d_Mo_sumBy_185 : decode b_Mo_sumBy 185 = .ok (.iload 7, 2) := by decide +kernel
theorem d_Mo_sumBy_187 : decode b_Mo_sumBy 187 = .ok (.iload 8, 2) := by decide +kernel
theorem d_Mo_sumBy_189 : decode b_Mo_sumBy 189 = .ok (.if_icmp .eq 7, 3) := by decide +kernel
theorem d_Mo_sumBy_192 : decode b_Mo_sumBy 192 = .ok (.iconst 1, 1) := by decide +kernel
theorem d_Mo_sumBy_193 : decode b_Mo_sumBy 193 = .ok (.goto 4, 3) := by decide +kernel
theorem d_Mo_sumBy_196 : decode b_Mo_sumBy 196 = .ok (.iconst 0, 1) := by decide +kernel
theorem d_Mo_sumBy_197 : decode b_Mo_sumBy 197 = .ok (.istore 9, 2) := by decide +kernel
theorem d_Mo_sumBy_199 : decode b_Mo_sumBy 199 = .ok (.iload 9, 2) := by decide +kernel
theorem d_Mo_sumBy_201 : decode b_Mo_sumBy 201 = .ok (.ifCond .eq 180, 3) := by decide +kernel
theorem d_Mo_sumBy_204 : decode b_Mo_sumBy 204 = .ok (.aload_n 0, 1) := by decide +kernel
theorem d_Mo_sumBy_205 : decode b_Mo_sumBy 205 = .ok (.iload_n 1, 1) := by decide +kernel
theorem d_Mo_sumBy_206 : decode b_Mo_sumBy 206 = .ok (.iconst 0, 1) := by decide +kernel
theorem d_Mo_sumBy_207 : decode b_Mo_sumBy 207 = .ok (.iload 6, 2) := by decide +kernel
theorem d_Mo_sumBy_209 : decode b_Mo_sumBy 209 = .ok (.invokevirtual 92, 3) := by decide +kernel
theorem d_Mo_sumBy_212 : decode b_Mo_sumBy 212 = .ok (.ifCond .eq 169, 3) := by decide +kernel
theorem d_Mo_sumBy_215 : decode b_Mo_sumBy 215 = .ok (.aload_n 0, 1) := by decide +kernel
theorem d_Mo_sumBy_216 : decode b_Mo_sumBy 216 = .ok (.iload_n 1, 1) := by decide +kernel
theorem d_Mo_sumBy_217 : decode b_Mo_sumBy 217 = .ok (.iconst 1, 1) := by decide +kernel
theorem d_Mo_sumBy_218 : decode b_Mo_sumBy 218 = .ok (.iload 7, 2) := by decide +kernel
theorem d_Mo_sumBy_220 : decode b_Mo_sumBy 220 = .ok (.invokevirtual 92, 3) := by decide +kernel
theorem d_Mo_sumBy_223 : decode b_Mo_sumBy 223 = .ok (.ifCond .eq 158, 3) := by decide +kernel
theorem d_Mo_sumBy_226 : decode b_Mo_sumBy 226 = .ok (.aload_n 0, 1) := by decide +kernel
theorem d_Mo_sumBy_227 : decode b_Mo_sumBy 227 = .ok (.iload_n 1, 1) := by decide +kernel
theorem d_Mo_sumBy_228 : decode b_Mo_sumBy 228 = .ok (.iconst 2, 1) := by decide +kernel
theorem d_Mo_sumBy_229 : decode b_Mo_sumBy 229 = .ok (.iload 8, 2) := by decide +kernel
theorem d_Mo_sumBy_231 : decode b_Mo_sumBy 231 = .ok (.invokevirtual 92, 3) := by decide +kernel
theorem d_Mo_sumBy_234 : decode b_Mo_sumBy 234 = .ok (.ifCond .eq 147, 3) := by decide +kernel
theorem d_Mo_sumBy_237 : decode b_Mo_sumBy 237 = .ok (.iload 6, 2) := by decide +kernel
theorem d_Mo_sumBy_239 : decode b_Mo_sumBy 239 = .ok (.ifCond .ge 7, 3) := by decide +kernel
theorem d_Mo_sumBy_242 : decode b_Mo_sumBy 242 = .ok (.iconst 0, 1) := by decide +kernel
theorem d_Mo_sumBy_243 : decode b_Mo_sumBy 243 = .ok (.goto 4, 3) := by decide +kernel
theorem d_Mo_sumBy_246 : decode b_Mo_sumBy 246 = .ok (.iconst 1, 1) := by decide +kernel
theorem d_Mo_sumBy_247 : decode b_Mo_sumBy 247 = .ok (.iload 7, 2) := by decide +kernel
theorem d_Mo_sumBy_249 : decode b_Mo_sumBy 249 = .ok (.ifCond .ge 7, 3) := by decide +kernel
theorem d_Mo_sumBy_252 : decode b_Mo_sumBy 252 = .ok (.iconst 0, 1) := by decide +kernel
theorem d_Mo_sumBy_253 : decode b_Mo_sumBy 253 = .ok (.goto 4, 3) := by decide +kernel
theorem d_Mo_sumBy_256 : decode b_Mo_sumBy 256 = .ok (.iconst 1, 1) := by decide +kernel
theorem d_Mo_sumBy_257 : decode b_Mo_sumBy 257 = .ok (.iadd, 1) := by decide +kernel
theorem d_Mo_sumBy_258 : decode b_Mo_sumBy 258 = .ok (.iload 8, 2) := by decide +kernel
theorem d_Mo_sumBy_260 : decode b_Mo_sumBy 260 = .ok (.ifCond .ge 7, 3) := by decide +kernel
theorem d_Mo_sumBy_263 : decode b_Mo_sumBy 263 = .ok (.iconst 0, 1) := by decide +kernel
theorem d_Mo_sumBy_264 : decode b_Mo_sumBy 264 = .ok (.goto 4, 3) := by decide +kernel
theorem d_Mo_sumBy_267 : decode b_Mo_sumBy 267 = .ok (.iconst 1, 1) := by decide +kernel
theorem d_Mo_sumBy_268 : decode b_Mo_sumBy 268 = .ok (.iadd, 1) := by decide +kernel
theorem d_Mo_sumBy_269 : decode b_Mo_sumBy 269 = .ok (.istore 10, 2) := by decide +kernel
theorem d_Mo_sumBy_271 : decode b_Mo_sumBy 271 = .ok (.aload_n 0, 1) := by decide +kernel
theorem d_Mo_sumBy_272 : decode b_Mo_sumBy 272 = .ok (.iconst 0, 1) := by decide +kernel
theorem d_Mo_sumBy_273 : decode b_Mo_sumBy 273 = .ok (.iload 6, 2) := by decide +kernel
theorem d_Mo_sumBy_275 : decode b_Mo_sumBy 275 = .ok (.invokevirtual 96, 3) := by decide +kernel
theorem d_Mo_sumBy_278 : decode b_Mo_sumBy 278 = .ok (.aload_n 0, 1) := by decide +kernel
theorem d_Mo_sumBy_279 : decode b_Mo_sumBy 279 = .ok (.iconst 1, 1) := by decide +kernel
theorem d_Mo_sumBy_280 : decode b_Mo_sumBy 280 = .ok (.iload 7, 2) := by decide +kernel
theorem d_Mo_sumBy_282 : decode b_Mo_sumBy 282 = .ok (.invokevirtual 96, 3) := by decide +kernel
theorem d_Mo_sumBy_285 : decode b_Mo_sumBy 285 = .ok (.iadd, 1) := by decide +kernel
theorem d_Mo_sumBy_286 : decode b_Mo_sumBy 286 = .ok (.aload_n 0, 1) := by decide +kernel
theorem d_Mo_sumBy_287 : decode b_Mo_sumBy 287 = .ok (.iconst 2, 1) := by decide +kernel
theorem d_Mo_sumBy_288 : decode b_Mo_sumBy 288 = .ok (.iload 8, 2) := by decide +kernel
theorem d_Mo_sumBy_290 : decode b_Mo_sumBy 290 = .ok (.invokevirtual 96, 3) := by decide +kernel
theorem d_Mo_sumBy_293 : decode b_Mo_sumBy 293 = .ok (.iadd, 1) := by decide +kernel
theorem d_Mo_sumBy_294 : decode b_Mo_sumBy 294 = .ok (.aload_n 0, 1) := by decide +kernel
theorem d_Mo_sumBy_295 : decode b_Mo_sumBy 295 = .ok (.getfield 33, 3) := by decide +kernel
theorem d_Mo_sumBy_298 : decode b_Mo_sumBy 298 = .ok (.iconst 4, 1) := by decide +kernel
theorem d_Mo_sumBy_299 : decode b_Mo_sumBy 299 = .ok (.iaload, 1) := by decide +kernel
theorem d_Mo_sumBy_300 : decode b_Mo_sumBy 300 = .ok (.iload_n 3, 1) := by decide +kernel
theorem d_Mo_sumBy_301 : decode b_Mo_sumBy 301 = .ok (.iconst 2, 1) := by decide +kernel
theorem d_Mo_sumBy_302 : decode b_Mo_sumBy 302 = .ok (.iload 10, 2) := by decide +kernel
theorem d_Mo_sumBy_304 : decode b_Mo_sumBy 304 = .ok (.imul, 1) := by decide +kernel
theorem d_Mo_sumBy_305 : decode b_Mo_sumBy 305 = .ok (.isub, 1) := by decide +kernel
theorem d_Mo_sumBy_306 : decode b_Mo_sumBy 306 = .ok (.imul, 1) := by decide +kernel
theorem d_Mo_sumBy_307 : decode b_Mo_sumBy 307 = .ok (.iadd, 1) := by decide +kernel
theorem d_Mo_sumBy_308 : decode b_Mo_sumBy 308 = .ok (.aload_n 0, 1) := by decide +kernel
theorem d_Mo_sumBy_309 : decode b_Mo_sumBy 309 = .ok (.getfield 33, 3) := by decide +kernel
theorem d_Mo_sumBy_312 : decode b_Mo_sumBy 312 = .ok (.iconst 5, 1) := by decide +kernel
theorem d_Mo_sumBy_313 : decode b_Mo_sumBy 313 = .ok (.iaload, 1) := by decide +kernel
theorem d_Mo_sumBy_314 : decode b_Mo_sumBy 314 = .ok (.iload 6, 2) := by decide +kernel
theorem d_Mo_sumBy_316 : decode b_Mo_sumBy 316 = .ok (.iload 7, 2) := by decide +kernel
theorem d_Mo_sumBy_318 : decode b_Mo_sumBy 318 = .ok (.invokestatic 99, 3) := by decide +kernel
theorem d_Mo_sumBy_321 : decode b_Mo_sumBy 321 = .ok (.iload 6, 2) := by decide +kernel
theorem d_Mo_sumBy_323 : decode b_Mo_sumBy 323 = .ok (.iload 8, 2) := by decide +kernel
theorem d_Mo_sumBy_325 : decode b_Mo_sumBy 325 = .ok (.invokestatic 99, 3) := by decide +kernel
theorem d_Mo_sumBy_328 : decode b_Mo_sumBy 328 = .ok (.iadd, 1) := by decide +kernel
theorem d_Mo_sumBy_329 : decode b_Mo_sumBy 329 = .ok (.iload 7, 2) := by decide +kernel
theorem d_Mo_sumBy_331 : decode b_Mo_sumBy 331 = .ok (.iload 8, 2) := by decide +kernel
theorem d_Mo_sumBy_333 : decode b_Mo_sumBy 333 = .ok (.invokestatic 99, 3) := by decide +kernel
theorem d_Mo_sumBy_336 : decode b_Mo_sumBy 336 = .ok (.iadd, 1) := by decide +kernel
theorem d_Mo_sumBy_337 : decode b_Mo_sumBy 337 = .ok (.imul, 1) := by decide +kernel
theorem d_Mo_sumBy_338 : decode b_Mo_sumBy 338 = .ok (.iadd, 1) := by decide +kernel
theorem d_Mo_sumBy_339 : decode b_Mo_sumBy 339 = .ok (.istore 11, 2) := by decide +kernel
theorem d_Mo_sumBy_341 : decode b_Mo_sumBy 341 = .ok (.iload 4, 2) := by decide +kernel
theorem d_Mo_sumBy_343 : decode b_Mo_sumBy 343 = .ok (.ifCond .lt 10, 3) := by decide +kernel
theorem d_Mo_sumBy_346 : decode b_Mo_sumBy 346 = .ok (.iload 11, 2) := by decide +kernel
theorem d_Mo_sumBy_348 : decode b_Mo_sumBy 348 = .ok (.iload 4, 2) := by decide +kernel
theorem d_Mo_sumBy_350 : decode b_Mo_sumBy 350 = .ok (.if_icmp .ge 31, 3) := by decide +kernel
theorem d_Mo_sumBy_353 : decode b_Mo_sumBy 353 = .ok (.iload 11, 2) := by decide +kernel
theorem d_Mo_sumBy_355 : decode b_Mo_sumBy 355 = .ok (.istore 4, 2) := by decide +kernel
theorem d_Mo_sumBy_357 : decode b_Mo_sumBy 357 = .ok (.aload_n 0, 1) := by decide +kernel
theorem d_Mo_sumBy_358 : decode b_Mo_sumBy 358 = .ok (.getfield 48, 3) := by decide +kernel
theorem d_Mo_sumBy_361 : decode b_Mo_sumBy 361 = .ok (.iconst 0, 1) := by decide +kernel
theorem d_Mo_sumBy_362 : decode b_Mo_sumBy 362 = .ok (.iload 6, 2) := by decide +kernel
theorem d_Mo_sumBy_364 : decode b_Mo_sumBy 364 = .ok (.iastore, 1) := by decide +kernel
theorem d_Mo_sumBy_365 : decode b_Mo_sumBy 365 = .ok (.aload_n 0, 1) := by decide +kernel
theorem d_Mo_sumBy_366 : decode b_Mo_sumBy 366 = .ok (.getfield 48, 3) := by decide +kernel
theorem d_Mo_sumBy_369 : decode b_Mo_sumBy 369 = .ok (.iconst 1, 1) := by decide +kernel
theorem d_Mo_sumBy_370 : decode b_Mo_sumBy 370 = .ok (.iload 7, 2) := by decide +kernel
theorem d_Mo_sumBy_372 : decode b_Mo_sumBy 372 = .ok (.iastore, 1) := by decide +kernel
theorem d_Mo_sumBy_373 : decode b_Mo_sumBy 373 = .ok (.aload_n 0, 1) := by decide +kernel
theorem d_Mo_sumBy_374 : decode b_Mo_sumBy 374 = .ok (.getfield 48, 3) := by decide +kernel
theorem d_Mo_sumBy_377 : decode b_Mo_sumBy 377 = .ok (.iconst 2, 1) := by decide +kernel
theorem d_Mo_sumBy_378 : decode b_Mo_sumBy 378 = .ok (.iload 8, 2) := by decide +kernel
theorem d_Mo_sumBy_380 : decode b_Mo_sumBy 380 = .ok (.iastore, 1) := by decide +kernel
theorem d_Mo_sumBy_381 : decode b_Mo_sumBy 381 = .ok (.iinc 5 1, 3) := by decide +kernel
theorem d_Mo_sumBy_384 : decode b_Mo_sumBy 384 = .ok (.goto (-257), 3) := by decide +kernel
theorem d_Mo_sumBy_387 : decode b_Mo_sumBy 387 = .ok (.iload 4, 2) := by decide +kernel
theorem d_Mo_sumBy_389 : decode b_Mo_sumBy 389 = .ok (.ireturn, 1) := by decide +kernel
theorem d_Mo_isAsked_0 : decode b_Mo_isAsked 0 = .ok (.aload_n 0, 1) := by decide +kernel
theorem d_Mo_isAsked_1 : decode b_Mo_isAsked 1 = .ok (.getfield 19, 3) := by decide +kernel
theorem d_Mo_isAsked_4 : decode b_Mo_isAsked 4 = .ok (.iload_n 1, 1) := by decide +kernel
theorem d_Mo_isAsked_5 : decode b_Mo_isAsked 5 = .ok (.baload, 1) := by decide +kernel
theorem d_Mo_isAsked_6 : decode b_Mo_isAsked 6 = .ok (.ifCond .ne 27, 3) := by decide +kernel
theorem d_Mo_isAsked_9 : decode b_Mo_isAsked 9 = .ok (.aload_n 0, 1) := by decide +kernel
theorem d_Mo_isAsked_10 : decode b_Mo_isAsked 10 = .ok (.getfield 29, 3) := by decide +kernel
theorem d_Mo_isAsked_13 : decode b_Mo_isAsked 13 = .ok (.ifCond .lt 16, 3) := by decide +kernel
theorem d_Mo_isAsked_16 : decode b_Mo_isAsked 16 = .ok (.aload_n 0, 1) := by decide +kernel
theorem d_Mo_isAsked_17 : decode b_Mo_isAsked 17 = .ok (.getfield 7, 3) := by decide +kernel
theorem d_Mo_isAsked_20 : decode b_Mo_isAsked 20 = .ok (.iload_n 1, 1) := by decide +kernel
theorem d_Mo_isAsked_21 : decode b_Mo_isAsked 21 = .ok (.iaload, 1) := by decide +kernel
theorem d_Mo_isAsked_22 : decode b_Mo_isAsked 22 = .ok (.aload_n 0, 1) := by decide +kernel
theorem d_Mo_isAsked_23 : decode b_Mo_isAsked 23 = .ok (.getfield 29, 3) := by decide +kernel
theorem d_Mo_isAsked_26 : decode b_Mo_isAsked 26 = .ok (.if_icmp .ne 7, 3) := by decide +kernel
theorem d_Mo_isAsked_29 : decode b_Mo_isAsked 29 = .ok (.iconst 1, 1) := by decide +kernel
theorem d_Mo_isAsked_30 : decode b_Mo_isAsked 30 = .ok (.goto 4, 3) := by decide +kernel
theorem d_Mo_isAsked_33 : decode b_Mo_isAsked 33 = .ok (.iconst 0, 1) := by decide +kernel
theorem d_Mo_isAsked_34 : decode b_Mo_isAsked 34 = .ok (.ireturn, 1) := by decide +kernel
theorem d_Mo_isBefore_0 : decode b_Mo_isBefore 0 = .ok (.aload_n 0, 1) := by decide +kernel
theorem d_Mo_isBefore_1 : decode b_Mo_isBefore 1 = .ok (.getfield 36, 3) := by decide +kernel
theorem d_Mo_isBefore_4 : decode b_Mo_isBefore 4 = .ok (.iload_n 3, 1) := by decide +kernel
theorem d_Mo_isBefore_5 : decode b_Mo_isBefore 5 = .ok (.iaload, 1) := by decide +kernel
theorem d_Mo_isBefore_6 : decode b_Mo_isBefore 6 = .ok (.istore 4, 2) := by decide +kernel
theorem d_Mo_isBefore_8 : decode b_Mo_isBefore 8 = .ok (.iload_n 2, 1) := by decide +kernel
theorem d_Mo_isBefore_9 : decode b_Mo_isBefore 9 = .ok (.aload_n 0, 1) := by decide +kernel
theorem d_Mo_isBefore_10 : decode b_Mo_isBefore 10 = .ok (.getfield 39, 3) := by decide +kernel
theorem d_Mo_isBefore_13 : decode b_Mo_isBefore 13 = .ok (.iload_n 3, 1) := by decide +kernel
theorem d_Mo_isBefore_14 : decode b_Mo_isBefore 14 = .ok (.iaload, 1) := by decide +kernel
theorem d_Mo_isBefore_15 : decode b_Mo_isBefore 15 = .ok (.if_icmp .eq 19, 3) := by decide +kernel
theorem d_Mo_isBefore_18 : decode b_Mo_isBefore 18 = .ok (.iload_n 2, 1) := by decide +kernel
theorem d_Mo_isBefore_19 : decode b_Mo_isBefore 19 = .ok (.aload_n 0, 1) := by decide +kernel
theorem d_Mo_isBefore_20 : decode b_Mo_isBefore 20 = .ok (.getfield 39, 3) := by decide +kernel
theorem d_Mo_isBefore_23 : decode b_Mo_isBefore 23 = .ok (.iload_n 3, 1) := by decide +kernel
theorem d_Mo_isBefore_24 : decode b_Mo_isBefore 24 = .ok (.iaload, 1) := by decide +kernel
theorem d_Mo_isBefore_25 : decode b_Mo_isBefore 25 = .ok (.if_icmp .ge 7, 3) := by decide +kernel
theorem d_Mo_isBefore_28 : decode b_Mo_isBefore 28 = .ok (.iconst 1, 1) := by decide +kernel
theorem d_Mo_isBefore_29 : decode b_Mo_isBefore 29 = .ok (.goto 4, 3) := by decide +kernel
theorem d_Mo_isBefore_32 : decode b_Mo_isBefore 32 = .ok (.iconst 0, 1) := by decide +kernel
theorem d_Mo_isBefore_33 : decode b_Mo_isBefore 33 = .ok (.ireturn, 1) := by decide +kernel
theorem d_Mo_isBefore_34 : decode b_Mo_isBefore 34 = .ok (.aload_n 0, 1) := by decide +kernel
theorem d_Mo_isBefore_35 : decode b_Mo_isBefore 35 = .ok (.getfield 13, 3) := by decide +kernel
theorem d_Mo_isBefore_38 : decode b_Mo_isBefore 38 = .ok (.iload_n 1, 1) := by decide +kernel
theorem d_Mo_isBefore_39 : decode b_Mo_isBefore 39 = .ok (.iaload, 1) := by decide +kernel
theorem d_Mo_isBefore_40 : decode b_Mo_isBefore 40 = .ok (.aload_n 0, 1) := by decide +kernel
theorem d_Mo_isBefore_41 : decode b_Mo_isBefore 41 = .ok (.getfield 13, 3) := by decide +kernel
theorem d_Mo_isBefore_44 : decode b_Mo_isBefore 44 = .ok (.iload 4, 2) := by decide +kernel
theorem d_Mo_isBefore_46 : decode b_Mo_isBefore 46 = .ok (.iaload, 1) := by decide +kernel
theorem d_Mo_isBefore_47 : decode b_Mo_isBefore 47 = .ok (.if_icmp .eq 27, 3) := by decide +kernel
theorem d_Mo_isBefore_50 : decode b_Mo_isBefore 50 = .ok (.aload_n 0, 1) := by decide +kernel
theorem d_Mo_isBefore_51 : decode b_Mo_isBefore 51 = .ok (.getfield 13, 3) := by decide +kernel
theorem d_Mo_isBefore_54 : decode b_Mo_isBefore 54 = .ok (.iload_n 1, 1) := by decide +kernel
theorem d_Mo_isBefore_55 : decode b_Mo_isBefore 55 = .ok (.iaload, 1) := by decide +kernel
theorem d_Mo_isBefore_56 : decode b_Mo_isBefore 56 = .ok (.aload_n 0, 1) := by decide +kernel
theorem d_Mo_isBefore_57 : decode b_Mo_isBefore 57 = .ok (.getfield 13, 3) := by decide +kernel
theorem d_Mo_isBefore_60 : decode b_Mo_isBefore 60 = .ok (.iload 4, 2) := by decide +kernel
theorem d_Mo_isBefore_62 : decode b_Mo_isBefore 62 = .ok (.iaload, 1) := by decide +kernel
theorem d_Mo_isBefore_63 : decode b_Mo_isBefore 63 = .ok (.if_icmp .le 7, 3) := by decide +kernel
theorem d_Mo_isBefore_66 : decode b_Mo_isBefore 66 = .ok (.iconst 1, 1) := by decide +kernel
theorem d_Mo_isBefore_67 : decode b_Mo_isBefore 67 = .ok (.goto 18, 3) := by decide +kernel
theorem d_Mo_isBefore_70 : decode b_Mo_isBefore 70 = .ok (.iconst 0, 1) := by decide +kernel
theorem d_Mo_isBefore_71 : decode b_Mo_isBefore 71 = .ok (.goto 14, 3) := by decide +kernel
theorem d_Mo_isBefore_74 : decode b_Mo_isBefore 74 = .ok (.iload_n 1, 1) := by decide +kernel
theorem d_Mo_isBefore_75 : decode b_Mo_isBefore 75 = .ok (.iload 4, 2) := by decide +kernel
theorem d_Mo_isBefore_77 : decode b_Mo_isBefore 77 = .ok (.if_icmp .ge 7, 3) := by decide +kernel
theorem d_Mo_isBefore_80 : decode b_Mo_isBefore 80 = .ok (.iconst 1, 1) := by decide +kernel
theorem d_Mo_isBefore_81 : decode b_Mo_isBefore 81 = .ok (.goto 4, 3) := by decide +kernel
theorem d_Mo_isBefore_84 : decode b_Mo_isBefore 84 = .ok (.iconst 0, 1) := by decide +kernel
theorem d_Mo_isBefore_85 : decode b_Mo_isBefore 85 = .ok (.ireturn, 1) := by decide +kernel
theorem d_Mo_come_0 : decode b_Mo_come 0 = .ok (.aload_n 0, 1) := by decide +kernel
theorem d_Mo_come_1 : decode b_Mo_come 1 = .ok (.getfield 102, 3) := by decide +kernel
theorem d_Mo_come_4 : decode b_Mo_come 4 = .ok (.istore 4, 2) := by decide +kernel
theorem d_Mo_come_6 : decode b_Mo_come 6 = .ok (.iload 4, 2) := by decide +kernel
theorem d_Mo_come_8 : decode b_Mo_come 8 = .ok (.ifCond .le 22, 3) := by decide +kernel
theorem d_Mo_come_11 : decode b_Mo_come 11 = .ok (.aload_n 0, 1) := by decide +kernel
theorem d_Mo_come_12 : decode b_Mo_come 12 = .ok (.iload_n 1, 1) := by decide +kernel
theorem d_Mo_come_13 : decode b_Mo_come 13 = .ok (.iload_n 2, 1) := by decide +kernel
theorem d_Mo_come_14 : decode b_Mo_come 14 = .ok (.iload 4, 2) := by decide +kernel
theorem d_Mo_come_16 : decode b_Mo_come 16 = .ok (.iconst 1, 1) := by decide +kernel
theorem d_Mo_come_17 : decode b_Mo_come 17 = .ok (.isub, 1) := by decide +kernel
theorem d_Mo_come_18 : decode b_Mo_come 18 = .ok (.invokevirtual 105, 3) := by decide +kernel
theorem d_Mo_come_21 : decode b_Mo_come 21 = .ok (.ifCond .eq 9, 3) := by decide +kernel
theorem d_Mo_come_24 : decode b_Mo_come 24 = .ok (.iinc 4 (-1), 3) := by decide +kernel
theorem d_Mo_come_27 : decode b_Mo_come 27 = .ok (.goto (-21), 3) := by decide +kernel
theorem d_Mo_come_30 : decode b_Mo_come 30 = .ok (.iload 4, 2) := by decide +kernel
theorem d_Mo_come_32 : decode b_Mo_come 32 = .ok (.iload_n 3, 1) := by decide +kernel
theorem d_Mo_come_33 : decode b_Mo_come 33 = .ok (.if_icmp .ne 4, 3) := by decide +kernel
theorem d_Mo_come_36 : decode b_Mo_come 36 = .ok (.return_, 1) := by decide +kernel
theorem d_Mo_come_37 : decode b_Mo_come 37 = .ok (.aload_n 0, 1) := by decide +kernel
theorem d_Mo_come_38 : decode b_Mo_come 38 = .ok (.aload_n 0, 1) := by decide +kernel
theorem d_Mo_come_39 : decode b_Mo_come 39 = .ok (.getfield 102, 3) := by decide +kernel
theorem d_Mo_come_42 : decode b_Mo_come 42 = .ok (.iload_n 3, 1) := by decide +kernel
theorem d_Mo_come_43 : decode b_Mo_come 43 = .ok (.if_icmp .ge 12, 3) := by decide +kernel
theorem d_Mo_come_46 : decode b_Mo_come 46 = .ok (.aload_n 0, 1) := by decide +kernel
theorem d_Mo_come_47 : decode b_Mo_come 47 = .ok (.getfield 102, 3) := by decide +kernel
theorem d_Mo_come_50 : decode b_Mo_come 50 = .ok (.iconst 1, 1) := by decide +kernel
theorem d_Mo_come_51 : decode b_Mo_come 51 = .ok (.iadd, 1) := by decide +kernel
theorem d_Mo_come_52 : decode b_Mo_come 52 = .ok (.goto 4, 3) := by decide +kernel
theorem d_Mo_come_55 : decode b_Mo_come 55 = .ok (.iload_n 3, 1) := by decide +kernel
theorem d_Mo_come_56 : decode b_Mo_come 56 = .ok (.putfield 102, 3) := by decide +kernel
theorem d_Mo_come_59 : decode b_Mo_come 59 = .ok (.aload_n 0, 1) := by decide +kernel
theorem d_Mo_come_60 : decode b_Mo_come 60 = .ok (.getfield 102, 3) := by decide +kernel
theorem d_Mo_come_63 : decode b_Mo_come 63 = .ok (.iconst 1, 1) := by decide +kernel
theorem d_Mo_come_64 : decode b_Mo_come 64 = .ok (.isub, 1) := by decide +kernel
theorem d_Mo_come_65 : decode b_Mo_come 65 = .ok (.istore 5, 2) := by decide +kernel
theorem d_Mo_come_67 : decode b_Mo_come 67 = .ok (.iload 5, 2) := by decide +kernel
theorem d_Mo_come_69 : decode b_Mo_come 69 = .ok (.iload 4, 2) := by decide +kernel
theorem d_Mo_come_71 : decode b_Mo_come 71 = .ok (.if_icmp .le 41, 3) := by decide +kernel
theorem d_Mo_come_74 : decode b_Mo_come 74 = .ok (.aload_n 0, 1) := by decide +kernel
theorem d_Mo_come_75 : decode b_Mo_come 75 = .ok (.getfield 36, 3) := by decide +kernel
theorem d_Mo_come_78 : decode b_Mo_come 78 = .ok (.iload 5, 2) := by decide +kernel
theorem d_Mo_come_80 : decode b_Mo_come 80 = .ok (.aload_n 0, 1) := by decide +kernel
theorem d_Mo_come_81 : decode b_Mo_come 81 = .ok (.getfield 36, 3) := by decide +kernel
theorem d_Mo_come_84 : decode b_Mo_come 84 = .ok (.iload 5, 2) := by decide +kernel
theorem d_Mo_come_86 : decode b_Mo_come 86 = .ok (.iconst 1, 1) := by decide +kernel
theorem d_Mo_come_87 : decode b_Mo_come 87 = .ok (.isub, 1) := by decide +kernel
theorem d_Mo_come_88 : decode b_Mo_come 88 = .ok (.iaload, 1) := by decide +kernel
theorem d_Mo_come_89 : decode b_Mo_come 89 = .ok (.iastore, 1) := by decide +kernel
theorem d_Mo_come_90 : decode b_Mo_come 90 = .ok (.aload_n 0, 1) := by decide +kernel
theorem d_Mo_come_91 : decode b_Mo_come 91 = .ok (.getfield 39, 3) := by decide +kernel
theorem d_Mo_come_94 : decode b_Mo_come 94 = .ok (.iload 5, 2) := by decide +kernel
theorem d_Mo_come_96 : decode b_Mo_come 96 = .ok (.aload_n 0, 1) := by decide +kernel
theorem d_Mo_come_97 : decode b_Mo_come 97 = .ok (.getfield 39, 3) := by decide +kernel
theorem d_Mo_come_100 : decode b_Mo_come 100 = .ok (.iload 5, 2) := by decide +kernel
theorem d_Mo_come_102 : decode b_Mo_come 102 = .ok (.iconst 1, 1) := by decide +kernel
theorem d_Mo_come_103 : decode b_Mo_come 103 = .ok (.isub, 1) := by decide +kernel
theorem d_Mo_come_104 : decode b_Mo_come 104 = .ok (.iaload, 1) := by decide +kernel
theorem d_Mo_come_105 : decode b_Mo_come 105 = .ok (.iastore, 1) := by decide +kernel
theorem d_Mo_come_106 : decode b_Mo_come 106 = .ok (.iinc 5 (-1), 3) := by decide +kernel
theorem d_Mo_come_109 : decode b_Mo_come 109 = .ok (.goto (-42), 3) := by decide +kernel
theorem d_Mo_come_112 : decode b_Mo_come 112 = .ok (.aload_n 0, 1) := by decide +kernel
theorem d_Mo_come_113 : decode b_Mo_come 113 = .ok (.getfield 36, 3) := by decide +kernel
theorem d_Mo_come_116 : decode b_Mo_come 116 = .ok (.iload 4, 2) := by decide +kernel
theorem d_Mo_come_118 : decode b_Mo_come 118 = .ok (.iload_n 1, 1) := by decide +kernel
theorem d_Mo_come_119 : decode b_Mo_come 119 = .ok (.iastore, 1) := by decide +kernel
theorem d_Mo_come_120 : decode b_Mo_come 120 = .ok (.aload_n 0, 1) := by decide +kernel
theorem d_Mo_come_121 : decode b_Mo_come 121 = .ok (.getfield 39, 3) := by decide +kernel
theorem d_Mo_come_124 : decode b_Mo_come 124 = .ok (.iload 4, 2) := by decide +kernel
theorem d_Mo_come_126 : decode b_Mo_come 126 = .ok (.iload_n 2, 1) := by decide +kernel
theorem d_Mo_come_127 : decode b_Mo_come 127 = .ok (.iastore, 1) := by decide +kernel
theorem d_Mo_come_128 : decode b_Mo_come 128 = .ok (.return_, 1) := by decide +kernel
theorem d_Mo_look_0 : decode b_Mo_look 0 = .ok (.iload_n 1, 1) := by decide +kernel
theorem d_Mo_look_1 : decode b_Mo_look 1 = .ok (.iconst 1, 1) := by decide +kernel
theorem d_Mo_look_2 : decode b_Mo_look 2 = .ok (.if_icmp .lt 13, 3) := by decide +kernel
theorem d_Mo_look_5 : decode b_Mo_look 5 = .ok (.iload_n 1, 1) := by decide +kernel
theorem d_Mo_look_6 : decode b_Mo_look 6 = .ok (.bipush 40, 2) := by decide +kernel
theorem d_Mo_look_8 : decode b_Mo_look 8 = .ok (.if_icmp .gt 7, 3) := by decide +kernel
theorem d_Mo_look_11 : decode b_Mo_look 11 = .ok (.iload_n 2, 1) := by decide +kernel
theorem d_Mo_look_12 : decode b_Mo_look 12 = .ok (.ifCond .ge 5, 3) := by decide +kernel
theorem d_Mo_look_15 : decode b_Mo_look 15 = .ok (.iconst (-1), 1) := by decide +kernel
theorem d_Mo_look_16 : decode b_Mo_look 16 = .ok (.ireturn, 1) := by decide +kernel
theorem d_Mo_look_17 : decode b_Mo_look 17 = .ok (.aload_n 0, 1) := by decide +kernel
theorem d_Mo_look_18 : decode b_Mo_look 18 = .ok (.iconst 0, 1) := by decide +kernel
theorem d_Mo_look_19 : decode b_Mo_look 19 = .ok (.putfield 102, 3) := by decide +kernel
theorem d_Mo_look_22 : decode b_Mo_look 22 = .ok (.aload_n 0, 1) := by decide +kernel
theorem d_Mo_look_23 : decode b_Mo_look 23 = .ok (.iconst 0, 1) := by decide +kernel
theorem d_Mo_look_24 : decode b_Mo_look 24 = .ok (.putfield 108, 3) := by decide +kernel
theorem d_Mo_look_27 : decode b_Mo_look 27 = .ok (.aload_n 0, 1) := by decide +kernel
theorem d_Mo_look_28 : decode b_Mo_look 28 = .ok (.bipush 120, 2) := by decide +kernel
theorem d_Mo_look_30 : decode b_Mo_look 30 = .ok (.invokevirtual 89, 3) := by decide +kernel
theorem d_Mo_look_33 : decode b_Mo_look 33 = .ok (.ifCond .le 7, 3) := by decide +kernel
theorem d_Mo_look_36 : decode b_Mo_look 36 = .ok (.iconst 1, 1) := by decide +kernel
theorem d_Mo_look_37 : decode b_Mo_look 37 = .ok (.goto 4, 3) := by decide +kernel
theorem d_Mo_look_40 : decode b_Mo_look 40 = .ok (.iconst 0, 1) := by decide +kernel
theorem d_Mo_look_41 : decode b_Mo_look 41 = .ok (.istore 4, 2) := by decide +kernel
theorem d_Mo_look_43 : decode b_Mo_look 43 = .ok (.iconst 0, 1) := by decide +kernel
theorem d_Mo_look_44 : decode b_Mo_look 44 = .ok (.istore 5, 2) := by decide +kernel
theorem d_Mo_look_46 : decode b_Mo_look 46 = .ok (.iload 5, 2) := by decide +kernel
theorem d_Mo_look_48 : decode b_Mo_look 48 = .ok (.aload_n 0, 1) := by decide +kernel
theorem d_Mo_look_49 : decode b_Mo_look 49 = .ok (.getfield 54, 3) := by decide +kernel
theorem d_Mo_look_52 : decode b_Mo_look 52 = .ok (.if_icmp .ge 107, 3) := by decide +kernel
theorem d_Mo_look_55 : decode b_Mo_look 55 = .ok (.iload 4, 2) := by decide +kernel
theorem d_Mo_look_57 : decode b_Mo_look 57 = .ok (.ifCond .eq 102, 3) := by decide +kernel
theorem d_Mo_look_60 : decode b_Mo_look 60 = .ok (.aload_n 0, 1) := by decide +kernel
theorem d_Mo_look_61 : decode b_Mo_look 61 = .ok (.iload 5, 2) := by decide +kernel
theorem d_Mo_look_63 : decode b_Mo_look 63 = .ok (.invokevirtual 111, 3) := by decide +kernel
theorem d_Mo_look_66 : decode b_Mo_look 66 = .ok (.ifCond .eq 87, 3) := by decide +kernel
theorem d_Mo_look_69 : decode b_Mo_look 69 = .ok (.aload_n 0, 1) := by decide +kernel
theorem d_Mo_look_70 : decode b_Mo_look 70 = .ok (.getfield 102, 3) := by decide +kernel
theorem d_Mo_look_73 : decode b_Mo_look 73 = .ok (.iload_n 1, 1) := by decide +kernel
theorem d_Mo_look_74 : decode b_Mo_look 74 = .ok (.if_icmp .ne 26, 3) := by decide +kernel
theorem d_Mo_look_77 : decode b_Mo_look 77 = .ok (.aload_n 0, 1) := by decide +kernel
theorem d_Mo_look_78 : decode b_Mo_look 78 = .ok (.getfield 39, 3) := by decide +kernel
theorem d_Mo_look_81 : decode b_Mo_look 81 = .ok (.iload_n 1, 1) := by decide +kernel
theorem d_Mo_look_82 : decode b_Mo_look 82 = .ok (.iconst 1, 1) := by decide +kernel
theorem d_Mo_look_83 : decode b_Mo_look 83 = .ok (.isub, 1) := by decide +kernel
theorem d_Mo_look_84 : decode b_Mo_look 84 = .ok (.iaload, 1) := by decide +kernel
theorem d_Mo_look_85 : decode b_Mo_look 85 = .ok (.iload_n 2, 1) := by decide +kernel
theorem d_Mo_look_86 : decode b_Mo_look 86 = .ok (.if_icmp .ge 14, 3) := by decide +kernel
theorem d_Mo_look_89 : decode b_Mo_look 89 = .ok (.aload_n 0, 1) := by decide +kernel
theorem d_Mo_look_90 : decode b_Mo_look 90 = .ok (.getfield 39, 3) := by decide +kernel
theorem d_Mo_look_93 : decode b_Mo_look 93 = .ok (.iload_n 1, 1) := by decide +kernel
theorem d_Mo_look_94 : decode b_Mo_look 94 = .ok (.iconst 1, 1) := by decide +kernel
theorem d_Mo_look_95 : decode b_Mo_look 95 = .ok (.isub, 1) := by decide +kernel
theorem d_Mo_look_96 : decode b_Mo_look 96 = .ok (.iaload, 1) := by decide +kernel
theorem d_Mo_look_97 : decode b_Mo_look 97 = .ok (.goto 4, 3) := by decide +kernel
theorem d_Mo_look_100 : decode b_Mo_look 100 = .ok (.iload_n 2, 1) := by decide +kernel
theorem d_Mo_look_101 : decode b_Mo_look 101 = .ok (.istore 6, 2) := by decide +kernel
theorem d_Mo_look_103 : decode b_Mo_look 103 = .ok (.iload_n 3, 1) := by decide +kernel
theorem d_Mo_look_104 : decode b_Mo_look 104 = .ok (.ifCond .eq 15, 3) := by decide +kernel
theorem d_Mo_look_107 : decode b_Mo_look 107 = .ok (.aload_n 0, 1) := by decide +kernel
theorem d_Mo_look_108 : decode b_Mo_look 108 = .ok (.iload 5, 2) := by decide +kernel
theorem d_Mo_look_110 : decode b_Mo_look 110 = .ok (.iconst 1, 1) := by decide +kernel
theorem d_Mo_look_111 : decode b_Mo_look 111 = .ok (.invokevirtual 114, 3) := by decide +kernel
theorem d_Mo_look_114 : decode b_Mo_look 114 = .ok (.iload 6, 2) := by decide +kernel
theorem d_Mo_look_116 : decode b_Mo_look 116 = .ok (.if_icmp .gt 37, 3) := by decide +kernel
theorem d_Mo_look_119 : decode b_Mo_look 119 = .ok (.aload_n 0, 1) := by decide +kernel
theorem d_Mo_look_120 : decode b_Mo_look 120 = .ok (.dup, 1) := by decide +kernel
theorem d_Mo_look_121 : decode b_Mo_look 121 = .ok (.getfield 108, 3) := by decide +kernel
theorem d_Mo_look_124 : decode b_Mo_look 124 = .ok (.iconst 1, 1) := by decide +kernel
theorem d_Mo_look_125 : decode b_Mo_look 125 = .ok (.iadd, 1) := by decide +kernel
theorem d_Mo_look_126 : decode b_Mo_look 126 = .ok (.putfield 108, 3) := by decide +kernel
theorem d_Mo_look_129 : decode b_Mo_look 129 = .ok (.aload_n 0, 1) := by decide +kernel
theorem d_Mo_look_130 : decode b_Mo_look 130 = .ok (.iload 5, 2) := by decide +kernel
theorem d_Mo_look_132 : decode b_Mo_look 132 = .ok (.iconst 0, 1) := by decide +kernel
theorem d_Mo_look_133 : decode b_Mo_look 133 = .ok (.invokevirtual 114, 3) := by decide +kernel
theorem d_Mo_look_136 : decode b_Mo_look 136 = .ok (.istore 7, 2) := by decide +kernel
theorem d_Mo_look_138 : decode b_Mo_look 138 = .ok (.iload 7, 2) := by decide +kernel
theorem d_Mo_look_140 : decode b_Mo_look 140 = .ok (.iload_n 2, 1) := by decide +kernel
theorem d_Mo_look_141 : decode b_Mo_look 141 = .ok (.if_icmp .gt 12, 3) := by decide +kernel
theorem d_Mo_look_144 : decode b_Mo_look 144 = .ok (.aload_n 0, 1) := by decide +kernel
theorem d_Mo_look_145 : decode b_Mo_look 145 = .ok (.iload 5, 2) := by decide +kernel
theorem d_Mo_look_147 : decode b_Mo_look 147 = .ok (.iload 7, 2) := by decide +kernel
theorem d_Mo_look_149 : decode b_Mo_look 149 = .ok (.iload_n 1, 1) := by decide +kernel
theorem d_Mo_look_150 : decode b_Mo_look 150 = .ok (.invokevirtual 118, 3) := by decide +kernel
theorem d_Mo_look_153 : decode b_Mo_look 153 = .ok (.iinc 5 1, 3) := by decide +kernel
theorem d_Mo_look_156 : decode b_Mo_look 156 = .ok (.goto (-110), 3) := by decide +kernel
theorem d_Mo_look_159 : decode b_Mo_look 159 = .ok (.aload_n 0, 1) := by decide +kernel
theorem d_Mo_look_160 : decode b_Mo_look 160 = .ok (.getfield 102, 3) := by decide +kernel
theorem d_Mo_look_163 : decode b_Mo_look 163 = .ok (.ireturn, 1) := by decide +kernel
theorem d_Mo_find_0 : decode b_Mo_find 0 = .ok (.aload_n 0, 1) := by decide +kernel
theorem d_Mo_find_1 : decode b_Mo_find 1 = .ok (.iconst 0, 1) := by decide +kernel
theorem d_Mo_find_2 : decode b_Mo_find 2 = .ok (.putfield 51, 3) := by decide +kernel
theorem d_Mo_find_5 : decode b_Mo_find 5 = .ok (.aload_n 0, 1) := by decide +kernel
theorem d_Mo_find_6 : decode b_Mo_find 6 = .ok (.iload_n 1, 1) := by decide +kernel
theorem d_Mo_find_7 : decode b_Mo_find 7 = .ok (.iload_n 2, 1) := by decide +kernel
theorem d_Mo_find_8 : decode b_Mo_find 8 = .ok (.iconst 1, 1) := by decide +kernel
theorem d_Mo_find_9 : decode b_Mo_find 9 = .ok (.invokevirtual 122, 3) := by decide +kernel
