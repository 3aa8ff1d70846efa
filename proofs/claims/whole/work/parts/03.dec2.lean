theorem d_Mo_init_36 : decode b_Mo_init 36 = .ok (.aload_n 0, 1) := by decide +kernel
theorem d_Mo_init_37 : decode b_Mo_init 37 = .ok (.bipush 123, 2) := by decide +kernel
theorem d_Mo_init_39 : decode b_Mo_init 39 = .ok (.newarray .int, 2) := by decide +kernel
theorem d_Mo_init_41 : decode b_Mo_init 41 = .ok (.putfield 23, 3) := by decide +kernel
theorem d_Mo_init_44 : decode b_Mo_init 44 = .ok (.aload_n 0, 1) := by decide +kernel
theorem d_Mo_init_45 : decode b_Mo_init 45 = .ok (.sipush 1230, 3) := by decide +kernel
theorem d_Mo_init_48 : decode b_Mo_init 48 = .ok (.newarray .int, 2) := by decide +kernel
theorem d_Mo_init_50 : decode b_Mo_init 50 = .ok (.putfield 26, 3) := by decide +kernel
theorem d_Mo_init_53 : decode b_Mo_init 53 = .ok (.aload_n 0, 1) := by decide +kernel
theorem d_Mo_init_54 : decode b_Mo_init 54 = .ok (.iconst (-1), 1) := by decide +kernel
theorem d_Mo_init_55 : decode b_Mo_init 55 = .ok (.putfield 29, 3) := by decide +kernel
theorem d_Mo_init_58 : decode b_Mo_init 58 = .ok (.aload_n 0, 1) := by decide +kernel
theorem d_Mo_init_59 : decode b_Mo_init 59 = .ok (.bipush 6, 2) := by decide +kernel
theorem d_Mo_init_61 : decode b_Mo_init 61 = .ok (.newarray .int, 2) := by decide +kernel
theorem d_Mo_init_63 : decode b_Mo_init 63 = .ok (.putfield 33, 3) := by decide +kernel
theorem d_Mo_init_66 : decode b_Mo_init 66 = .ok (.aload_n 0, 1) := by decide +kernel
theorem d_Mo_init_67 : decode b_Mo_init 67 = .ok (.bipush 40, 2) := by decide +kernel
theorem d_Mo_init_69 : decode b_Mo_init 69 = .ok (.newarray .int, 2) := by decide +kernel
theorem d_Mo_init_71 : decode b_Mo_init 71 = .ok (.putfield 36, 3) := by decide +kernel
theorem d_Mo_init_74 : decode b_Mo_init 74 = .ok (.aload_n 0, 1) := by decide +kernel
theorem d_Mo_init_75 : decode b_Mo_init 75 = .ok (.bipush 40, 2) := by decide +kernel
theorem d_Mo_init_77 : decode b_Mo_init 77 = .ok (.newarray .int, 2) := by decide +kernel
theorem d_Mo_init_79 : decode b_Mo_init 79 = .ok (.putfield 39, 3) := by decide +kernel
theorem d_Mo_init_82 : decode b_Mo_init 82 = .ok (.aload_n 0, 1) := by decide +kernel
theorem d_Mo_init_83 : decode b_Mo_init 83 = .ok (.bipush 121, 2) := by decide +kernel
theorem d_Mo_init_85 : decode b_Mo_init 85 = .ok (.newarray .int, 2) := by decide +kernel
theorem d_Mo_init_87 : decode b_Mo_init 87 = .ok (.putfield 42, 3) := by decide +kernel
theorem d_Mo_init_90 : decode b_Mo_init 90 = .ok (.aload_n 0, 1) := by decide +kernel
theorem d_Mo_init_91 : decode b_Mo_init 91 = .ok (.bipush 9, 2) := by decide +kernel
theorem d_Mo_init_93 : decode b_Mo_init 93 = .ok (.newarray .int, 2) := by decide +kernel
theorem d_Mo_init_95 : decode b_Mo_init 95 = .ok (.putfield 45, 3) := by decide +kernel
theorem d_Mo_init_98 : decode b_Mo_init 98 = .ok (.aload_n 0, 1) := by decide +kernel
theorem d_Mo_init_99 : decode b_Mo_init 99 = .ok (.iconst 3, 1) := by decide +kernel
theorem d_Mo_init_100 : decode b_Mo_init 100 = .ok (.newarray .int, 2) := by decide +kernel
theorem d_Mo_init_102 : decode b_Mo_init 102 = .ok (.putfield 48, 3) := by decide +kernel
theorem d_Mo_init_105 : decode b_Mo_init 105 = .ok (.aload_n 0, 1) := by decide +kernel
theorem d_Mo_init_106 : decode b_Mo_init 106 = .ok (.getfield 33, 3) := by decide +kernel
theorem d_Mo_init_109 : decode b_Mo_init 109 = .ok (.iconst 0, 1) := by decide +kernel
theorem d_Mo_init_110 : decode b_Mo_init 110 = .ok (.bipush 10, 2) := by decide +kernel
theorem d_Mo_init_112 : decode b_Mo_init 112 = .ok (.iastore, 1) := by decide +kernel
theorem d_Mo_init_113 : decode b_Mo_init 113 = .ok (.aload_n 0, 1) := by decide +kernel
theorem d_Mo_init_114 : decode b_Mo_init 114 = .ok (.getfield 33, 3) := by decide +kernel
theorem d_Mo_init_117 : decode b_Mo_init 117 = .ok (.iconst 1, 1) := by decide +kernel
theorem d_Mo_init_118 : decode b_Mo_init 118 = .ok (.bipush 10, 2) := by decide +kernel
theorem d_Mo_init_120 : decode b_Mo_init 120 = .ok (.iastore, 1) := by decide +kernel
theorem d_Mo_init_121 : decode b_Mo_init 121 = .ok (.aload_n 0, 1) := by decide +kernel
theorem d_Mo_init_122 : decode b_Mo_init 122 = .ok (.getfield 33, 3) := by decide +kernel
theorem d_Mo_init_125 : decode b_Mo_init 125 = .ok (.iconst 2, 1) := by decide +kernel
theorem d_Mo_init_126 : decode b_Mo_init 126 = .ok (.bipush 15, 2) := by decide +kernel
theorem d_Mo_init_128 : decode b_Mo_init 128 = .ok (.iastore, 1) := by decide +kernel
theorem d_Mo_init_129 : decode b_Mo_init 129 = .ok (.aload_n 0, 1) := by decide +kernel
theorem d_Mo_init_130 : decode b_Mo_init 130 = .ok (.getfield 33, 3) := by decide +kernel
theorem d_Mo_init_133 : decode b_Mo_init 133 = .ok (.iconst 3, 1) := by decide +kernel
theorem d_Mo_init_134 : decode b_Mo_init 134 = .ok (.iconst 5, 1) := by decide +kernel
theorem d_Mo_init_135 : decode b_Mo_init 135 = .ok (.iastore, 1) := by decide +kernel
theorem d_Mo_init_136 : decode b_Mo_init 136 = .ok (.aload_n 0, 1) := by decide +kernel
theorem d_Mo_init_137 : decode b_Mo_init 137 = .ok (.getfield 33, 3) := by decide +kernel
theorem d_Mo_init_140 : decode b_Mo_init 140 = .ok (.iconst 4, 1) := by decide +kernel
theorem d_Mo_init_141 : decode b_Mo_init 141 = .ok (.bipush 60, 2) := by decide +kernel
theorem d_Mo_init_143 : decode b_Mo_init 143 = .ok (.iastore, 1) := by decide +kernel
theorem d_Mo_init_144 : decode b_Mo_init 144 = .ok (.aload_n 0, 1) := by decide +kernel
theorem d_Mo_init_145 : decode b_Mo_init 145 = .ok (.getfield 33, 3) := by decide +kernel
theorem d_Mo_init_148 : decode b_Mo_init 148 = .ok (.iconst 5, 1) := by decide +kernel
theorem d_Mo_init_149 : decode b_Mo_init 149 = .ok (.bipush 20, 2) := by decide +kernel
theorem d_Mo_init_151 : decode b_Mo_init 151 = .ok (.iastore, 1) := by decide +kernel
theorem d_Mo_init_152 : decode b_Mo_init 152 = .ok (.iconst 0, 1) := by decide +kernel
theorem d_Mo_init_153 : decode b_Mo_init 153 = .ok (.istore_n 1, 1) := by decide +kernel
theorem d_Mo_init_154 : decode b_Mo_init 154 = .ok (.iload_n 1, 1) := by decide +kernel
theorem d_Mo_init_155 : decode b_Mo_init 155 = .ok (.bipush 40, 2) := by decide +kernel
theorem d_Mo_init_157 : decode b_Mo_init 157 = .ok (.if_icmp .ge 16, 3) := by decide +kernel
theorem d_Mo_init_160 : decode b_Mo_init 160 = .ok (.aload_n 0, 1) := by decide +kernel
theorem d_Mo_init_161 : decode b_Mo_init 161 = .ok (.getfield 13, 3) := by decide +kernel
theorem d_Mo_init_164 : decode b_Mo_init 164 = .ok (.iload_n 1, 1) := by decide +kernel
theorem d_Mo_init_165 : decode b_Mo_init 165 = .ok (.iconst (-1), 1) := by decide +kernel
theorem d_Mo_init_166 : decode b_Mo_init 166 = .ok (.iastore, 1) := by decide +kernel
theorem d_Mo_init_167 : decode b_Mo_init 167 = .ok (.iinc 1 1, 3) := by decide +kernel
theorem d_Mo_init_170 : decode b_Mo_init 170 = .ok (.goto (-16), 3) := by decide +kernel
theorem d_Mo_init_173 : decode b_Mo_init 173 = .ok (.return_, 1) := by decide +kernel
theorem d_Mo_thrown_0 : decode b_Mo_thrown 0 = .ok (.aload_n 0, 1) := by decide +kernel
theorem d_Mo_thrown_1 : decode b_Mo_thrown 1 = .ok (.getfield 51, 3) := by decide +kernel
theorem d_Mo_thrown_4 : decode b_Mo_thrown 4 = .ok (.ireturn, 1) := by decide +kernel
theorem d_Mo_isEntry_0 : decode b_Mo_isEntry 0 = .ok (.iload_n 1, 1) := by decide +kernel
theorem d_Mo_isEntry_1 : decode b_Mo_isEntry 1 = .ok (.ifCond .lt 15, 3) := by decide +kernel
theorem d_Mo_isEntry_4 : decode b_Mo_isEntry 4 = .ok (.iload_n 1, 1) := by decide +kernel
theorem d_Mo_isEntry_5 : decode b_Mo_isEntry 5 = .ok (.aload_n 0, 1) := by decide +kernel
theorem d_Mo_isEntry_6 : decode b_Mo_isEntry 6 = .ok (.getfield 54, 3) := by decide +kernel
theorem d_Mo_isEntry_9 : decode b_Mo_isEntry 9 = .ok (.if_icmp .ge 7, 3) := by decide +kernel
theorem d_Mo_isEntry_12 : decode b_Mo_isEntry 12 = .ok (.iconst 1, 1) := by decide +kernel
theorem d_Mo_isEntry_13 : decode b_Mo_isEntry 13 = .ok (.goto 4, 3) := by decide +kernel
theorem d_Mo_isEntry_16 : decode b_Mo_isEntry 16 = .ok (.iconst 0, 1) := by decide +kernel
theorem d_Mo_isEntry_17 : decode b_Mo_isEntry 17 = .ok (.ireturn, 1) := by decide +kernel
theorem d_Mo_isWord_0 : decode b_Mo_isWord 0 = .ok (.iload_n 0, 1) := by decide +kernel
theorem d_Mo_isWord_1 : decode b_Mo_isWord 1 = .ok (.ifCond .lt 12, 3) := by decide +kernel
theorem d_Mo_isWord_4 : decode b_Mo_isWord 4 = .ok (.iload_n 0, 1) := by decide +kernel
theorem d_Mo_isWord_5 : decode b_Mo_isWord 5 = .ok (.iconst 3, 1) := by decide +kernel
theorem d_Mo_isWord_6 : decode b_Mo_isWord 6 = .ok (.if_icmp .ge 7, 3) := by decide +kernel
theorem d_Mo_isWord_9 : decode b_Mo_isWord 9 = .ok (.iconst 1, 1) := by decide +kernel
theorem d_Mo_isWord_10 : decode b_Mo_isWord 10 = .ok (.goto 4, 3) := by decide +kernel
theorem d_Mo_isWord_13 : decode b_Mo_isWord 13 = .ok (.iconst 0, 1) := by decide +kernel
theorem d_Mo_isWord_14 : decode b_Mo_isWord 14 = .ok (.ireturn, 1) := by decide +kernel
theorem d_Mo_entry_0 : decode b_Mo_entry 0 = .ok (.aload_n 0, 1) := by decide +kernel
theorem d_Mo_entry_1 : decode b_Mo_entry 1 = .ok (.iconst 0, 1) := by decide +kernel
theorem d_Mo_entry_2 : decode b_Mo_entry 2 = .ok (.putfield 51, 3) := by decide +kernel
theorem d_Mo_entry_5 : decode b_Mo_entry 5 = .ok (.iload_n 1, 1) := by decide +kernel
theorem d_Mo_entry_6 : decode b_Mo_entry 6 = .ok (.ifCond .lt 19, 3) := by decide +kernel
theorem d_Mo_entry_9 : decode b_Mo_entry 9 = .ok (.iload_n 1, 1) := by decide +kernel
theorem d_Mo_entry_10 : decode b_Mo_entry 10 = .ok (.sipush 999, 3) := by decide +kernel
theorem d_Mo_entry_13 : decode b_Mo_entry 13 = .ok (.if_icmp .gt 12, 3) := by decide +kernel
theorem d_Mo_entry_16 : decode b_Mo_entry 16 = .ok (.aload_n 0, 1) := by decide +kernel
theorem d_Mo_entry_17 : decode b_Mo_entry 17 = .ok (.getfield 54, 3) := by decide +kernel
theorem d_Mo_entry_20 : decode b_Mo_entry 20 = .ok (.bipush 40, 2) := by decide +kernel
theorem d_Mo_entry_22 : decode b_Mo_entry 22 = .ok (.if_icmp .ne 5, 3) := by decide +kernel
theorem d_Mo_entry_25 : decode b_Mo_entry 25 = .ok (.iconst (-1), 1) := by decide +kernel
theorem d_Mo_entry_26 : decode b_Mo_entry 26 = .ok (.ireturn, 1) := by decide +kernel
theorem d_Mo_entry_27 : decode b_Mo_entry 27 = .ok (.aload_n 0, 1) := by decide +kernel
theorem d_Mo_entry_28 : decode b_Mo_entry 28 = .ok (.getfield 7, 3) := by decide +kernel
theorem d_Mo_entry_31 : decode b_Mo_entry 31 = .ok (.aload_n 0, 1) := by decide +kernel
theorem d_Mo_entry_32 : decode b_Mo_entry 32 = .ok (.getfield 54, 3) := by decide +kernel
theorem d_Mo_entry_35 : decode b_Mo_entry 35 = .ok (.iload_n 1, 1) := by decide +kernel
theorem d_Mo_entry_36 : decode b_Mo_entry 36 = .ok (.iastore, 1) := by decide +kernel
theorem d_Mo_entry_37 : decode b_Mo_entry 37 = .ok (.aload_n 0, 1) := by decide +kernel
theorem d_Mo_entry_38 : decode b_Mo_entry 38 = .ok (.dup, 1) := by decide +kernel
theorem d_Mo_entry_39 : decode b_Mo_entry 39 = .ok (.getfield 54, 3) := by decide +kernel
theorem d_Mo_entry_42 : decode b_Mo_entry 42 = .ok (.iconst 1, 1) := by decide +kernel
theorem d_Mo_entry_43 : decode b_Mo_entry 43 = .ok (.iadd, 1) := by decide +kernel
theorem d_Mo_entry_44 : decode b_Mo_entry 44 = .ok (.putfield 54, 3) := by decide +kernel
theorem d_Mo_entry_47 : decode b_Mo_entry 47 = .ok (.aload_n 0, 1) := by decide +kernel
theorem d_Mo_entry_48 : decode b_Mo_entry 48 = .ok (.getfield 54, 3) := by decide +kernel
theorem d_Mo_entry_51 : decode b_Mo_entry 51 = .ok (.iconst 1, 1) := by decide +kernel
theorem d_Mo_entry_52 : decode b_Mo_entry 52 = .ok (.isub, 1) := by decide +kernel
theorem d_Mo_entry_53 : decode b_Mo_entry 53 = .ok (.ireturn, 1) := by decide +kernel
theorem d_Mo_add_0 : decode b_Mo_add 0 = .ok (.iload_n 2, 1) := by decide +kernel
theorem d_Mo_add_1 : decode b_Mo_add 1 = .ok (.ifCond .lt 20, 3) := by decide +kernel
theorem d_Mo_add_4 : decode b_Mo_add 4 = .ok (.iload_n 2, 1) := by decide +kernel
theorem d_Mo_add_5 : decode b_Mo_add 5 = .ok (.bipush 25, 2) := by decide +kernel
theorem d_Mo_add_7 : decode b_Mo_add 7 = .ok (.if_icmp .gt 14, 3) := by decide +kernel
theorem d_Mo_add_10 : decode b_Mo_add 10 = .ok (.aload_n 0, 1) := by decide +kernel
theorem d_Mo_add_11 : decode b_Mo_add 11 = .ok (.getfield 23, 3) := by decide +kernel
theorem d_Mo_add_14 : decode b_Mo_add 14 = .ok (.iload_n 1, 1) := by decide +kernel
theorem d_Mo_add_15 : decode b_Mo_add 15 = .ok (.iaload, 1) := by decide +kernel
theorem d_Mo_add_16 : decode b_Mo_add 16 = .ok (.bipush 10, 2) := by decide +kernel
theorem d_Mo_add_18 : decode b_Mo_add 18 = .ok (.if_icmp .ne 5, 3) := by decide +kernel
theorem d_Mo_add_21 : decode b_Mo_add 21 = .ok (.iconst 0, 1) := by decide +kernel
theorem d_Mo_add_22 : decode b_Mo_add 22 = .ok (.ireturn, 1) := by decide +kernel
theorem d_Mo_add_23 : decode b_Mo_add 23 = .ok (.aload_n 0, 1) := by decide +kernel
theorem d_Mo_add_24 : decode b_Mo_add 24 = .ok (.getfield 26, 3) := by decide +kernel
theorem d_Mo_add_27 : decode b_Mo_add 27 = .ok (.bipush 10, 2) := by decide +kernel
theorem d_Mo_add_29 : decode b_Mo_add 29 = .ok (.iload_n 1, 1) := by decide +kernel
theorem d_Mo_add_30 : decode b_Mo_add 30 = .ok (.imul, 1) := by decide +kernel
theorem d_Mo_add_31 : decode b_Mo_add 31 = .ok (.aload_n 0, 1) := by decide +kernel
theorem d_Mo_add_32 : decode b_Mo_add 32 = .ok (.getfield 23, 3) := by decide +kernel
theorem d_Mo_add_35 : decode b_Mo_add 35 = .ok (.iload_n 1, 1) := by decide +kernel
theorem d_Mo_add_36 : decode b_Mo_add 36 = .ok (.iaload, 1) := by decide +kernel
theorem d_Mo_add_37 : decode b_Mo_add 37 = .ok (.iadd, 1) := by decide +kernel
theorem d_Mo_add_38 : decode b_Mo_add 38 = .ok (.iload_n 2, 1) := by decide +kernel
theorem d_Mo_add_39 : decode b_Mo_add 39 = .ok (.iastore, 1) := by decide +kernel
theorem d_Mo_add_40 : decode b_Mo_add 40 = .ok (.aload_n 0, 1) := by decide +kernel
theorem d_Mo_add_41 : decode b_Mo_add 41 = .ok (.getfield 23, 3) := by decide +kernel
theorem d_Mo_add_44 : decode b_Mo_add 44 = .ok (.iload_n 1, 1) := by decide +kernel
theorem d_Mo_add_45 : decode b_Mo_add 45 = .ok (.dup2, 1) := by decide +kernel
theorem d_Mo_add_46 : decode b_Mo_add 46 = .ok (.iaload, 1) := by decide +kernel
theorem d_Mo_add_47 : decode b_Mo_add 47 = .ok (.iconst 1, 1) := by decide +kernel
theorem d_Mo_add_48 : decode b_Mo_add 48 = .ok (.iadd, 1) := by decide +kernel
theorem d_Mo_add_49 : decode b_Mo_add 49 = .ok (.iastore, 1) := by decide +kernel
theorem d_Mo_add_50 : decode b_Mo_add 50 = .ok (.iconst 1, 1) := by decide +kernel
theorem d_Mo_add_51 : decode b_Mo_add 51 = .ok (.ireturn, 1) := by decide +kernel
theorem d_Mo_letter_0 : decode b_Mo_letter 0 = .ok (.aload_n 0, 1) := by decide +kernel
theorem d_Mo_letter_1 : decode b_Mo_letter 1 = .ok (.iconst 0, 1) := by decide +kernel
theorem d_Mo_letter_2 : decode b_Mo_letter 2 = .ok (.putfield 51, 3) := by decide +kernel
theorem d_Mo_letter_5 : decode b_Mo_letter 5 = .ok (.aload_n 0, 1) := by decide +kernel
theorem d_Mo_letter_6 : decode b_Mo_letter 6 = .ok (.iload_n 1, 1) := by decide +kernel
theorem d_Mo_letter_7 : decode b_Mo_letter 7 = .ok (.invokevirtual 57, 3) := by decide +kernel
theorem d_Mo_letter_10 : decode b_Mo_letter 10 = .ok (.ifCond .eq 27, 3) := by decide +kernel
theorem d_Mo_letter_13 : decode b_Mo_letter 13 = .ok (.iload_n 2, 1) := by decide +kernel
theorem d_Mo_letter_14 : decode b_Mo_letter 14 = .ok (.invokestatic 61, 3) := by decide +kernel
theorem d_Mo_letter_17 : decode b_Mo_letter 17 = .ok (.ifCond .eq 20, 3) := by decide +kernel
theorem d_Mo_letter_20 : decode b_Mo_letter 20 = .ok (.aload_n 0, 1) := by decide +kernel
theorem d_Mo_letter_21 : decode b_Mo_letter 21 = .ok (.iconst 3, 1) := by decide +kernel
theorem d_Mo_letter_22 : decode b_Mo_letter 22 = .ok (.iload_n 1, 1) := by decide +kernel
theorem d_Mo_letter_23 : decode b_Mo_letter 23 = .ok (.imul, 1) := by decide +kernel
theorem d_Mo_letter_24 : decode b_Mo_letter 24 = .ok (.iload_n 2, 1) := by decide +kernel
theorem d_Mo_letter_25 : decode b_Mo_letter 25 = .ok (.iadd, 1) := by decide +kernel
theorem d_Mo_letter_26 : decode b_Mo_letter 26 = .ok (.iload_n 3, 1) := by decide +kernel
theorem d_Mo_letter_27 : decode b_Mo_letter 27 = .ok (.invokevirtual 64, 3) := by decide +kernel
theorem d_Mo_letter_30 : decode b_Mo_letter 30 = .ok (.ifCond .eq 7, 3) := by decide +kernel
theorem d_Mo_letter_33 : decode b_Mo_letter 33 = .ok (.iconst 1, 1) := by decide +kernel
theorem d_Mo_letter_34 : decode b_Mo_letter 34 = .ok (.goto 4, 3) := by decide +kernel
theorem d_Mo_letter_37 : decode b_Mo_letter 37 = .ok (.iconst 0, 1) := by decide +kernel
theorem d_Mo_letter_38 : decode b_Mo_letter 38 = .ok (.ireturn, 1) := by decide +kernel
theorem d_Mo_ask_0 : decode b_Mo_ask 0 = .ok (.aload_n 0, 1) := by decide +kernel
theorem d_Mo_ask_1 : decode b_Mo_ask 1 = .ok (.iconst 0, 1) := by decide +kernel
theorem d_Mo_ask_2 : decode b_Mo_ask 2 = .ok (.putfield 51, 3) := by decide +kernel
theorem d_Mo_ask_5 : decode b_Mo_ask 5 = .ok (.iload_n 1, 1) := by decide +kernel
theorem d_Mo_ask_6 : decode b_Mo_ask 6 = .ok (.invokestatic 61, 3) := by decide +kernel
theorem d_Mo_ask_9 : decode b_Mo_ask 9 = .ok (.ifCond .eq 19, 3) := by decide +kernel
theorem d_Mo_ask_12 : decode b_Mo_ask 12 = .ok (.aload_n 0, 1) := by decide +kernel
theorem d_Mo_ask_13 : decode b_Mo_ask 13 = .ok (.bipush 120, 2) := by decide +kernel
theorem d_Mo_ask_15 : decode b_Mo_ask 15 = .ok (.iload_n 1, 1) := by decide +kernel
theorem d_Mo_ask_16 : decode b_Mo_ask 16 = .ok (.iadd, 1) := by decide +kernel
theorem d_Mo_ask_17 : decode b_Mo_ask 17 = .ok (.iload_n 2, 1) := by decide +kernel
theorem d_Mo_ask_18 : decode b_Mo_ask 18 = .ok (.invokevirtual 64, 3) := by decide +kernel
theorem d_Mo_ask_21 : decode b_Mo_ask 21 = .ok (.ifCond .eq 7, 3) := by decide +kernel
theorem d_Mo_ask_24 : decode b_Mo_ask 24 = .ok (.iconst 1, 1) := by decide +kernel
theorem d_Mo_ask_25 : decode b_Mo_ask 25 = .ok (.goto 4, 3) := by decide +kernel
theorem d_Mo_ask_28 : decode b_Mo_ask 28 = .ok (.iconst 0, 1) := by decide +kernel
theorem d_Mo_ask_29 : decode b_Mo_ask 29 = .ok (.ireturn, 1) := by decide +kernel
theorem d_Mo_asked_0 : decode b_Mo_asked 0 = .ok (.aload_n 0, 1) := by decide +kernel
theorem d_Mo_asked_1 : decode b_Mo_asked 1 = .ok (.iconst 0, 1) := by decide +kernel
theorem d_Mo_asked_2 : decode b_Mo_asked 2 = .ok (.putfield 51, 3) := by decide +kernel
theorem d_Mo_asked_5 : decode b_Mo_asked 5 = .ok (.iload_n 1, 1) := by decide +kernel
theorem d_Mo_asked_6 : decode b_Mo_asked 6 = .ok (.iconst (-1), 1) := by decide +kernel
theorem d_Mo_asked_7 : decode b_Mo_asked 7 = .ok (.if_icmp .lt 10, 3) := by decide +kernel
theorem d_Mo_asked_10 : decode b_Mo_asked 10 = .ok (.iload_n 1, 1) := by decide +kernel
theorem d_Mo_asked_11 : decode b_Mo_asked 11 = .ok (.sipush 999, 3) := by decide +kernel
theorem d_Mo_asked_14 : decode b_Mo_asked 14 = .ok (.if_icmp .le 5, 3) := by decide +kernel
theorem d_Mo_asked_17 : decode b_Mo_asked 17 = .ok (.iconst 0, 1) := by decide +kernel
theorem d_Mo_asked_18 : decode b_Mo_asked 18 = .ok (.ireturn, 1) := by decide +kernel
theorem d_Mo_asked_19 : decode b_Mo_asked 19 = .ok (.aload_n 0, 1) := by decide +kernel
theorem d_Mo_asked_20 : decode b_Mo_asked 20 = .ok (.iload_n 1, 1) := by decide +kernel
theorem d_Mo_asked_21 : decode b_Mo_asked 21 = .ok (.putfield 29, 3) := by decide +kernel
theorem d_Mo_asked_24 : decode b_Mo_asked 24 = .ok (.aload_n 0, 1) := by decide +kernel
theorem d_Mo_asked_25 : decode b_Mo_asked 25 = .ok (.getfield 23, 3) := by decide +kernel
theorem d_Mo_asked_28 : decode b_Mo_asked 28 = .ok (.bipush 120, 2) := by decide +kernel
theorem d_Mo_asked_30 : decode b_Mo_asked 30 = .ok (.iconst 0, 1) := by decide +kernel
theorem d_Mo_asked_31 : decode b_Mo_asked 31 = .ok (.iastore, 1) := by decide +kernel
theorem d_Mo_asked_32 : decode b_Mo_asked 32 = .ok (.aload_n 0, 1) := by decide +kernel
theorem d_Mo_asked_33 : decode b_Mo_asked 33 = .ok (.getfield 23, 3) := by decide +kernel
theorem d_Mo_asked_36 : decode b_Mo_asked 36 = .ok (.bipush 121, 2) := by decide +kernel
theorem d_Mo_asked_38 : decode b_Mo_asked 38 = .ok (.iconst 0, 1) := by decide +kernel
theorem d_Mo_asked_39 : decode b_Mo_asked 39 = .ok (.iastore, 1) := by decide +kernel
theorem d_Mo_asked_40 : decode b_Mo_asked 40 = .ok (.aload_n 0, 1) := by decide +kernel
theorem d_Mo_asked_41 : decode b_Mo_asked 41 = .ok (.getfield 23, 3) := by decide +kernel
theorem d_Mo_asked_44 : decode b_Mo_asked 44 = .ok (.bipush 122, 2) := by decide +kernel
theorem d_Mo_asked_46 : decode b_Mo_asked 46 = .ok (.iconst 0, 1) := by decide +kernel
theorem d_Mo_asked_47 : decode b_Mo_asked 47 = .ok (.iastore, 1) := by decide +kernel
theorem d_Mo_asked_48 : decode b_Mo_asked 48 = .ok (.iconst 1, 1) := by decide +kernel
theorem d_Mo_asked_49 : decode b_Mo_asked 49 = .ok (.ireturn, 1) := by decide +kernel
theorem d_Mo_weight_0 : decode b_Mo_weight 0 = .ok (.aload_n 0, 1) := by decide +kernel
theorem d_Mo_weight_1 : decode b_Mo_weight 1 = .ok (.iconst 0, 1) := by decide +kernel
theorem d_Mo_weight_2 : decode b_Mo_weight 2 = .ok (.putfield 51, 3) := by decide +kernel
theorem d_Mo_weight_5 : decode b_Mo_weight 5 = .ok (.iload_n 1, 1) := by decide +kernel
theorem d_Mo_weight_6 : decode b_Mo_weight 6 = .ok (.ifCond .lt 19, 3) := by decide +kernel
theorem d_Mo_weight_9 : decode b_Mo_weight 9 = .ok (.iload_n 1, 1) := by decide +kernel
theorem d_Mo_weight_10 : decode b_Mo_weight 10 = .ok (.iconst 5, 1) := by decide +kernel
theorem d_Mo_weight_11 : decode b_Mo_weight 11 = .ok (.if_icmp .gt 14, 3) := by decide +kernel
theorem d_Mo_weight_14 : decode b_Mo_weight 14 = .ok (.iload_n 2, 1) := by decide +kernel
theorem d_Mo_weight_15 : decode b_Mo_weight 15 = .ok (.ifCond .lt 10, 3) := by decide +kernel
theorem d_Mo_weight_18 : decode b_Mo_weight 18 = .ok (.iload_n 2, 1) := by decide +kernel
theorem d_Mo_weight_19 : decode b_Mo_weight 19 = .ok (.sipush 1000, 3) := by decide +kernel
theorem d_Mo_weight_22 : decode b_Mo_weight 22 = .ok (.if_icmp .le 5, 3) := by decide +kernel
theorem d_Mo_weight_25 : decode b_Mo_weight 25 = .ok (.iconst (-1), 1) := by decide +kernel
theorem d_Mo_weight_26 : decode b_Mo_weight 26 = .ok (.ireturn, 1) := by decide +kernel
theorem d_Mo_weight_27 : decode b_Mo_weight 27 = .ok (.aload_n 0, 1) := by decide +kernel
theorem d_Mo_weight_28 : decode b_Mo_weight 28 = .ok (.getfield 33, 3) := by decide +kernel
theorem d_Mo_weight_31 : decode b_Mo_weight 31 = .ok (.iload_n 1, 1) := by decide +kernel
theorem d_Mo_weight_32 : decode b_Mo_weight 32 = .ok (.iaload, 1) := by decide +kernel
theorem d_Mo_weight_33 : decode b_Mo_weight 33 = .ok (.istore_n 3, 1) := by decide +kernel
theorem d_Mo_weight_34 : decode b_Mo_weight 34 = .ok (.aload_n 0, 1) := by decide +kernel
theorem d_Mo_weight_35 : decode b_Mo_weight 35 = .ok (.getfield 33, 3) := by decide +kernel
theorem d_Mo_weight_38 : decode b_Mo_weight 38 = .ok (.iload_n 1, 1) := by decide +kernel
theorem d_Mo_weight_39 : decode b_Mo_weight 39 = .ok (.iload_n 2, 1) := by decide +kernel
theorem d_Mo_weight_40 : decode b_Mo_weight 40 = .ok (.iastore, 1) := by decide +kernel
theorem d_Mo_weight_41 : decode b_Mo_weight 41 = .ok (.iload_n 3, 1) := by decide +kernel
theorem d_Mo_weight_42 : decode b_Mo_weight 42 = .ok (.ireturn, 1) := by decide +kernel
theorem d_Mo_lesser_0 : decode b_Mo_lesser 0 = .ok (.iload_n 0, 1) := by decide +kernel
theorem d_Mo_lesser_1 : decode b_Mo_lesser 1 = .ok (.iload_n 1, 1) := by decide +kernel
theorem d_Mo_lesser_2 : decode b_Mo_lesser 2 = .ok (.if_icmp .ge 7, 3) := by decide +kernel
theorem d_Mo_lesser_5 : decode b_Mo_lesser 5 = .ok (.iload_n 0, 1) := by decide +kernel
theorem d_Mo_lesser_6 : decode b_Mo_lesser 6 = .ok (.goto 4, 3) := by decide +kernel
theorem d_Mo_lesser_9 : decode b_Mo_lesser 9 = .ok (.iload_n 1, 1) := by decide +kernel
theorem d_Mo_lesser_10 : decode b_Mo_lesser 10 = .ok (.ireturn, 1) := by decide +kernel
theorem d_Mo_sound_0 : decode b_Mo_sound 0 = .ok (.iload_n 0, 1) := by decide +kernel
theorem d_Mo_sound_1 : decode b_Mo_sound 1 = .ok (.tableswitch 123 1 25 #[115, 117, 119, 123, 115, 117, 123, 123, 117, 117, 123, 121, 121, 123, 115, 117, 123, 117, 119, 123, 115, 123, 117, 123, 117], 115) := by decide +kernel
theorem d_Mo_sound_116 : decode b_Mo_sound 116 = .ok (.iconst 1, 1) := by decide +kernel
theorem d_Mo_sound_117 : decode b_Mo_sound 117 = .ok (.ireturn, 1) := by decide +kernel
theorem d_Mo_sound_118 : decode b_Mo_sound 118 = .ok (.iconst 2, 1) := by decide +kernel
theorem d_Mo_sound_119 : decode b_Mo_sound 119 = .ok (.ireturn, 1) := by decide +kernel
theorem d_Mo_sound_120 : decode b_Mo_sound 120 = .ok (.iconst 3, 1) := by decide +kernel
theorem d_Mo_sound_121 : decode b_Mo_sound 121 = .ok (.ireturn, 1) := by decide +kernel
theorem d_Mo_sound_122 : decode b_Mo_sound 122 = .ok (.iconst 4, 1) := by decide +kernel
theorem d_Mo_sound_123 : decode b_Mo_sound 123 = .ok (.ireturn, 1) := by decide +kernel
theorem d_Mo_sound_124 : decode b_Mo_sound 124 = .ok (.iconst (-1), 1) := by decide +kernel
theorem d_Mo_sound_125 : decode b_Mo_sound 125 = .ok (.iload_n 0, 1) := by decide +kernel
theorem d_Mo_sound_126 : decode b_Mo_sound 126 = .ok (.isub, 1) := by decide +kernel
theorem d_Mo_sound_127 : decode b_Mo_sound 127 = .ok (.ireturn, 1) := by decide +kernel
theorem d_Mo_exchange_0 : decode b_Mo_exchange 0 = .ok (.iload_n 1, 1) := by decide +kernel
theorem d_Mo_exchange_1 : decode b_Mo_exchange 1 = .ok (.iload_n 2, 1) := by decide +kernel
theorem d_Mo_exchange_2 : decode b_Mo_exchange 2 = .ok (.if_icmp .ne 7, 3) := by decide +kernel
theorem d_Mo_exchange_5 : decode b_Mo_exchange 5 = .ok (.iconst 0, 1) := by decide +kernel
theorem d_Mo_exchange_6 : decode b_Mo_exchange 6 = .ok (.goto 38, 3) := by decide +kernel
theorem d_Mo_exchange_9 : decode b_Mo_exchange 9 = .ok (.iload_n 1, 1) := by decide +kernel
theorem d_Mo_exchange_10 : decode b_Mo_exchange 10 = .ok (.invokestatic 68, 3) := by decide +kernel
theorem d_Mo_exchange_13 : decode b_Mo_exchange 13 = .ok (.iload_n 2, 1) := by decide +kernel
theorem d_Mo_exchange_14 : decode b_Mo_exchange 14 = .ok (.invokestatic 68, 3) := by decide +kernel
theorem d_Mo_exchange_17 : decode b_Mo_exchange 17 = .ok (.if_icmp .ne 21, 3) := by decide +kernel
theorem d_Mo_exchange_20 : decode b_Mo_exchange 20 = .ok (.aload_n 0, 1) := by decide +kernel
theorem d_Mo_exchange_21 : decode b_Mo_exchange 21 = .ok (.getfield 33, 3) := by decide +kernel
theorem d_Mo_exchange_24 : decode b_Mo_exchange 24 = .ok (.iconst 2, 1) := by decide +kernel
theorem d_Mo_exchange_25 : decode b_Mo_exchange 25 = .ok (.iaload, 1) := by decide +kernel
theorem d_Mo_exchange_26 : decode b_Mo_exchange 26 = .ok (.aload_n 0, 1) := by decide +kernel
theorem d_Mo_exchange_27 : decode b_Mo_exchange 27 = .ok (.getfield 33, 3) := by decide +kernel
theorem d_Mo_exchange_30 : decode b_Mo_exchange 30 = .ok (.iconst 3, 1) := by decide +kernel
theorem d_Mo_exchange_31 : decode b_Mo_exchange 31 = .ok (.iaload, 1) := by decide +kernel
theorem d_Mo_exchange_32 : decode b_Mo_exchange 32 = .ok (.invokestatic 72, 3) := by decide +kernel
theorem d_Mo_exchange_35 : decode b_Mo_exchange 35 = .ok (.goto 9, 3) := by decide +kernel
theorem d_Mo_exchange_38 : decode b_Mo_exchange 38 = .ok (.aload_n 0, 1) := by decide +kernel
theorem d_Mo_exchange_39 : decode b_Mo_exchange 39 = .ok (.getfield 33, 3) := by decide +kernel
theorem d_Mo_exchange_42 : decode b_Mo_exchange 42 = .ok (.iconst 2, 1) := by decide +kernel
theorem d_Mo_exchange_43 : decode b_Mo_exchange 43 = .ok (.iaload, 1) := by decide +kernel
theorem d_Mo_exchange_44 : decode b_Mo_exchange 44 = .ok (.ireturn, 1) := by decide +kernel
theorem d_Mo_change_0 : decode b_Mo_change 0 = .ok (.iconst 0, 1) := by decide +kernel
theorem d_Mo_change_1 : decode b_Mo_change 1 = .ok (.istore_n 3, 1) := by decide +kernel
theorem d_Mo_change_2 : decode b_Mo_change 2 = .ok (.iload_n 3, 1) := by decide +kernel
theorem d_Mo_change_3 : decode b_Mo_change 3 = .ok (.aload_n 0, 1) := by decide +kernel
theorem d_Mo_change_4 : decode b_Mo_change 4 = .ok (.getfield 23, 3) := by decide +kernel
theorem d_Mo_change_7 : decode b_Mo_change 7 = .ok (.iload_n 1, 1) := by decide +kernel
theorem d_Mo_change_8 : decode b_Mo_change 8 = .ok (.iaload, 1) := by decide +kernel
theorem d_Mo_change_9 : decode b_Mo_change 9 = .ok (.if_icmp .gt 189, 3) := by decide +kernel
theorem d_Mo_change_12 : decode b_Mo_change 12 = .ok (.iconst 0, 1) := by decide +kernel
theorem d_Mo_change_13 : decode b_Mo_change 13 = .ok (.istore 4, 2) := by decide +kernel
theorem d_Mo_change_15 : decode b_Mo_change 15 = .ok (.iload 4, 2) := by decide +kernel
theorem d_Mo_change_17 : decode b_Mo_change 17 = .ok (.aload_n 0, 1) := by decide +kernel
theorem d_Mo_change_18 : decode b_Mo_change 18 = .ok (.getfield 23, 3) := by decide +kernel
theorem d_Mo_change_21 : decode b_Mo_change 21 = .ok (.iload_n 2, 1) := by decide +kernel
theorem d_Mo_change_22 : decode b_Mo_change 22 = .ok (.iaload, 1) := by decide +kernel
theorem d_Mo_change_23 : decode b_Mo_change 23 = .ok (.if_icmp .gt 169, 3) := by decide +kernel
theorem d_Mo_change_26 : decode b_Mo_change 26 = .ok (.iload_n 3, 1) := by decide +kernel
theorem d_Mo_change_27 : decode b_Mo_change 27 = .ok (.ifCond .ne 12, 3) := by decide +kernel
theorem d_Mo_change_30 : decode b_Mo_change 30 = .ok (.iload 4, 2) := by decide +kernel
theorem d_Mo_change_32 : decode b_Mo_change 32 = .ok (.ifCond .ne 7, 3) := by decide +kernel
theorem d_Mo_change_35 : decode b_Mo_change 35 = .ok (.iconst 0, 1) := by decide +kernel
theorem d_Mo_change_36 : decode b_Mo_change 36 = .ok (.goto 5, 3) := by decide +kernel
theorem d_Mo_change_39 : decode b_Mo_change 39 = .ok (.ldc 76, 2) := by decide +kernel
theorem d_Mo_change_41 : decode b_Mo_change 41 = .ok (.istore 5, 2) := by decide +kernel
theorem d_Mo_change_43 : decode b_Mo_change 43 = .ok (.iload_n 3, 1) := by decide +kernel
theorem d_Mo_change_44 : decode b_Mo_change 44 = .ok (.ifCond .le 31, 3) := by decide +kernel
theorem d_Mo_change_47 : decode b_Mo_change 47 = .ok (.iload 5, 2) := by decide +kernel
theorem d_Mo_change_49 : decode b_Mo_change 49 = .ok (.aload_n 0, 1) := by decide +kernel
theorem d_Mo_change_50 : decode b_Mo_change 50 = .ok (.getfield 42, 3) := by decide +kernel
theorem d_Mo_change_53 : decode b_Mo_change 53 = .ok (.bipush 11, 2) := by decide +kernel
theorem d_Mo_change_55 : decode b_Mo_change 55 = .ok (.iload_n 3, 1) := by decide +kernel
theorem d_Mo_change_56 : decode b_Mo_change 56 = .ok (.iconst 1, 1) := by decide +kernel
theorem d_Mo_change_57 : decode b_Mo_change 57 = .ok (.isub, 1) := by decide +kernel
theorem d_Mo_change_58 : decode b_Mo_change 58 = .ok (.imul, 1) := by decide +kernel
theorem d_Mo_change_59 : decode b_Mo_change 59 = .ok (.iload 4, 2) := by decide +kernel
theorem d_Mo_change_61 : decode b_Mo_change 61 = .ok (.iadd, 1) := by decide +kernel
theorem d_Mo_change_62 : decode b_Mo_change 62 = .ok (.iaload, 1) := by decide +kernel
theorem d_Mo_change_63 : decode b_Mo_change 63 = .ok (.aload_n 0, 1) := by decide +kernel
theorem d_Mo_change_64 : decode b_Mo_change 64 = .ok (.getfield 33, 3) := by decide +kernel
theorem d_Mo_change_67 : decode b_Mo_change 67 = .ok (.iconst 1, 1) := by decide +kernel
theorem d_Mo_change_68 : decode b_Mo_change 68 = .ok (.iaload, 1) := by decide +kernel
theorem d_Mo_change_69 : decode b_Mo_change 69 = .ok (.iadd, 1) := by decide +kernel
theorem d_Mo_change_70 : decode b_Mo_change 70 = .ok (.invokestatic 72, 3) := by decide +kernel
theorem d_Mo_change_73 : decode b_Mo_change 73 = .ok (.istore 5, 2) := by decide +kernel
theorem d_Mo_change_75 : decode b_Mo_change 75 = .ok (.iload 4, 2) := by decide +kernel
theorem d_Mo_change_77 : decode b_Mo_change 77 = .ok (.ifCond .le 31, 3) := by decide +kernel
theorem d_Mo_change_80 : decode b_Mo_change 80 = .ok (.iload 5, 2) := by decide +kernel
theorem d_Mo_change_82 : decode b_Mo_change 82 = .ok (.aload_n 0, 1) := by decide +kernel
theorem d_Mo_change_83 : decode b_Mo_change 83 = .ok (.getfield 42, 3) := by decide +kernel
theorem d_Mo_change_86 : decode b_Mo_change 86 = .ok (.bipush 11, 2) := by decide +kernel
theorem d_Mo_change_88 : decode b_Mo_change 88 = .ok (.iload_n 3, 1) := by decide +kernel
theorem d_Mo_change_89 : decode b_Mo_change 89 = .ok (.imul, 1) := by decide +kernel
theorem d_Mo_change_90 : decode b_Mo_change 90 = .ok (.iload 4, 2) := by decide +kernel
theorem d_Mo_change_92 : decode b_Mo_change 92 = .ok (.iadd, 1) := by decide +kernel
theorem d_Mo_change_93 : decode b_Mo_change 93 = .ok (.iconst 1, 1) := by decide +kernel
theorem d_Mo_change_94 : decode b_Mo_change 94 = .ok (.isub, 1) := by decide +kernel
theorem d_Mo_change_95 : decode b_Mo_change 95 = .ok (.iaload, 1) := by decide +kernel
theorem d_Mo_change_96 : decode b_Mo_change 96 = .ok (.aload_n 0, 1) := by decide +kernel
theorem d_Mo_change_97 : decode b_Mo_change 97 = .ok (.getfield 33, 3) := by decide +kernel
theorem d_Mo_change_100 : decode b_Mo_change 100 = .ok (.iconst 0, 1) := by decide +kernel
theorem d_Mo_change_101 : decode b_Mo_change 101 = .ok (.iaload, 1) := by decide +kernel
theorem d_Mo_change_102 : decode b_Mo_change 102 = .ok (.iadd, 1) := by decide +kernel
theorem d_Mo_change_103 : decode b_Mo_change 103 = .ok (.invokestatic 72, 3) := by decide +kernel
theorem d_Mo_change_106 : decode b_Mo_change 106 = .ok (.istore 5, 2) := by decide +kernel
theorem d_Mo_change_108 : decode b_Mo_change 108 = .ok (.iload_n 3, 1) := by decide +kernel
theorem d_Mo_change_109 : decode b_Mo_change 109 = .ok (.ifCond .le 63, 3) := by decide +kernel
theorem d_Mo_change_112 : decode b_Mo_change 112 = .ok (.iload 4, 2) := by decide +kernel
theorem d_Mo_change_114 : decode b_Mo_change 114 = .ok (.ifCond .le 58, 3) := by decide +kernel
theorem d_Mo_change_117 : decode b_Mo_change 117 = .ok (.iload 5, 2) := by decide +kernel
theorem d_Mo_change_119 : decode b_Mo_change 119 = .ok (.aload_n 0, 1) := by decide +kernel
theorem d_Mo_change_120 : decode b_Mo_change 120 = .ok (.getfield 42, 3) := by decide +kernel
theorem d_Mo_change_123 : decode b_Mo_change 123 = .ok (.bipush 11, 2) := by decide +kernel
theorem d_Mo_change_125 : decode b_Mo_change 125 = .ok (.iload_n 3, 1) := by decide +kernel
theorem d_Mo_change_126 : decode b_Mo_change 126 = .ok (.iconst 1, 1) := by decide +kernel
theorem d_Mo_change_127 : decode b_Mo_change 127 = .ok (.isub, 1) := by decide +kernel
theorem d_Mo_change_128 : decode b_Mo_change 128 = .ok (.imul, 1) := by decide +kernel
theorem d_Mo_change_129 : decode b_Mo_change 129 = .ok (.iload 4, 2) := by decide +kernel
theorem d_Mo_change_131 : decode b_Mo_change 131 = .ok (.iadd, 1) := by decide +kernel
theorem d_Mo_change_132 : decode b_Mo_change 132 = .ok (.iconst 1, 1) := by decide +kernel
theorem d_Mo_change_133 : decode b_Mo_change 133 = .ok (.isub, 1) := by decide +kernel
theorem d_Mo_change_134 : decode b_Mo_change 134 = .ok (.iaload, 1) := by decide +kernel
theorem d_Mo_change_135 : decode b_Mo_change 135 = .ok (.aload_n 0, 1) := by decide +kernel
theorem d_Mo_change_136 : decode b_Mo_change 136 = .ok (.aload_n 0, 1) := by decide +kernel
theorem d_Mo_change_137 : decode b_Mo_change 137 = .ok (.getfield 26, 3) := by decide +kernel
theorem d_Mo_change_140 : decode b_Mo_change 140 = .ok (.bipush 10, 2) := by decide +kernel
theorem d_Mo_change_142 : decode b_Mo_change 142 = .ok (.iload_n 1, 1) := by decide +kernel
theorem d_Mo_change_143 : decode b_Mo_change 143 = .ok (.imul, 1) := by decide +kernel
theorem d_Mo_change_144 : decode b_Mo_change 144 = .ok (.iload_n 3, 1) := by decide +kernel
theorem d_Mo_change_145 : decode b_Mo_change 145 = .ok (.iadd, 1) := by decide +kernel
theorem d_Mo_change_146 : decode b_Mo_change 146 = .ok (.iconst 1, 1) := by decide +kernel
theorem d_Mo_change_147 : decode b_Mo_change 147 = .ok (.isub, 1) := by decide +kernel
theorem d_Mo_change_148 : decode b_Mo_change 148 = .ok (.iaload, 1) := by decide +kernel
theorem d_Mo_change_149 : decode b_Mo_change 149 = .ok (.aload_n 0, 1) := by decide +kernel
theorem d_Mo_change_150 : decode b_Mo_change 150 = .ok (.getfield 26, 3) := by decide +kernel
theorem d_Mo_change_153 : decode b_Mo_change 153 = .ok (.bipush 10, 2) := by decide +kernel
theorem d_Mo_change_155 : decode b_Mo_change 155 = .ok (.iload_n 2, 1) := by decide +kernel
theorem d_Mo_change_156 : decode b_Mo_change 156 = .ok (.imul, 1) := by decide +kernel
theorem d_Mo_change_157 : decode b_Mo_change 157 = .ok (.iload 4, 2) := by decide +kernel
theorem d_Mo_change_159 : decode b_Mo_change 159 = .ok (.iadd, 1) := by decide +kernel
theorem d_Mo_change_160 : decode b_Mo_change 160 = .ok (.iconst 1, 1) := by decide +kernel
theorem d_Mo_change_161 : decode b_Mo_change 161 = .ok (.isub, 1) := by decide +kernel
theorem d_Mo_change_162 : decode b_Mo_change 162 = .ok (.iaload, 1) := by decide +kernel
theorem d_Mo_change_163 : decode b_Mo_change 163 = .ok (.invokevirtual 77, 3) := by decide +kernel
theorem d_Mo_change_166 : decode b_Mo_change 166 = .ok (.iadd, 1) := by decide +kernel
theorem d_Mo_change_167 : decode b_Mo_change 167 = .ok (.invokestatic 72, 3) := by decide +kernel
theorem d_Mo_change_170 : decode b_Mo_change 170 = .ok (.istore 5, 2) := by decide +kernel
theorem d_Mo_change_172 : decode b_Mo_change 172 = .ok (.aload_n 0, 1) := by decide +kernel
theorem d_Mo_change_173 : decode b_Mo_change 173 = .ok (.getfield 42, 3) := by decide +kernel
theorem d_Mo_change_176 : decode b_Mo_change 176 = .ok (.bipush 11, 2) := by decide +kernel
theorem d_Mo_change_178 : decode b_Mo_change 178 = .ok (.iload_n 3, 1) := by decide +kernel
theorem d_Mo_change_179 : decode b_Mo_change 179 = .ok (.imul, 1) := by decide +kernel
theorem d_Mo_change_180 : decode b_Mo_change 180 = .ok (.iload 4, 2) := by decide +kernel
theorem d_Mo_change_182 : decode b_Mo_change 182 = .ok (.iadd, 1) := by decide +kernel
theorem d_Mo_change_183 : decode b_Mo_change 183 = .ok (.iload 5, 2) := by decide +kernel
theorem d_Mo_change_185 : decode b_Mo_change 185 = .ok (.iastore, 1) := by decide +kernel
theorem d_Mo_change_186 : decode b_Mo_change 186 = .ok (.iinc 4 1, 3) := by decide +kernel
theorem d_Mo_change_189 : decode b_Mo_change 189 = .ok (.goto (-174), 3) := by decide +kernel
theorem d_Mo_change_192 : decode b_Mo_change 192 = .ok (.iinc 3 1, 3) := by decide +kernel
theorem d_Mo_change_195 : decode b_Mo_change 195 = .ok (.goto (-193), 3) := by decide +kernel
theorem d_Mo_change_198 : decode b_Mo_change 198 = .ok (.aload_n 0, 1) := by decide +kernel
theorem d_Mo_change_199 : decode b_Mo_change 199 = .ok (.getfield 42, 3) := by decide +kernel
theorem d_Mo_change_202 : decode b_Mo_change 202 = .ok (.bipush 11, 2) := by decide +kernel
theorem d_Mo_change_204 : decode b_Mo_change 204 = .ok (.aload_n 0, 1) := by decide +kernel
theorem d_Mo_change_205 : decode b_Mo_change 205 = .ok (.getfield 23, 3) := by decide +kernel
theorem d_Mo_change_208 : decode b_Mo_change 208 = .ok (.iload_n 1, 1) := by decide +kernel
theorem d_Mo_change_209 : decode b_Mo_change 209 = .ok (.iaload, 1) := by decide +kernel
theorem d_Mo_change_210 : decode b_Mo_change 210 = .ok (.imul, 1) := by decide +kernel
theorem d_Mo_change_211 : decode b_Mo_change 211 = .ok (.aload_n 0, 1) := by decide +kernel
theorem d_Mo_change_212 : decode b_Mo_change 212 = .ok (.getfield 23, 3) := by decide +kernel
theorem d_Mo_change_215 : decode b_Mo_change 215 = .ok (.iload_n 2, 1) := by decide +kernel
theorem d_Mo_change_216 : decode b_Mo_change 216 = .ok (.iaload, 1) := by decide +kernel
theorem d_Mo_change_217 : decode b_Mo_change 217 = .ok (.iadd, 1) := by decide +kernel
theorem d_Mo_change_218 : decode b_Mo_change 218 = .ok (.iaload, 1) := by decide +kernel
theorem d_Mo_change_219 : decode b_Mo_change 219 = .ok (.ireturn, 1) := by decide +kernel
theorem d_Mo_beyond_0 : decode b_Mo_beyond 0 = .ok (.iconst 0, 1) := by decide +kernel
theorem d_Mo_beyond_1 : decode b_Mo_beyond 1 = .ok (.istore_n 3, 1) := by decide +kernel
theorem d_Mo_beyond_2 : decode b_Mo_beyond 2 = .ok (.iconst 0, 1) := by decide +kernel
theorem d_Mo_beyond_3 : decode b_Mo_beyond 3 = .ok (.istore 4, 2) := by decide +kernel
theorem d_Mo_beyond_5 : decode b_Mo_beyond 5 = .ok (.iload 4, 2) := by decide +kernel
theorem d_Mo_beyond_7 : decode b_Mo_beyond 7 = .ok (.bipush 26, 2) := by decide +kernel
theorem d_Mo_beyond_9 : decode b_Mo_beyond 9 = .ok (.if_icmp .ge 122, 3) := by decide +kernel
theorem d_Mo_beyond_12 : decode b_Mo_beyond 12 = .ok (.iconst 0, 1) := by decide +kernel
theorem d_Mo_beyond_13 : decode b_Mo_beyond 13 = .ok (.istore 5, 2) := by decide +kernel
theorem d_Mo_beyond_15 : decode b_Mo_beyond 15 = .ok (.iconst 0, 1) := by decide +kernel
theorem d_Mo_beyond_16 : decode b_Mo_beyond 16 = .ok (.istore 6, 2) := by decide +kernel
theorem d_Mo_beyond_18 : decode b_Mo_beyond 18 = .ok (.iload 6, 2) := by decide +kernel
theorem d_Mo_beyond_20 : decode b_Mo_beyond 20 = .ok (.aload_n 0, 1) := by decide +kernel
theorem d_Mo_beyond_21 : decode b_Mo_beyond 21 = .ok (.getfield 23, 3) := by decide +kernel
theorem d_Mo_beyond_24 : decode b_Mo_beyond 24 = .ok (.iload_n 1, 1) := by decide +kernel
theorem d_Mo_beyond_25 : decode b_Mo_beyond 25 = .ok (.iaload, 1) := by decide +kernel
theorem d_Mo_beyond_26 : decode b_Mo_beyond 26 = .ok (.if_icmp .ge 37, 3) := by decide +kernel
theorem d_Mo_beyond_29 : decode b_Mo_beyond 29 = .ok (.aload_n 0, 1) := by decide +kernel
theorem d_Mo_beyond_30 : decode b_Mo_beyond 30 = .ok (.getfield 26, 3) := by decide +kernel
theorem d_Mo_beyond_33 : decode b_Mo_beyond 33 = .ok (.bipush 10, 2) := by decide +kernel
theorem d_Mo_beyond_35 : decode b_Mo_beyond 35 = .ok (.iload_n 1, 1) := by decide +kernel
theorem d_Mo_beyond_36 : decode b_Mo_beyond 36 = .ok (.imul, 1) := by decide +kernel
theorem d_Mo_beyond_37 : decode b_Mo_beyond 37 = .ok (.iload 6, 2) := by decide +kernel
theorem d_Mo_beyond_39 : decode b_Mo_beyond 39 = .ok (.iadd, 1) := by decide +kernel
theorem d_Mo_beyond_40 : decode b_Mo_beyond 40 = .ok (.iaload, 1) := by decide +kernel
theorem d_Mo_beyond_41 : decode b_Mo_beyond 41 = .ok (.iload 4, 2) := by decide +kernel
theorem d_Mo_beyond_43 : decode b_Mo_beyond 43 = .ok (.if_icmp .ne 10, 3) := by decide +kernel
theorem d_Mo_beyond_46 : decode b_Mo_beyond 46 = .ok (.iload 5, 2) := by decide +kernel
theorem d_Mo_beyond_48 : decode b_Mo_beyond 48 = .ok (.iconst 1, 1) := by decide +kernel
theorem d_Mo_beyond_49 : decode b_Mo_beyond 49 = .ok (.iadd, 1) := by decide +kernel
theorem d_Mo_beyond_50 : decode b_Mo_beyond 50 = .ok (.goto 5, 3) := by decide +kernel
theorem d_Mo_beyond_53 : decode b_Mo_beyond 53 = .ok (.iload 5, 2) := by decide +kernel
theorem d_Mo_beyond_55 : decode b_Mo_beyond 55 = .ok (.istore 5, 2) := by decide +kernel
theorem d_Mo_beyond_57 : decode b_Mo_beyond 57 = .ok (.iinc 6 1, 3) := by decide +kernel
theorem d_Mo_beyond_60 : decode b_Mo_beyond 60 = .ok (.goto (-42), 3) := by decide +kernel
theorem d_Mo_beyond_63 : decode b_Mo_beyond 63 = .ok (.iconst 0, 1) := by decide +kernel
theorem d_Mo_beyond_64 : decode b_Mo_beyond 64 = .ok (.istore 6, 2) := by decide +kernel
theorem d_Mo_beyond_66 : decode b_Mo_beyond 66 = .ok (.iload 6, 2) := by decide +kernel
theorem d_Mo_beyond_68 : decode b_Mo_beyond 68 = .ok (.aload_n 0, 1) := by decide +kernel
theorem d_Mo_beyond_69 : decode b_Mo_beyond 69 = .ok (.getfield 23, 3) := by decide +kernel
theorem d_Mo_beyond_72 : decode b_Mo_beyond 72 = .ok (.iload_n 2, 1) := by decide +kernel
theorem d_Mo_beyond_73 : decode b_Mo_beyond 73 = .ok (.iaload, 1) := by decide +kernel
theorem d_Mo_beyond_74 : decode b_Mo_beyond 74 = .ok (.if_icmp .ge 37, 3) := by decide +kernel
theorem d_Mo_beyond_77 : decode b_Mo_beyond 77 = .ok (.aload_n 0, 1) := by decide +kernel
theorem d_Mo_beyond_78 : decode b_Mo_beyond 78 = .ok (.getfield 26, 3) := by decide +kernel
theorem d_Mo_beyond_81 : decode b_Mo_beyond 81 = .ok (.bipush 10, 2) := by decide +kernel
theorem d_Mo_beyond_83 : decode b_Mo_beyond 83 = .ok (.iload_n 2, 1) := by decide +kernel
theorem d_Mo_beyond_84 : decode b_Mo_beyond 84 = .ok (.imul, 1) := by decide +kernel
theorem d_Mo_beyond_85 : decode b_Mo_beyond 85 = .ok (.iload 6, 2) := by decide +kernel
theorem d_Mo_beyond_87 : decode b_Mo_beyond 87 = .ok (.iadd, 1) := by decide +kernel
theorem d_Mo_beyond_88 : decode b_Mo_beyond 88 = .ok (.iaload, 1) := by decide +kernel
theorem d_Mo_beyond_89 : decode b_Mo_beyond 89 = .ok (.iload 4, 2) := by decide +kernel
theorem d_Mo_beyond_91 : decode b_Mo_beyond 91 = .ok (.if_icmp .ne 10, 3) := by decide +kernel
theorem d_Mo_beyond_94 : decode b_Mo_beyond 94 = .ok (.iload 5, 2) := by decide +kernel
theorem d_Mo_beyond_96 : decode b_Mo_beyond 96 = .ok (.iconst 1, 1) := by decide +kernel
theorem d_Mo_beyond_97 : decode b_Mo_beyond 97 = .ok (.isub, 1) := by decide +kernel
theorem d_Mo_beyond_98 : decode b_Mo_beyond 98 = .ok (.goto 5, 3) := by decide +kernel
theorem d_Mo_beyond_101 : decode b_Mo_beyond 101 = .ok (.iload 5, 2) := by decide +kernel
theorem d_Mo_beyond_103 : decode b_Mo_beyond 103 = .ok (.istore 5, 2) := by decide +kernel
theorem d_Mo_beyond_105 : decode b_Mo_beyond 105 = .ok (.iinc 6 1, 3) := by decide +kernel
theorem d_Mo_beyond_108 : decode b_Mo_beyond 108 = .ok (.goto (-42), 3) := by decide +kernel
theorem d_Mo_beyond_111 : decode b_Mo_beyond 111 = .ok (.iload 5, 2) := by decide +kernel
theorem d_Mo_beyond_113 : decode b_Mo_beyond 113 = .ok (.ifCond .le 10, 3) := by decide +kernel
theorem d_Mo_beyond_116 : decode b_Mo_beyond 116 = .ok (.iload_n 3, 1) := by decide +kernel
theorem d_Mo_beyond_117 : decode b_Mo_beyond 117 = .ok (.iload 5, 2) := by decide +kernel
theorem d_Mo_beyond_119 : decode b_Mo_beyond 119 = .ok (.iadd, 1) := by decide +kernel
theorem d_Mo_beyond_120 : decode b_Mo_beyond 120 = .ok (.goto 4, 3) := by decide +kernel
theorem d_Mo_beyond_123 : decode b_Mo_beyond 123 = .ok (.iload_n 3, 1) := by decide +kernel
theorem d_Mo_beyond_124 : decode b_Mo_beyond 124 = .ok (.istore_n 3, 1) := by decide +kernel
theorem d_Mo_beyond_125 : decode b_Mo_beyond 125 = .ok (.iinc 4 1, 3) := by decide +kernel
theorem d_Mo_beyond_128 : decode b_Mo_beyond 128 = .ok (.goto (-123), 3) := by decide +kernel
theorem d_Mo_beyond_131 : decode b_Mo_beyond 131 = .ok (.iload_n 3, 1) := by decide +kernel
theorem d_Mo_beyond_132 : decode b_Mo_beyond 132 = .ok (.ireturn, 1) := by decide +kernel
theorem d_Mo_counted_0 : decode b_Mo_counted 0 = .ok (.aload_n 0, 1) := by decide +kernel
theorem d_Mo_counted_1 : decode b_Mo_counted 1 = .ok (.getfield 33, 3) := by decide +kernel
theorem d_Mo_counted_4 : decode b_Mo_counted 4 = .ok (.iconst 2, 1) := by decide +kernel
theorem d_Mo_counted_5 : decode b_Mo_counted 5 = .ok (.iaload, 1) := by decide +kernel
theorem d_Mo_counted_6 : decode b_Mo_counted 6 = .ok (.aload_n 0, 1) := by decide +kernel
theorem d_Mo_counted_7 : decode b_Mo_counted 7 = .ok (.getfield 33, 3) := by decide +kernel
theorem d_Mo_counted_10 : decode b_Mo_counted 10 = .ok (.iconst 3, 1) := by decide +kernel
theorem d_Mo_counted_11 : decode b_Mo_counted 11 = .ok (.iaload, 1) := by decide +kernel
theorem d_Mo_counted_12 : decode b_Mo_counted 12 = .ok (.invokestatic 72, 3) := by decide +kernel
theorem d_Mo_counted_15 : decode b_Mo_counted 15 = .ok (.istore_n 3, 1) := by decide +kernel
theorem d_Mo_counted_16 : decode b_Mo_counted 16 = .ok (.aload_n 0, 1) := by decide +kernel
theorem d_Mo_counted_17 : decode b_Mo_counted 17 = .ok (.iload_n 1, 1) := by decide +kernel
theorem d_Mo_counted_18 : decode b_Mo_counted 18 = .ok (.iload_n 2, 1) := by decide +kernel
theorem d_Mo_counted_19 : decode b_Mo_counted 19 = .ok (.invokevirtual 80, 3) := by decide +kernel
theorem d_Mo_counted_22 : decode b_Mo_counted 22 = .ok (.aload_n 0, 1) := by decide +kernel
theorem d_Mo_counted_23 : decode b_Mo_counted 23 = .ok (.getfield 33, 3) := by decide +kernel
theorem d_Mo_counted_26 : decode b_Mo_counted 26 = .ok (.iconst 1, 1) := by decide +kernel
theorem d_Mo_counted_27 : decode b_Mo_counted 27 = .ok (.iaload, 1) := by decide +kernel
theorem d_Mo_counted_28 : decode b_Mo_counted 28 = .ok (.iload_n 3, 1) := by decide +kernel
theorem d_Mo_counted_29 : decode b_Mo_counted 29 = .ok (.invokestatic 72, 3) := by decide +kernel
theorem d_Mo_counted_32 : decode b_Mo_counted 32 = .ok (.imul, 1) := by decide +kernel
theorem d_Mo_counted_33 : decode b_Mo_counted 33 = .ok (.istore 4, 2) := by decide +kernel
theorem d_Mo_counted_35 : decode b_Mo_counted 35 = .ok (.aload_n 0, 1) := by decide +kernel
theorem d_Mo_counted_36 : decode b_Mo_counted 36 = .ok (.iload_n 2, 1) := by decide +kernel
theorem d_Mo_counted_37 : decode b_Mo_counted 37 = .ok (.iload_n 1, 1) := by decide +kernel
theorem d_Mo_counted_38 : decode b_Mo_counted 38 = .ok (.invokevirtual 80, 3) := by decide +kernel
theorem d_Mo_counted_41 : decode b_Mo_counted 41 = .ok (.aload_n 0, 1) := by decide +kernel
theorem d_Mo_counted_42 : decode b_Mo_counted 42 = .ok (.getfield 33, 3) := by decide +kernel
theorem d_Mo_counted_45 : decode b_Mo_counted 45 = .ok (.iconst 0, 1) := by decide +kernel
theorem d_Mo_counted_46 : decode b_Mo_counted 46 = .ok (.iaload, 1) := by decide +kernel
theorem d_Mo_counted_47 : decode b_Mo_counted 47 = .ok (.iload_n 3, 1) := by decide +kernel
theorem d_Mo_counted_48 : decode b_Mo_counted 48 = .ok (.invokestatic 72, 3) := by decide +kernel
theorem d_Mo_counted_51 : decode b_Mo_counted 51 = .ok (.imul, 1) := by decide +kernel
theorem d_Mo_counted_52 : decode b_Mo_counted 52 = .ok (.istore 5, 2) := by decide +kernel
theorem d_Mo_counted_54 : decode b_Mo_counted 54 = .ok (.iload 4, 2) := by decide +kernel
