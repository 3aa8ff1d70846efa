theorem d_We_turned_4 : decode b_We_turned 4 = .ok (.iconst 5, 1) := by decide +kernel
theorem d_We_turned_5 : decode b_We_turned 5 = .ok (.iaload, 1) := by decide +kernel
theorem d_We_turned_6 : decode b_We_turned 6 = .ok (.ireturn, 1) := by decide +kernel
theorem d_Wo_init_0 : decode b_Wo_init 0 = .ok (.aload_n 0, 1) := by decide +kernel
theorem d_Wo_init_1 : decode b_Wo_init 1 = .ok (.invokespecial 3, 3) := by decide +kernel
theorem d_Wo_init_4 : decode b_Wo_init 4 = .ok (.aload_n 0, 1) := by decide +kernel
theorem d_Wo_init_5 : decode b_Wo_init 5 = .ok (.iload_n 1, 1) := by decide +kernel
theorem d_Wo_init_6 : decode b_Wo_init 6 = .ok (.bipush 10, 2) := by decide +kernel
theorem d_Wo_init_8 : decode b_Wo_init 8 = .ok (.imul, 1) := by decide +kernel
theorem d_Wo_init_9 : decode b_Wo_init 9 = .ok (.newarray .int, 2) := by decide +kernel
theorem d_Wo_init_11 : decode b_Wo_init 11 = .ok (.putfield 9, 3) := by decide +kernel
theorem d_Wo_init_14 : decode b_Wo_init 14 = .ok (.aload_n 0, 1) := by decide +kernel
theorem d_Wo_init_15 : decode b_Wo_init 15 = .ok (.iload_n 1, 1) := by decide +kernel
theorem d_Wo_init_16 : decode b_Wo_init 16 = .ok (.newarray .int, 2) := by decide +kernel
theorem d_Wo_init_18 : decode b_Wo_init 18 = .ok (.putfield 15, 3) := by decide +kernel
theorem d_Wo_init_21 : decode b_Wo_init 21 = .ok (.aload_n 0, 1) := by decide +kernel
theorem d_Wo_init_22 : decode b_Wo_init 22 = .ok (.iconst 0, 1) := by decide +kernel
theorem d_Wo_init_23 : decode b_Wo_init 23 = .ok (.putfield 18, 3) := by decide +kernel
theorem d_Wo_init_26 : decode b_Wo_init 26 = .ok (.return_, 1) := by decide +kernel
theorem d_Wo_append_0 : decode b_Wo_append 0 = .ok (.aload_n 0, 1) := by decide +kernel
theorem d_Wo_append_1 : decode b_Wo_append 1 = .ok (.getfield 15, 3) := by decide +kernel
theorem d_Wo_append_4 : decode b_Wo_append 4 = .ok (.iload_n 1, 1) := by decide +kernel
theorem d_Wo_append_5 : decode b_Wo_append 5 = .ok (.iaload, 1) := by decide +kernel
theorem d_Wo_append_6 : decode b_Wo_append 6 = .ok (.bipush 10, 2) := by decide +kernel
theorem d_Wo_append_8 : decode b_Wo_append 8 = .ok (.if_icmp .lt 5, 3) := by decide +kernel
theorem d_Wo_append_11 : decode b_Wo_append 11 = .ok (.iconst 0, 1) := by decide +kernel
theorem d_Wo_append_12 : decode b_Wo_append 12 = .ok (.ireturn, 1) := by decide +kernel
theorem d_Wo_append_13 : decode b_Wo_append 13 = .ok (.aload_n 0, 1) := by decide +kernel
theorem d_Wo_append_14 : decode b_Wo_append 14 = .ok (.getfield 9, 3) := by decide +kernel
theorem d_Wo_append_17 : decode b_Wo_append 17 = .ok (.iload_n 1, 1) := by decide +kernel
theorem d_Wo_append_18 : decode b_Wo_append 18 = .ok (.invokestatic 22, 3) := by decide +kernel
theorem d_Wo_append_21 : decode b_Wo_append 21 = .ok (.aload_n 0, 1) := by decide +kernel
theorem d_Wo_append_22 : decode b_Wo_append 22 = .ok (.getfield 15, 3) := by decide +kernel
theorem d_Wo_append_25 : decode b_Wo_append 25 = .ok (.iload_n 1, 1) := by decide +kernel
theorem d_Wo_append_26 : decode b_Wo_append 26 = .ok (.iaload, 1) := by decide +kernel
theorem d_Wo_append_27 : decode b_Wo_append 27 = .ok (.iadd, 1) := by decide +kernel
theorem d_Wo_append_28 : decode b_Wo_append 28 = .ok (.iload_n 2, 1) := by decide +kernel
theorem d_Wo_append_29 : decode b_Wo_append 29 = .ok (.iastore, 1) := by decide +kernel
theorem d_Wo_append_30 : decode b_Wo_append 30 = .ok (.aload_n 0, 1) := by decide +kernel
theorem d_Wo_append_31 : decode b_Wo_append 31 = .ok (.getfield 15, 3) := by decide +kernel
theorem d_Wo_append_34 : decode b_Wo_append 34 = .ok (.iload_n 1, 1) := by decide +kernel
theorem d_Wo_append_35 : decode b_Wo_append 35 = .ok (.dup2, 1) := by decide +kernel
theorem d_Wo_append_36 : decode b_Wo_append 36 = .ok (.iaload, 1) := by decide +kernel
theorem d_Wo_append_37 : decode b_Wo_append 37 = .ok (.iconst 1, 1) := by decide +kernel
theorem d_Wo_append_38 : decode b_Wo_append 38 = .ok (.iadd, 1) := by decide +kernel
theorem d_Wo_append_39 : decode b_Wo_append 39 = .ok (.iastore, 1) := by decide +kernel
theorem d_Wo_append_40 : decode b_Wo_append 40 = .ok (.aload_n 0, 1) := by decide +kernel
theorem d_Wo_append_41 : decode b_Wo_append 41 = .ok (.dup, 1) := by decide +kernel
theorem d_Wo_append_42 : decode b_Wo_append 42 = .ok (.getfield 18, 3) := by decide +kernel
theorem d_Wo_append_45 : decode b_Wo_append 45 = .ok (.iconst 1, 1) := by decide +kernel
theorem d_Wo_append_46 : decode b_Wo_append 46 = .ok (.iadd, 1) := by decide +kernel
theorem d_Wo_append_47 : decode b_Wo_append 47 = .ok (.putfield 18, 3) := by decide +kernel
theorem d_Wo_append_50 : decode b_Wo_append 50 = .ok (.iconst 1, 1) := by decide +kernel
theorem d_Wo_append_51 : decode b_Wo_append 51 = .ok (.ireturn, 1) := by decide +kernel
theorem d_Wo_isNone_0 : decode b_Wo_isNone 0 = .ok (.aload_n 0, 1) := by decide +kernel
theorem d_Wo_isNone_1 : decode b_Wo_isNone 1 = .ok (.getfield 15, 3) := by decide +kernel
theorem d_Wo_isNone_4 : decode b_Wo_isNone 4 = .ok (.iload_n 1, 1) := by decide +kernel
theorem d_Wo_isNone_5 : decode b_Wo_isNone 5 = .ok (.iaload, 1) := by decide +kernel
theorem d_Wo_isNone_6 : decode b_Wo_isNone 6 = .ok (.ifCond .ne 7, 3) := by decide +kernel
theorem d_Wo_isNone_9 : decode b_Wo_isNone 9 = .ok (.iconst 1, 1) := by decide +kernel
theorem d_Wo_isNone_10 : decode b_Wo_isNone 10 = .ok (.goto 4, 3) := by decide +kernel
theorem d_Wo_isNone_13 : decode b_Wo_isNone 13 = .ok (.iconst 0, 1) := by decide +kernel
theorem d_Wo_isNone_14 : decode b_Wo_isNone 14 = .ok (.ireturn, 1) := by decide +kernel
theorem d_Wo_clear_0 : decode b_Wo_clear 0 = .ok (.iconst 0, 1) := by decide +kernel
theorem d_Wo_clear_1 : decode b_Wo_clear 1 = .ok (.istore_n 1, 1) := by decide +kernel
theorem d_Wo_clear_2 : decode b_Wo_clear 2 = .ok (.iload_n 1, 1) := by decide +kernel
theorem d_Wo_clear_3 : decode b_Wo_clear 3 = .ok (.aload_n 0, 1) := by decide +kernel
theorem d_Wo_clear_4 : decode b_Wo_clear 4 = .ok (.getfield 15, 3) := by decide +kernel
theorem d_Wo_clear_7 : decode b_Wo_clear 7 = .ok (.arraylength, 1) := by decide +kernel
theorem d_Wo_clear_8 : decode b_Wo_clear 8 = .ok (.if_icmp .ge 16, 3) := by decide +kernel
theorem d_Wo_clear_11 : decode b_Wo_clear 11 = .ok (.aload_n 0, 1) := by decide +kernel
theorem d_Wo_clear_12 : decode b_Wo_clear 12 = .ok (.getfield 15, 3) := by decide +kernel
theorem d_Wo_clear_15 : decode b_Wo_clear 15 = .ok (.iload_n 1, 1) := by decide +kernel
theorem d_Wo_clear_16 : decode b_Wo_clear 16 = .ok (.iconst 0, 1) := by decide +kernel
theorem d_Wo_clear_17 : decode b_Wo_clear 17 = .ok (.iastore, 1) := by decide +kernel
theorem d_Wo_clear_18 : decode b_Wo_clear 18 = .ok (.iinc 1 1, 3) := by decide +kernel
theorem d_Wo_clear_21 : decode b_Wo_clear 21 = .ok (.goto (-19), 3) := by decide +kernel
theorem d_Wo_clear_24 : decode b_Wo_clear 24 = .ok (.aload_n 0, 1) := by decide +kernel
theorem d_Wo_clear_25 : decode b_Wo_clear 25 = .ok (.iconst 0, 1) := by decide +kernel
theorem d_Wo_clear_26 : decode b_Wo_clear 26 = .ok (.putfield 18, 3) := by decide +kernel
theorem d_Wo_clear_29 : decode b_Wo_clear 29 = .ok (.return_, 1) := by decide +kernel
theorem d_Wo_startOf_0 : decode b_Wo_startOf 0 = .ok (.iload_n 0, 1) := by decide +kernel
theorem d_Wo_startOf_1 : decode b_Wo_startOf 1 = .ok (.bipush 10, 2) := by decide +kernel
theorem d_Wo_startOf_3 : decode b_Wo_startOf 3 = .ok (.imul, 1) := by decide +kernel
theorem d_Wo_startOf_4 : decode b_Wo_startOf 4 = .ok (.ireturn, 1) := by decide +kernel
theorem d_La_share_0 : decode b_La_share 0 = .ok (.aload_n 3, 1) := by decide +kernel
theorem d_La_share_1 : decode b_La_share 1 = .ok (.iconst 0, 1) := by decide +kernel
theorem d_La_share_2 : decode b_La_share 2 = .ok (.aload_n 0, 1) := by decide +kernel
theorem d_La_share_3 : decode b_La_share 3 = .ok (.iload_n 1, 1) := by decide +kernel
theorem d_La_share_4 : decode b_La_share 4 = .ok (.iload_n 2, 1) := by decide +kernel
theorem d_La_share_5 : decode b_La_share 5 = .ok (.invokevirtual 7, 3) := by decide +kernel
theorem d_La_share_8 : decode b_La_share 8 = .ok (.lastore, 1) := by decide +kernel
theorem d_La_share_9 : decode b_La_share 9 = .ok (.goto 7, 3) := by decide +kernel
theorem d_La_share_12 : decode b_La_share 12 = .ok (.astore 4, 2) := by decide +kernel
theorem d_La_share_14 : decode b_La_share 14 = .ok (.iconst 1, 1) := by decide +kernel
theorem d_La_share_15 : decode b_La_share 15 = .ok (.ireturn, 1) := by decide +kernel
theorem d_La_share_16 : decode b_La_share 16 = .ok (.iconst 0, 1) := by decide +kernel
theorem d_La_share_17 : decode b_La_share 17 = .ok (.ireturn, 1) := by decide +kernel
theorem d_La_law_0 : decode code 0 = .ok (.new 8, 3) := by decide +kernel
theorem d_La_law_3 : decode code 3 = .ok (.dup, 1) := by decide +kernel
theorem d_La_law_4 : decode code 4 = .ok (.invokespecial 15, 3) := by decide +kernel
theorem d_La_law_7 : decode code 7 = .ok (.astore_n 1, 1) := by decide +kernel
theorem d_La_law_8 : decode code 8 = .ok (.new 16, 3) := by decide +kernel
theorem d_La_law_11 : decode code 11 = .ok (.dup, 1) := by decide +kernel
theorem d_La_law_12 : decode code 12 = .ok (.invokespecial 18, 3) := by decide +kernel
theorem d_La_law_15 : decode code 15 = .ok (.astore_n 2, 1) := by decide +kernel
theorem d_La_law_16 : decode code 16 = .ok (.iconst 1, 1) := by decide +kernel
theorem d_La_law_17 : decode code 17 = .ok (.newarray .long, 2) := by decide +kernel
theorem d_La_law_19 : decode code 19 = .ok (.astore_n 3, 1) := by decide +kernel
theorem d_La_law_20 : decode code 20 = .ok (.iconst 0, 1) := by decide +kernel
theorem d_La_law_21 : decode code 21 = .ok (.istore 4, 2) := by decide +kernel
theorem d_La_law_23 : decode code 23 = .ok (.iload 4, 2) := by decide +kernel
theorem d_La_law_25 : decode code 25 = .ok (.aload_n 0, 1) := by decide +kernel
theorem d_La_law_26 : decode code 26 = .ok (.arraylength, 1) := by decide +kernel
theorem d_La_law_27 : decode code 27 = .ok (.iconst 4, 1) := by decide +kernel
theorem d_La_law_28 : decode code 28 = .ok (.isub, 1) := by decide +kernel
theorem d_La_law_29 : decode code 29 = .ok (.if_icmp .gt 700, 3) := by decide +kernel
theorem d_La_law_32 : decode code 32 = .ok (.aload_n 0, 1) := by decide +kernel
theorem d_La_law_33 : decode code 33 = .ok (.iload 4, 2) := by decide +kernel
theorem d_La_law_35 : decode code 35 = .ok (.iaload, 1) := by decide +kernel
theorem d_La_law_36 : decode code 36 = .ok (.bipush 31, 2) := by decide +kernel
theorem d_La_law_38 : decode code 38 = .ok (.iand, 1) := by decide +kernel
theorem d_La_law_39 : decode code 39 = .ok (.tableswitch 684 0 16 #[81, 106, 155, 192, 217, 254, 291, 328, 341, 366, 391, 416, 453, 502, 539, 592, 659], 81) := by decide +kernel
theorem d_La_law_120 : decode code 120 = .ok (.aload_n 1, 1) := by decide +kernel
theorem d_La_law_121 : decode code 121 = .ok (.aload_n 0, 1) := by decide +kernel
theorem d_La_law_122 : decode code 122 = .ok (.iload 4, 2) := by decide +kernel
theorem d_La_law_124 : decode code 124 = .ok (.iconst 1, 1) := by decide +kernel
theorem d_La_law_125 : decode code 125 = .ok (.iadd, 1) := by decide +kernel
theorem d_La_law_126 : decode code 126 = .ok (.iaload, 1) := by decide +kernel
theorem d_La_law_127 : decode code 127 = .ok (.invokevirtual 19, 3) := by decide +kernel
theorem d_La_law_130 : decode code 130 = .ok (.aload_n 2, 1) := by decide +kernel
theorem d_La_law_131 : decode code 131 = .ok (.aload_n 0, 1) := by decide +kernel
theorem d_La_law_132 : decode code 132 = .ok (.iload 4, 2) := by decide +kernel
theorem d_La_law_134 : decode code 134 = .ok (.iconst 1, 1) := by decide +kernel
theorem d_La_law_135 : decode code 135 = .ok (.iadd, 1) := by decide +kernel
theorem d_La_law_136 : decode code 136 = .ok (.iaload, 1) := by decide +kernel
theorem d_La_law_137 : decode code 137 = .ok (.invokevirtual 23, 3) := by decide +kernel
theorem d_La_law_140 : decode code 140 = .ok (.if_icmp .eq 583, 3) := by decide +kernel
theorem d_La_law_143 : decode code 143 = .ok (.iconst 0, 1) := by decide +kernel
theorem d_La_law_144 : decode code 144 = .ok (.ireturn, 1) := by decide +kernel
theorem d_La_law_145 : decode code 145 = .ok (.aload_n 1, 1) := by decide +kernel
theorem d_La_law_146 : decode code 146 = .ok (.aload_n 0, 1) := by decide +kernel
theorem d_La_law_147 : decode code 147 = .ok (.iload 4, 2) := by decide +kernel
theorem d_La_law_149 : decode code 149 = .ok (.iconst 1, 1) := by decide +kernel
theorem d_La_law_150 : decode code 150 = .ok (.iadd, 1) := by decide +kernel
theorem d_La_law_151 : decode code 151 = .ok (.iaload, 1) := by decide +kernel
theorem d_La_law_152 : decode code 152 = .ok (.aload_n 0, 1) := by decide +kernel
theorem d_La_law_153 : decode code 153 = .ok (.iload 4, 2) := by decide +kernel
theorem d_La_law_155 : decode code 155 = .ok (.iconst 2, 1) := by decide +kernel
theorem d_La_law_156 : decode code 156 = .ok (.iadd, 1) := by decide +kernel
theorem d_La_law_157 : decode code 157 = .ok (.iaload, 1) := by decide +kernel
theorem d_La_law_158 : decode code 158 = .ok (.aload_n 0, 1) := by decide +kernel
theorem d_La_law_159 : decode code 159 = .ok (.iload 4, 2) := by decide +kernel
theorem d_La_law_161 : decode code 161 = .ok (.iconst 3, 1) := by decide +kernel
theorem d_La_law_162 : decode code 162 = .ok (.iadd, 1) := by decide +kernel
theorem d_La_law_163 : decode code 163 = .ok (.iaload, 1) := by decide +kernel
theorem d_La_law_164 : decode code 164 = .ok (.invokevirtual 24, 3) := by decide +kernel
theorem d_La_law_167 : decode code 167 = .ok (.aload_n 2, 1) := by decide +kernel
theorem d_La_law_168 : decode code 168 = .ok (.aload_n 0, 1) := by decide +kernel
theorem d_La_law_169 : decode code 169 = .ok (.iload 4, 2) := by decide +kernel
theorem d_La_law_171 : decode code 171 = .ok (.iconst 1, 1) := by decide +kernel
theorem d_La_law_172 : decode code 172 = .ok (.iadd, 1) := by decide +kernel
theorem d_La_law_173 : decode code 173 = .ok (.iaload, 1) := by decide +kernel
theorem d_La_law_174 : decode code 174 = .ok (.aload_n 0, 1) := by decide +kernel
theorem d_La_law_175 : decode code 175 = .ok (.iload 4, 2) := by decide +kernel
theorem d_La_law_177 : decode code 177 = .ok (.iconst 2, 1) := by decide +kernel
theorem d_La_law_178 : decode code 178 = .ok (.iadd, 1) := by decide +kernel
theorem d_La_law_179 : decode code 179 = .ok (.iaload, 1) := by decide +kernel
theorem d_La_law_180 : decode code 180 = .ok (.aload_n 0, 1) := by decide +kernel
theorem d_La_law_181 : decode code 181 = .ok (.iload 4, 2) := by decide +kernel
theorem d_La_law_183 : decode code 183 = .ok (.iconst 3, 1) := by decide +kernel
theorem d_La_law_184 : decode code 184 = .ok (.iadd, 1) := by decide +kernel
theorem d_La_law_185 : decode code 185 = .ok (.iaload, 1) := by decide +kernel
theorem d_La_law_186 : decode code 186 = .ok (.invokevirtual 28, 3) := by decide +kernel
theorem d_La_law_189 : decode code 189 = .ok (.if_icmp .eq 534, 3) := by decide +kernel
theorem d_La_law_192 : decode code 192 = .ok (.iconst 0, 1) := by decide +kernel
theorem d_La_law_193 : decode code 193 = .ok (.ireturn, 1) := by decide +kernel
theorem d_La_law_194 : decode code 194 = .ok (.aload_n 1, 1) := by decide +kernel
theorem d_La_law_195 : decode code 195 = .ok (.aload_n 0, 1) := by decide +kernel
theorem d_La_law_196 : decode code 196 = .ok (.iload 4, 2) := by decide +kernel
theorem d_La_law_198 : decode code 198 = .ok (.iconst 1, 1) := by decide +kernel
theorem d_La_law_199 : decode code 199 = .ok (.iadd, 1) := by decide +kernel
theorem d_La_law_200 : decode code 200 = .ok (.iaload, 1) := by decide +kernel
theorem d_La_law_201 : decode code 201 = .ok (.aload_n 0, 1) := by decide +kernel
theorem d_La_law_202 : decode code 202 = .ok (.iload 4, 2) := by decide +kernel
theorem d_La_law_204 : decode code 204 = .ok (.iconst 2, 1) := by decide +kernel
theorem d_La_law_205 : decode code 205 = .ok (.iadd, 1) := by decide +kernel
theorem d_La_law_206 : decode code 206 = .ok (.iaload, 1) := by decide +kernel
theorem d_La_law_207 : decode code 207 = .ok (.invokevirtual 29, 3) := by decide +kernel
theorem d_La_law_210 : decode code 210 = .ok (.aload_n 2, 1) := by decide +kernel
theorem d_La_law_211 : decode code 211 = .ok (.aload_n 0, 1) := by decide +kernel
theorem d_La_law_212 : decode code 212 = .ok (.iload 4, 2) := by decide +kernel
theorem d_La_law_214 : decode code 214 = .ok (.iconst 1, 1) := by decide +kernel
theorem d_La_law_215 : decode code 215 = .ok (.iadd, 1) := by decide +kernel
theorem d_La_law_216 : decode code 216 = .ok (.iaload, 1) := by decide +kernel
theorem d_La_law_217 : decode code 217 = .ok (.aload_n 0, 1) := by decide +kernel
theorem d_La_law_218 : decode code 218 = .ok (.iload 4, 2) := by decide +kernel
theorem d_La_law_220 : decode code 220 = .ok (.iconst 2, 1) := by decide +kernel
theorem d_La_law_221 : decode code 221 = .ok (.iadd, 1) := by decide +kernel
theorem d_La_law_222 : decode code 222 = .ok (.iaload, 1) := by decide +kernel
theorem d_La_law_223 : decode code 223 = .ok (.invokevirtual 33, 3) := by decide +kernel
theorem d_La_law_226 : decode code 226 = .ok (.if_icmp .eq 497, 3) := by decide +kernel
theorem d_La_law_229 : decode code 229 = .ok (.iconst 0, 1) := by decide +kernel
theorem d_La_law_230 : decode code 230 = .ok (.ireturn, 1) := by decide +kernel
theorem d_La_law_231 : decode code 231 = .ok (.aload_n 1, 1) := by decide +kernel
theorem d_La_law_232 : decode code 232 = .ok (.aload_n 0, 1) := by decide +kernel
theorem d_La_law_233 : decode code 233 = .ok (.iload 4, 2) := by decide +kernel
theorem d_La_law_235 : decode code 235 = .ok (.iconst 1, 1) := by decide +kernel
theorem d_La_law_236 : decode code 236 = .ok (.iadd, 1) := by decide +kernel
theorem d_La_law_237 : decode code 237 = .ok (.iaload, 1) := by decide +kernel
theorem d_La_law_238 : decode code 238 = .ok (.invokevirtual 34, 3) := by decide +kernel
theorem d_La_law_241 : decode code 241 = .ok (.aload_n 2, 1) := by decide +kernel
theorem d_La_law_242 : decode code 242 = .ok (.aload_n 0, 1) := by decide +kernel
theorem d_La_law_243 : decode code 243 = .ok (.iload 4, 2) := by decide +kernel
theorem d_La_law_245 : decode code 245 = .ok (.iconst 1, 1) := by decide +kernel
theorem d_La_law_246 : decode code 246 = .ok (.iadd, 1) := by decide +kernel
theorem d_La_law_247 : decode code 247 = .ok (.iaload, 1) := by decide +kernel
theorem d_La_law_248 : decode code 248 = .ok (.invokevirtual 38, 3) := by decide +kernel
theorem d_La_law_251 : decode code 251 = .ok (.if_icmp .eq 472, 3) := by decide +kernel
theorem d_La_law_254 : decode code 254 = .ok (.iconst 0, 1) := by decide +kernel
theorem d_La_law_255 : decode code 255 = .ok (.ireturn, 1) := by decide +kernel
theorem d_La_law_256 : decode code 256 = .ok (.aload_n 1, 1) := by decide +kernel
theorem d_La_law_257 : decode code 257 = .ok (.aload_n 0, 1) := by decide +kernel
theorem d_La_law_258 : decode code 258 = .ok (.iload 4, 2) := by decide +kernel
theorem d_La_law_260 : decode code 260 = .ok (.iconst 1, 1) := by decide +kernel
theorem d_La_law_261 : decode code 261 = .ok (.iadd, 1) := by decide +kernel
theorem d_La_law_262 : decode code 262 = .ok (.iaload, 1) := by decide +kernel
theorem d_La_law_263 : decode code 263 = .ok (.aload_n 0, 1) := by decide +kernel
theorem d_La_law_264 : decode code 264 = .ok (.iload 4, 2) := by decide +kernel
theorem d_La_law_266 : decode code 266 = .ok (.iconst 2, 1) := by decide +kernel
theorem d_La_law_267 : decode code 267 = .ok (.iadd, 1) := by decide +kernel
theorem d_La_law_268 : decode code 268 = .ok (.iaload, 1) := by decide +kernel
theorem d_La_law_269 : decode code 269 = .ok (.invokevirtual 39, 3) := by decide +kernel
theorem d_La_law_272 : decode code 272 = .ok (.aload_n 2, 1) := by decide +kernel
theorem d_La_law_273 : decode code 273 = .ok (.aload_n 0, 1) := by decide +kernel
theorem d_La_law_274 : decode code 274 = .ok (.iload 4, 2) := by decide +kernel
theorem d_La_law_276 : decode code 276 = .ok (.iconst 1, 1) := by decide +kernel
theorem d_La_law_277 : decode code 277 = .ok (.iadd, 1) := by decide +kernel
theorem d_La_law_278 : decode code 278 = .ok (.iaload, 1) := by decide +kernel
theorem d_La_law_279 : decode code 279 = .ok (.aload_n 0, 1) := by decide +kernel
theorem d_La_law_280 : decode code 280 = .ok (.iload 4, 2) := by decide +kernel
theorem d_La_law_282 : decode code 282 = .ok (.iconst 2, 1) := by decide +kernel
theorem d_La_law_283 : decode code 283 = .ok (.iadd, 1) := by decide +kernel
theorem d_La_law_284 : decode code 284 = .ok (.iaload, 1) := by decide +kernel
theorem d_La_law_285 : decode code 285 = .ok (.invokevirtual 43, 3) := by decide +kernel
theorem d_La_law_288 : decode code 288 = .ok (.if_icmp .eq 435, 3) := by decide +kernel
theorem d_La_law_291 : decode code 291 = .ok (.iconst 0, 1) := by decide +kernel
theorem d_La_law_292 : decode code 292 = .ok (.ireturn, 1) := by decide +kernel
theorem d_La_law_293 : decode code 293 = .ok (.aload_n 1, 1) := by decide +kernel
theorem d_La_law_294 : decode code 294 = .ok (.aload_n 0, 1) := by decide +kernel
theorem d_La_law_295 : decode code 295 = .ok (.iload 4, 2) := by decide +kernel
theorem d_La_law_297 : decode code 297 = .ok (.iconst 1, 1) := by decide +kernel
theorem d_La_law_298 : decode code 298 = .ok (.iadd, 1) := by decide +kernel
theorem d_La_law_299 : decode code 299 = .ok (.iaload, 1) := by decide +kernel
theorem d_La_law_300 : decode code 300 = .ok (.aload_n 0, 1) := by decide +kernel
theorem d_La_law_301 : decode code 301 = .ok (.iload 4, 2) := by decide +kernel
theorem d_La_law_303 : decode code 303 = .ok (.iconst 2, 1) := by decide +kernel
theorem d_La_law_304 : decode code 304 = .ok (.iadd, 1) := by decide +kernel
theorem d_La_law_305 : decode code 305 = .ok (.iaload, 1) := by decide +kernel
theorem d_La_law_306 : decode code 306 = .ok (.invokevirtual 44, 3) := by decide +kernel
theorem d_La_law_309 : decode code 309 = .ok (.aload_n 2, 1) := by decide +kernel
theorem d_La_law_310 : decode code 310 = .ok (.aload_n 0, 1) := by decide +kernel
theorem d_La_law_311 : decode code 311 = .ok (.iload 4, 2) := by decide +kernel
theorem d_La_law_313 : decode code 313 = .ok (.iconst 1, 1) := by decide +kernel
theorem d_La_law_314 : decode code 314 = .ok (.iadd, 1) := by decide +kernel
theorem d_La_law_315 : decode code 315 = .ok (.iaload, 1) := by decide +kernel
theorem d_La_law_316 : decode code 316 = .ok (.aload_n 0, 1) := by decide +kernel
theorem d_La_law_317 : decode code 317 = .ok (.iload 4, 2) := by decide +kernel
theorem d_La_law_319 : decode code 319 = .ok (.iconst 2, 1) := by decide +kernel
theorem d_La_law_320 : decode code 320 = .ok (.iadd, 1) := by decide +kernel
theorem d_La_law_321 : decode code 321 = .ok (.iaload, 1) := by decide +kernel
theorem d_La_law_322 : decode code 322 = .ok (.invokevirtual 47, 3) := by decide +kernel
theorem d_La_law_325 : decode code 325 = .ok (.if_icmp .eq 398, 3) := by decide +kernel
theorem d_La_law_328 : decode code 328 = .ok (.iconst 0, 1) := by decide +kernel
theorem d_La_law_329 : decode code 329 = .ok (.ireturn, 1) := by decide +kernel
theorem d_La_law_330 : decode code 330 = .ok (.aload_n 1, 1) := by decide +kernel
theorem d_La_law_331 : decode code 331 = .ok (.aload_n 0, 1) := by decide +kernel
theorem d_La_law_332 : decode code 332 = .ok (.iload 4, 2) := by decide +kernel
theorem d_La_law_334 : decode code 334 = .ok (.iconst 1, 1) := by decide +kernel
theorem d_La_law_335 : decode code 335 = .ok (.iadd, 1) := by decide +kernel
theorem d_La_law_336 : decode code 336 = .ok (.iaload, 1) := by decide +kernel
theorem d_La_law_337 : decode code 337 = .ok (.aload_n 0, 1) := by decide +kernel
theorem d_La_law_338 : decode code 338 = .ok (.iload 4, 2) := by decide +kernel
theorem d_La_law_340 : decode code 340 = .ok (.iconst 2, 1) := by decide +kernel
theorem d_La_law_341 : decode code 341 = .ok (.iadd, 1) := by decide +kernel
theorem d_La_law_342 : decode code 342 = .ok (.iaload, 1) := by decide +kernel
theorem d_La_law_343 : decode code 343 = .ok (.invokevirtual 48, 3) := by decide +kernel
theorem d_La_law_346 : decode code 346 = .ok (.aload_n 2, 1) := by decide +kernel
theorem d_La_law_347 : decode code 347 = .ok (.aload_n 0, 1) := by decide +kernel
theorem d_La_law_348 : decode code 348 = .ok (.iload 4, 2) := by decide +kernel
theorem d_La_law_350 : decode code 350 = .ok (.iconst 1, 1) := by decide +kernel
theorem d_La_law_351 : decode code 351 = .ok (.iadd, 1) := by decide +kernel
theorem d_La_law_352 : decode code 352 = .ok (.iaload, 1) := by decide +kernel
theorem d_La_law_353 : decode code 353 = .ok (.aload_n 0, 1) := by decide +kernel
theorem d_La_law_354 : decode code 354 = .ok (.iload 4, 2) := by decide +kernel
theorem d_La_law_356 : decode code 356 = .ok (.iconst 2, 1) := by decide +kernel
theorem d_La_law_357 : decode code 357 = .ok (.iadd, 1) := by decide +kernel
theorem d_La_law_358 : decode code 358 = .ok (.iaload, 1) := by decide +kernel
theorem d_La_law_359 : decode code 359 = .ok (.invokevirtual 51, 3) := by decide +kernel
theorem d_La_law_362 : decode code 362 = .ok (.if_icmp .eq 361, 3) := by decide +kernel
theorem d_La_law_365 : decode code 365 = .ok (.iconst 0, 1) := by decide +kernel
theorem d_La_law_366 : decode code 366 = .ok (.ireturn, 1) := by decide +kernel
theorem d_La_law_367 : decode code 367 = .ok (.aload_n 1, 1) := by decide +kernel
theorem d_La_law_368 : decode code 368 = .ok (.invokevirtual 52, 3) := by decide +kernel
theorem d_La_law_371 : decode code 371 = .ok (.aload_n 2, 1) := by decide +kernel
theorem d_La_law_372 : decode code 372 = .ok (.invokevirtual 56, 3) := by decide +kernel
theorem d_La_law_375 : decode code 375 = .ok (.if_icmp .eq 348, 3) := by decide +kernel
theorem d_La_law_378 : decode code 378 = .ok (.iconst 0, 1) := by decide +kernel
theorem d_La_law_379 : decode code 379 = .ok (.ireturn, 1) := by decide +kernel
theorem d_La_law_380 : decode code 380 = .ok (.aload_n 1, 1) := by decide +kernel
theorem d_La_law_381 : decode code 381 = .ok (.aload_n 0, 1) := by decide +kernel
theorem d_La_law_382 : decode code 382 = .ok (.iload 4, 2) := by decide +kernel
theorem d_La_law_384 : decode code 384 = .ok (.iconst 1, 1) := by decide +kernel
theorem d_La_law_385 : decode code 385 = .ok (.iadd, 1) := by decide +kernel
theorem d_La_law_386 : decode code 386 = .ok (.iaload, 1) := by decide +kernel
theorem d_La_law_387 : decode code 387 = .ok (.invokevirtual 57, 3) := by decide +kernel
theorem d_La_law_390 : decode code 390 = .ok (.aload_n 2, 1) := by decide +kernel
theorem d_La_law_391 : decode code 391 = .ok (.aload_n 0, 1) := by decide +kernel
theorem d_La_law_392 : decode code 392 = .ok (.iload 4, 2) := by decide +kernel
theorem d_La_law_394 : decode code 394 = .ok (.iconst 1, 1) := by decide +kernel
theorem d_La_law_395 : decode code 395 = .ok (.iadd, 1) := by decide +kernel
theorem d_La_law_396 : decode code 396 = .ok (.iaload, 1) := by decide +kernel
theorem d_La_law_397 : decode code 397 = .ok (.invokevirtual 60, 3) := by decide +kernel
theorem d_La_law_400 : decode code 400 = .ok (.if_icmp .eq 323, 3) := by decide +kernel
theorem d_La_law_403 : decode code 403 = .ok (.iconst 0, 1) := by decide +kernel
theorem d_La_law_404 : decode code 404 = .ok (.ireturn, 1) := by decide +kernel
theorem d_La_law_405 : decode code 405 = .ok (.aload_n 1, 1) := by decide +kernel
theorem d_La_law_406 : decode code 406 = .ok (.aload_n 0, 1) := by decide +kernel
theorem d_La_law_407 : decode code 407 = .ok (.iload 4, 2) := by decide +kernel
theorem d_La_law_409 : decode code 409 = .ok (.iconst 1, 1) := by decide +kernel
theorem d_La_law_410 : decode code 410 = .ok (.iadd, 1) := by decide +kernel
theorem d_La_law_411 : decode code 411 = .ok (.iaload, 1) := by decide +kernel
theorem d_La_law_412 : decode code 412 = .ok (.invokevirtual 61, 3) := by decide +kernel
theorem d_La_law_415 : decode code 415 = .ok (.aload_n 2, 1) := by decide +kernel
theorem d_La_law_416 : decode code 416 = .ok (.aload_n 0, 1) := by decide +kernel
theorem d_La_law_417 : decode code 417 = .ok (.iload 4, 2) := by decide +kernel
theorem d_La_law_419 : decode code 419 = .ok (.iconst 1, 1) := by decide +kernel
theorem d_La_law_420 : decode code 420 = .ok (.iadd, 1) := by decide +kernel
theorem d_La_law_421 : decode code 421 = .ok (.iaload, 1) := by decide +kernel
theorem d_La_law_422 : decode code 422 = .ok (.invokevirtual 64, 3) := by decide +kernel
theorem d_La_law_425 : decode code 425 = .ok (.if_icmp .eq 298, 3) := by decide +kernel
theorem d_La_law_428 : decode code 428 = .ok (.iconst 0, 1) := by decide +kernel
theorem d_La_law_429 : decode code 429 = .ok (.ireturn, 1) := by decide +kernel
theorem d_La_law_430 : decode code 430 = .ok (.aload_n 1, 1) := by decide +kernel
theorem d_La_law_431 : decode code 431 = .ok (.aload_n 0, 1) := by decide +kernel
theorem d_La_law_432 : decode code 432 = .ok (.iload 4, 2) := by decide +kernel
theorem d_La_law_434 : decode code 434 = .ok (.iconst 1, 1) := by decide +kernel
theorem d_La_law_435 : decode code 435 = .ok (.iadd, 1) := by decide +kernel
theorem d_La_law_436 : decode code 436 = .ok (.iaload, 1) := by decide +kernel
theorem d_La_law_437 : decode code 437 = .ok (.invokevirtual 65, 3) := by decide +kernel
theorem d_La_law_440 : decode code 440 = .ok (.aload_n 2, 1) := by decide +kernel
theorem d_La_law_441 : decode code 441 = .ok (.aload_n 0, 1) := by decide +kernel
theorem d_La_law_442 : decode code 442 = .ok (.iload 4, 2) := by decide +kernel
theorem d_La_law_444 : decode code 444 = .ok (.iconst 1, 1) := by decide +kernel
theorem d_La_law_445 : decode code 445 = .ok (.iadd, 1) := by decide +kernel
theorem d_La_law_446 : decode code 446 = .ok (.iaload, 1) := by decide +kernel
theorem d_La_law_447 : decode code 447 = .ok (.invokevirtual 68, 3) := by decide +kernel
theorem d_La_law_450 : decode code 450 = .ok (.if_icmp .eq 273, 3) := by decide +kernel
theorem d_La_law_453 : decode code 453 = .ok (.iconst 0, 1) := by decide +kernel
theorem d_La_law_454 : decode code 454 = .ok (.ireturn, 1) := by decide +kernel
theorem d_La_law_455 : decode code 455 = .ok (.aload_n 1, 1) := by decide +kernel
theorem d_La_law_456 : decode code 456 = .ok (.aload_n 0, 1) := by decide +kernel
theorem d_La_law_457 : decode code 457 = .ok (.iload 4, 2) := by decide +kernel
theorem d_La_law_459 : decode code 459 = .ok (.iconst 1, 1) := by decide +kernel
theorem d_La_law_460 : decode code 460 = .ok (.iadd, 1) := by decide +kernel
theorem d_La_law_461 : decode code 461 = .ok (.iaload, 1) := by decide +kernel
theorem d_La_law_462 : decode code 462 = .ok (.aload_n 0, 1) := by decide +kernel
theorem d_La_law_463 : decode code 463 = .ok (.iload 4, 2) := by decide +kernel
theorem d_La_law_465 : decode code 465 = .ok (.iconst 2, 1) := by decide +kernel
theorem d_La_law_466 : decode code 466 = .ok (.iadd, 1) := by decide +kernel
theorem d_La_law_467 : decode code 467 = .ok (.iaload, 1) := by decide +kernel
theorem d_La_law_468 : decode code 468 = .ok (.invokevirtual 69, 3) := by decide +kernel
theorem d_La_law_471 : decode code 471 = .ok (.aload_n 2, 1) := by decide +kernel
theorem d_La_law_472 : decode code 472 = .ok (.aload_n 0, 1) := by decide +kernel
theorem d_La_law_473 : decode code 473 = .ok (.iload 4, 2) := by decide +kernel
theorem d_La_law_475 : decode code 475 = .ok (.iconst 1, 1) := by decide +kernel
theorem d_La_law_476 : decode code 476 = .ok (.iadd, 1) := by decide +kernel
theorem d_La_law_477 : decode code 477 = .ok (.iaload, 1) := by decide +kernel
theorem d_La_law_478 : decode code 478 = .ok (.aload_n 0, 1) := by decide +kernel
theorem d_La_law_479 : decode code 479 = .ok (.iload 4, 2) := by decide +kernel
theorem d_La_law_481 : decode code 481 = .ok (.iconst 2, 1) := by decide +kernel
theorem d_La_law_482 : decode code 482 = .ok (.iadd, 1) := by decide +kernel
theorem d_La_law_483 : decode code 483 = .ok (.iaload, 1) := by decide +kernel
theorem d_La_law_484 : decode code 484 = .ok (.invokevirtual 72, 3) := by decide +kernel
theorem d_La_law_487 : decode code 487 = .ok (.if_icmp .eq 236, 3) := by decide +kernel
theorem d_La_law_490 : decode code 490 = .ok (.iconst 0, 1) := by decide +kernel
theorem d_La_law_491 : decode code 491 = .ok (.ireturn, 1) := by decide +kernel
theorem d_La_law_492 : decode code 492 = .ok (.aload_n 1, 1) := by decide +kernel
theorem d_La_law_493 : decode code 493 = .ok (.aload_n 0, 1) := by decide +kernel
theorem d_La_law_494 : decode code 494 = .ok (.iload 4, 2) := by decide +kernel
theorem d_La_law_496 : decode code 496 = .ok (.iconst 1, 1) := by decide +kernel
theorem d_La_law_497 : decode code 497 = .ok (.iadd, 1) := by decide +kernel
theorem d_La_law_498 : decode code 498 = .ok (.iaload, 1) := by decide +kernel
theorem d_La_law_499 : decode code 499 = .ok (.aload_n 0, 1) := by decide +kernel
theorem d_La_law_500 : decode code 500 = .ok (.iload 4, 2) := by decide +kernel
theorem d_La_law_502 : decode code 502 = .ok (.iconst 2, 1) := by decide +kernel
theorem d_La_law_503 : decode code 503 = .ok (.iadd, 1) := by decide +kernel
theorem d_La_law_504 : decode code 504 = .ok (.iaload, 1) := by decide +kernel
theorem d_La_law_505 : decode code 505 = .ok (.aload_n 0, 1) := by decide +kernel
theorem d_La_law_506 : decode code 506 = .ok (.iload 4, 2) := by decide +kernel
theorem d_La_law_508 : decode code 508 = .ok (.iconst 3, 1) := by decide +kernel
theorem d_La_law_509 : decode code 509 = .ok (.iadd, 1) := by decide +kernel
theorem d_La_law_510 : decode code 510 = .ok (.iaload, 1) := by decide +kernel
theorem d_La_law_511 : decode code 511 = .ok (.invokevirtual 73, 3) := by decide +kernel
theorem d_La_law_514 : decode code 514 = .ok (.aload_n 2, 1) := by decide +kernel
theorem d_La_law_515 : decode code 515 = .ok (.aload_n 0, 1) := by decide +kernel
theorem d_La_law_516 : decode code 516 = .ok (.iload 4, 2) := by decide +kernel
theorem d_La_law_518 : decode code 518 = .ok (.iconst 1, 1) := by decide +kernel
theorem d_La_law_519 : decode code 519 = .ok (.iadd, 1) := by decide +kernel
theorem d_La_law_520 : decode code 520 = .ok (.iaload, 1) := by decide +kernel
theorem d_La_law_521 : decode code 521 = .ok (.aload_n 0, 1) := by decide +kernel
theorem d_La_law_522 : decode code 522 = .ok (.iload 4, 2) := by decide +kernel
theorem d_La_law_524 : decode code 524 = .ok (.iconst 2, 1) := by decide +kernel
theorem d_La_law_525 : decode code 525 = .ok (.iadd, 1) := by decide +kernel
theorem d_La_law_526 : decode code 526 = .ok (.iaload, 1) := by decide +kernel
theorem d_La_law_527 : decode code 527 = .ok (.aload_n 0, 1) := by decide +kernel
theorem d_La_law_528 : decode code 528 = .ok (.iload 4, 2) := by decide +kernel
theorem d_La_law_530 : decode code 530 = .ok (.iconst 3, 1) := by decide +kernel
theorem d_La_law_531 : decode code 531 = .ok (.iadd, 1) := by decide +kernel
theorem d_La_law_532 : decode code 532 = .ok (.iaload, 1) := by decide +kernel
theorem d_La_law_533 : decode code 533 = .ok (.invokevirtual 77, 3) := by decide +kernel
theorem d_La_law_536 : decode code 536 = .ok (.if_icmp .eq 187, 3) := by decide +kernel
theorem d_La_law_539 : decode code 539 = .ok (.iconst 0, 1) := by decide +kernel
theorem d_La_law_540 : decode code 540 = .ok (.ireturn, 1) := by decide +kernel
theorem d_La_law_541 : decode code 541 = .ok (.aload_n 1, 1) := by decide +kernel
theorem d_La_law_542 : decode code 542 = .ok (.aload_n 0, 1) := by decide +kernel
theorem d_La_law_543 : decode code 543 = .ok (.iload 4, 2) := by decide +kernel
theorem d_La_law_545 : decode code 545 = .ok (.iconst 1, 1) := by decide +kernel
theorem d_La_law_546 : decode code 546 = .ok (.iadd, 1) := by decide +kernel
theorem d_La_law_547 : decode code 547 = .ok (.iaload, 1) := by decide +kernel
theorem d_La_law_548 : decode code 548 = .ok (.aload_n 0, 1) := by decide +kernel
theorem d_La_law_549 : decode code 549 = .ok (.iload 4, 2) := by decide +kernel
theorem d_La_law_551 : decode code 551 = .ok (.iconst 2, 1) := by decide +kernel
theorem d_La_law_552 : decode code 552 = .ok (.iadd, 1) := by decide +kernel
theorem d_La_law_553 : decode code 553 = .ok (.iaload, 1) := by decide +kernel
theorem d_La_law_554 : decode code 554 = .ok (.invokevirtual 78, 3) := by decide +kernel
theorem d_La_law_557 : decode code 557 = .ok (.aload_n 2, 1) := by decide +kernel
theorem d_La_law_558 : decode code 558 = .ok (.aload_n 0, 1) := by decide +kernel
theorem d_La_law_559 : decode code 559 = .ok (.iload 4, 2) := by decide +kernel
theorem d_La_law_561 : decode code 561 = .ok (.iconst 1, 1) := by decide +kernel
theorem d_La_law_562 : decode code 562 = .ok (.iadd, 1) := by decide +kernel
theorem d_La_law_563 : decode code 563 = .ok (.iaload, 1) := by decide +kernel
theorem d_La_law_564 : decode code 564 = .ok (.aload_n 0, 1) := by decide +kernel
theorem d_La_law_565 : decode code 565 = .ok (.iload 4, 2) := by decide +kernel
theorem d_La_law_567 : decode code 567 = .ok (.iconst 2, 1) := by decide +kernel
theorem d_La_law_568 : decode code 568 = .ok (.iadd, 1) := by decide +kernel
theorem d_La_law_569 : decode code 569 = .ok (.iaload, 1) := by decide +kernel
theorem d_La_law_570 : decode code 570 = .ok (.invokevirtual 81, 3) := by decide +kernel
theorem d_La_law_573 : decode code 573 = .ok (.if_icmp .eq 150, 3) := by decide +kernel
theorem d_La_law_576 : decode code 576 = .ok (.iconst 0, 1) := by decide +kernel
theorem d_La_law_577 : decode code 577 = .ok (.ireturn, 1) := by decide +kernel
theorem d_La_law_578 : decode code 578 = .ok (.aload_n 1, 1) := by decide +kernel
theorem d_La_law_579 : decode code 579 = .ok (.aload_n 0, 1) := by decide +kernel
theorem d_La_law_580 : decode code 580 = .ok (.iload 4, 2) := by decide +kernel
theorem d_La_law_582 : decode code 582 = .ok (.iconst 1, 1) := by decide +kernel
theorem d_La_law_583 : decode code 583 = .ok (.iadd, 1) := by decide +kernel
theorem d_La_law_584 : decode code 584 = .ok (.iaload, 1) := by decide +kernel
theorem d_La_law_585 : decode code 585 = .ok (.aload_n 0, 1) := by decide +kernel
theorem d_La_law_586 : decode code 586 = .ok (.iload 4, 2) := by decide +kernel
theorem d_La_law_588 : decode code 588 = .ok (.iconst 2, 1) := by decide +kernel
theorem d_La_law_589 : decode code 589 = .ok (.iadd, 1) := by decide +kernel
theorem d_La_law_590 : decode code 590 = .ok (.iaload, 1) := by decide +kernel
theorem d_La_law_591 : decode code 591 = .ok (.ifCond .eq 7, 3) := by decide +kernel
theorem d_La_law_594 : decode code 594 = .ok (.iconst 1, 1) := by decide +kernel
theorem d_La_law_595 : decode code 595 = .ok (.goto 4, 3) := by decide +kernel
theorem d_La_law_598 : decode code 598 = .ok (.iconst 0, 1) := by decide +kernel
theorem d_La_law_599 : decode code 599 = .ok (.invokevirtual 82, 3) := by decide +kernel
theorem d_La_law_602 : decode code 602 = .ok (.aload_n 2, 1) := by decide +kernel
theorem d_La_law_603 : decode code 603 = .ok (.aload_n 0, 1) := by decide +kernel
theorem d_La_law_604 : decode code 604 = .ok (.iload 4, 2) := by decide +kernel
theorem d_La_law_606 : decode code 606 = .ok (.iconst 1, 1) := by decide +kernel
theorem d_La_law_607 : decode code 607 = .ok (.iadd, 1) := by decide +kernel
theorem d_La_law_608 : decode code 608 = .ok (.iaload, 1) := by decide +kernel
theorem d_La_law_609 : decode code 609 = .ok (.aload_n 0, 1) := by decide +kernel
theorem d_La_law_610 : decode code 610 = .ok (.iload 4, 2) := by decide +kernel
theorem d_La_law_612 : decode code 612 = .ok (.iconst 2, 1) := by decide +kernel
theorem d_La_law_613 : decode code 613 = .ok (.iadd, 1) := by decide +kernel
theorem d_La_law_614 : decode code 614 = .ok (.iaload, 1) := by decide +kernel
theorem d_La_law_615 : decode code 615 = .ok (.ifCond .eq 7, 3) := by decide +kernel
theorem d_La_law_618 : decode code 618 = .ok (.iconst 1, 1) := by decide +kernel
theorem d_La_law_619 : decode code 619 = .ok (.goto 4, 3) := by decide +kernel
theorem d_La_law_622 : decode code 622 = .ok (.iconst 0, 1) := by decide +kernel
theorem d_La_law_623 : decode code 623 = .ok (.invokevirtual 86, 3) := by decide +kernel
theorem d_La_law_626 : decode code 626 = .ok (.if_icmp .eq 97, 3) := by decide +kernel
theorem d_La_law_629 : decode code 629 = .ok (.iconst 0, 1) := by decide +kernel
theorem d_La_law_630 : decode code 630 = .ok (.ireturn, 1) := by decide +kernel
theorem d_La_law_631 : decode code 631 = .ok (.aload_n 1, 1) := by decide +kernel
theorem d_La_law_632 : decode code 632 = .ok (.aload_n 0, 1) := by decide +kernel
theorem d_La_law_633 : decode code 633 = .ok (.iload 4, 2) := by decide +kernel
theorem d_La_law_635 : decode code 635 = .ok (.iconst 1, 1) := by decide +kernel
theorem d_La_law_636 : decode code 636 = .ok (.iadd, 1) := by decide +kernel
theorem d_La_law_637 : decode code 637 = .ok (.iaload, 1) := by decide +kernel
theorem d_La_law_638 : decode code 638 = .ok (.aload_n 0, 1) := by decide +kernel
theorem d_La_law_639 : decode code 639 = .ok (.iload 4, 2) := by decide +kernel
theorem d_La_law_641 : decode code 641 = .ok (.iconst 2, 1) := by decide +kernel
theorem d_La_law_642 : decode code 642 = .ok (.iadd, 1) := by decide +kernel
theorem d_La_law_643 : decode code 643 = .ok (.iaload, 1) := by decide +kernel
theorem d_La_law_644 : decode code 644 = .ok (.aload_n 3, 1) := by decide +kernel
theorem d_La_law_645 : decode code 645 = .ok (.invokestatic 87, 3) := by decide +kernel
theorem d_La_law_648 : decode code 648 = .ok (.istore 5, 2) := by decide +kernel
theorem d_La_law_650 : decode code 650 = .ok (.aload_n 2, 1) := by decide +kernel
theorem d_La_law_651 : decode code 651 = .ok (.aload_n 0, 1) := by decide +kernel
theorem d_La_law_652 : decode code 652 = .ok (.iload 4, 2) := by decide +kernel
theorem d_La_law_654 : decode code 654 = .ok (.iconst 1, 1) := by decide +kernel
theorem d_La_law_655 : decode code 655 = .ok (.iadd, 1) := by decide +kernel
theorem d_La_law_656 : decode code 656 = .ok (.iaload, 1) := by decide +kernel
theorem d_La_law_657 : decode code 657 = .ok (.aload_n 0, 1) := by decide +kernel
theorem d_La_law_658 : decode code 658 = .ok (.iload 4, 2) := by decide +kernel
theorem d_La_law_660 : decode code 660 = .ok (.iconst 2, 1) := by decide +kernel
theorem d_La_law_661 : decode code 661 = .ok (.iadd, 1) := by decide +kernel
theorem d_La_law_662 : decode code 662 = .ok (.iaload, 1) := by decide +kernel
theorem d_La_law_663 : decode code 663 = .ok (.invokevirtual 92, 3) := by decide +kernel
theorem d_La_law_666 : decode code 666 = .ok (.lstore 6, 2) := by decide +kernel
theorem d_La_law_668 : decode code 668 = .ok (.aload_n 2, 1) := by decide +kernel
theorem d_La_law_669 : decode code 669 = .ok (.invokevirtual 93, 3) := by decide +kernel
theorem d_La_law_672 : decode code 672 = .ok (.iload 5, 2) := by decide +kernel
theorem d_La_law_674 : decode code 674 = .ok (.if_icmp .eq 5, 3) := by decide +kernel
theorem d_La_law_677 : decode code 677 = .ok (.iconst 0, 1) := by decide +kernel
theorem d_La_law_678 : decode code 678 = .ok (.ireturn, 1) := by decide +kernel
theorem d_La_law_679 : decode code 679 = .ok (.iload 5, 2) := by decide +kernel
theorem d_La_law_681 : decode code 681 = .ok (.ifCond .ne 14, 3) := by decide +kernel
theorem d_La_law_684 : decode code 684 = .ok (.aload_n 3, 1) := by decide +kernel
theorem d_La_law_685 : decode code 685 = .ok (.iconst 0, 1) := by decide +kernel
theorem d_La_law_686 : decode code 686 = .ok (.laload, 1) := by decide +kernel
theorem d_La_law_687 : decode code 687 = .ok (.lload 6, 2) := by decide +kernel
theorem d_La_law_689 : decode code 689 = .ok (.lcmp, 1) := by decide +kernel
theorem d_La_law_690 : decode code 690 = .ok (.ifCond .eq 5, 3) := by decide +kernel
theorem d_La_law_693 : decode code 693 = .ok (.iconst 0, 1) := by decide +kernel
theorem d_La_law_694 : decode code 694 = .ok (.ireturn, 1) := by decide +kernel
theorem d_La_law_695 : decode code 695 = .ok (.goto 28, 3) := by decide +kernel
theorem d_La_law_698 : decode code 698 = .ok (.aload_n 1, 1) := by decide +kernel
theorem d_La_law_699 : decode code 699 = .ok (.aload_n 0, 1) := by decide +kernel
theorem d_La_law_700 : decode code 700 = .ok (.iload 4, 2) := by decide +kernel
theorem d_La_law_702 : decode code 702 = .ok (.iconst 1, 1) := by decide +kernel
theorem d_La_law_703 : decode code 703 = .ok (.iadd, 1) := by decide +kernel
theorem d_La_law_704 : decode code 704 = .ok (.iaload, 1) := by decide +kernel
theorem d_La_law_705 : decode code 705 = .ok (.invokevirtual 96, 3) := by decide +kernel
theorem d_La_law_708 : decode code 708 = .ok (.aload_n 2, 1) := by decide +kernel
theorem d_La_law_709 : decode code 709 = .ok (.aload_n 0, 1) := by decide +kernel
theorem d_La_law_710 : decode code 710 = .ok (.iload 4, 2) := by decide +kernel
theorem d_La_law_712 : decode code 712 = .ok (.iconst 1, 1) := by decide +kernel
theorem d_La_law_713 : decode code 713 = .ok (.iadd, 1) := by decide +kernel
theorem d_La_law_714 : decode code 714 = .ok (.iaload, 1) := by decide +kernel
theorem d_La_law_715 : decode code 715 = .ok (.invokevirtual 99, 3) := by decide +kernel
theorem d_La_law_718 : decode code 718 = .ok (.if_icmp .eq 5, 3) := by decide +kernel
theorem d_La_law_721 : decode code 721 = .ok (.iconst 0, 1) := by decide +kernel
theorem d_La_law_722 : decode code 722 = .ok (.ireturn, 1) := by decide +kernel
theorem d_La_law_723 : decode code 723 = .ok (.iinc 4 4, 3) := by decide +kernel
theorem d_La_law_726 : decode code 726 = .ok (.goto (-703), 3) := by decide +kernel
theorem d_La_law_729 : decode code 729 = .ok (.iconst 1, 1) := by decide +kernel
theorem d_La_law_730 : decode code 730 = .ok (.ireturn, 1) := by decide +kernel
