theorem d_Bn_between_18 : decode b_Bn_between 18 = .ok (.istore 6, 2) := by decide +kernel
theorem d_Bn_between_20 : decode b_Bn_between 20 = .ok (.aload_n 1, 1) := by decide +kernel
theorem d_Bn_between_21 : decode b_Bn_between 21 = .ok (.getfield 29, 3) := by decide +kernel
theorem d_Bn_between_24 : decode b_Bn_between 24 = .ok (.iload_n 2, 1) := by decide +kernel
theorem d_Bn_between_25 : decode b_Bn_between 25 = .ok (.iaload, 1) := by decide +kernel
theorem d_Bn_between_26 : decode b_Bn_between 26 = .ok (.iload 5, 2) := by decide +kernel
theorem d_Bn_between_28 : decode b_Bn_between 28 = .ok (.isub, 1) := by decide +kernel
theorem d_Bn_between_29 : decode b_Bn_between 29 = .ok (.istore 7, 2) := by decide +kernel
theorem d_Bn_between_31 : decode b_Bn_between 31 = .ok (.aload_n 3, 1) := by decide +kernel
theorem d_Bn_between_32 : decode b_Bn_between 32 = .ok (.getfield 29, 3) := by decide +kernel
theorem d_Bn_between_35 : decode b_Bn_between 35 = .ok (.iload 4, 2) := by decide +kernel
theorem d_Bn_between_37 : decode b_Bn_between 37 = .ok (.iaload, 1) := by decide +kernel
theorem d_Bn_between_38 : decode b_Bn_between 38 = .ok (.iload 5, 2) := by decide +kernel
theorem d_Bn_between_40 : decode b_Bn_between 40 = .ok (.isub, 1) := by decide +kernel
theorem d_Bn_between_41 : decode b_Bn_between 41 = .ok (.istore 8, 2) := by decide +kernel
theorem d_Bn_between_43 : decode b_Bn_between 43 = .ok (.iload 7, 2) := by decide +kernel
theorem d_Bn_between_45 : decode b_Bn_between 45 = .ok (.aload_n 0, 1) := by decide +kernel
theorem d_Bn_between_46 : decode b_Bn_between 46 = .ok (.getfield 9, 3) := by decide +kernel
theorem d_Bn_between_49 : decode b_Bn_between 49 = .ok (.invokevirtual 34, 3) := by decide +kernel
theorem d_Bn_between_52 : decode b_Bn_between 52 = .ok (.iload 6, 2) := by decide +kernel
theorem d_Bn_between_54 : decode b_Bn_between 54 = .ok (.invokestatic 37, 3) := by decide +kernel
theorem d_Bn_between_57 : decode b_Bn_between 57 = .ok (.imul, 1) := by decide +kernel
theorem d_Bn_between_58 : decode b_Bn_between 58 = .ok (.iload 8, 2) := by decide +kernel
theorem d_Bn_between_60 : decode b_Bn_between 60 = .ok (.aload_n 0, 1) := by decide +kernel
theorem d_Bn_between_61 : decode b_Bn_between 61 = .ok (.getfield 9, 3) := by decide +kernel
theorem d_Bn_between_64 : decode b_Bn_between 64 = .ok (.invokevirtual 43, 3) := by decide +kernel
theorem d_Bn_between_67 : decode b_Bn_between 67 = .ok (.iload 6, 2) := by decide +kernel
theorem d_Bn_between_69 : decode b_Bn_between 69 = .ok (.invokestatic 37, 3) := by decide +kernel
theorem d_Bn_between_72 : decode b_Bn_between 72 = .ok (.imul, 1) := by decide +kernel
theorem d_Bn_between_73 : decode b_Bn_between 73 = .ok (.invokestatic 46, 3) := by decide +kernel
theorem d_Bn_between_76 : decode b_Bn_between 76 = .ok (.ireturn, 1) := by decide +kernel
theorem d_Bn_sharedLetters_0 : decode b_Bn_sharedLetters 0 = .ok (.iload_n 2, 1) := by decide +kernel
theorem d_Bn_sharedLetters_1 : decode b_Bn_sharedLetters 1 = .ok (.invokestatic 49, 3) := by decide +kernel
theorem d_Bn_sharedLetters_4 : decode b_Bn_sharedLetters 4 = .ok (.istore 5, 2) := by decide +kernel
theorem d_Bn_sharedLetters_6 : decode b_Bn_sharedLetters 6 = .ok (.iload 4, 2) := by decide +kernel
theorem d_Bn_sharedLetters_8 : decode b_Bn_sharedLetters 8 = .ok (.invokestatic 49, 3) := by decide +kernel
theorem d_Bn_sharedLetters_11 : decode b_Bn_sharedLetters 11 = .ok (.istore 6, 2) := by decide +kernel
theorem d_Bn_sharedLetters_13 : decode b_Bn_sharedLetters 13 = .ok (.iconst 0, 1) := by decide +kernel
theorem d_Bn_sharedLetters_14 : decode b_Bn_sharedLetters 14 = .ok (.istore 7, 2) := by decide +kernel
theorem d_Bn_sharedLetters_16 : decode b_Bn_sharedLetters 16 = .ok (.iload 7, 2) := by decide +kernel
theorem d_Bn_sharedLetters_18 : decode b_Bn_sharedLetters 18 = .ok (.aload_n 1, 1) := by decide +kernel
theorem d_Bn_sharedLetters_19 : decode b_Bn_sharedLetters 19 = .ok (.getfield 29, 3) := by decide +kernel
theorem d_Bn_sharedLetters_22 : decode b_Bn_sharedLetters 22 = .ok (.iload_n 2, 1) := by decide +kernel
theorem d_Bn_sharedLetters_23 : decode b_Bn_sharedLetters 23 = .ok (.iaload, 1) := by decide +kernel
theorem d_Bn_sharedLetters_24 : decode b_Bn_sharedLetters 24 = .ok (.if_icmp .ge 28, 3) := by decide +kernel
theorem d_Bn_sharedLetters_27 : decode b_Bn_sharedLetters 27 = .ok (.aload_n 0, 1) := by decide +kernel
theorem d_Bn_sharedLetters_28 : decode b_Bn_sharedLetters 28 = .ok (.getfield 15, 3) := by decide +kernel
theorem d_Bn_sharedLetters_31 : decode b_Bn_sharedLetters 31 = .ok (.aload_n 1, 1) := by decide +kernel
theorem d_Bn_sharedLetters_32 : decode b_Bn_sharedLetters 32 = .ok (.getfield 53, 3) := by decide +kernel
theorem d_Bn_sharedLetters_35 : decode b_Bn_sharedLetters 35 = .ok (.iload 5, 2) := by decide +kernel
theorem d_Bn_sharedLetters_37 : decode b_Bn_sharedLetters 37 = .ok (.iload 7, 2) := by decide +kernel
theorem d_Bn_sharedLetters_39 : decode b_Bn_sharedLetters 39 = .ok (.iadd, 1) := by decide +kernel
theorem d_Bn_sharedLetters_40 : decode b_Bn_sharedLetters 40 = .ok (.iaload, 1) := by decide +kernel
theorem d_Bn_sharedLetters_41 : decode b_Bn_sharedLetters 41 = .ok (.dup2, 1) := by decide +kernel
theorem d_Bn_sharedLetters_42 : decode b_Bn_sharedLetters 42 = .ok (.iaload, 1) := by decide +kernel
theorem d_Bn_sharedLetters_43 : decode b_Bn_sharedLetters 43 = .ok (.iconst 1, 1) := by decide +kernel
theorem d_Bn_sharedLetters_44 : decode b_Bn_sharedLetters 44 = .ok (.iadd, 1) := by decide +kernel
theorem d_Bn_sharedLetters_45 : decode b_Bn_sharedLetters 45 = .ok (.iastore, 1) := by decide +kernel
theorem d_Bn_sharedLetters_46 : decode b_Bn_sharedLetters 46 = .ok (.iinc 7 1, 3) := by decide +kernel
theorem d_Bn_sharedLetters_49 : decode b_Bn_sharedLetters 49 = .ok (.goto (-33), 3) := by decide +kernel
theorem d_Bn_sharedLetters_52 : decode b_Bn_sharedLetters 52 = .ok (.iconst 0, 1) := by decide +kernel
theorem d_Bn_sharedLetters_53 : decode b_Bn_sharedLetters 53 = .ok (.istore 7, 2) := by decide +kernel
theorem d_Bn_sharedLetters_55 : decode b_Bn_sharedLetters 55 = .ok (.iconst 0, 1) := by decide +kernel
theorem d_Bn_sharedLetters_56 : decode b_Bn_sharedLetters 56 = .ok (.istore 8, 2) := by decide +kernel
theorem d_Bn_sharedLetters_58 : decode b_Bn_sharedLetters 58 = .ok (.iload 8, 2) := by decide +kernel
theorem d_Bn_sharedLetters_60 : decode b_Bn_sharedLetters 60 = .ok (.aload_n 3, 1) := by decide +kernel
theorem d_Bn_sharedLetters_61 : decode b_Bn_sharedLetters 61 = .ok (.getfield 29, 3) := by decide +kernel
theorem d_Bn_sharedLetters_64 : decode b_Bn_sharedLetters 64 = .ok (.iload 4, 2) := by decide +kernel
theorem d_Bn_sharedLetters_66 : decode b_Bn_sharedLetters 66 = .ok (.iaload, 1) := by decide +kernel
theorem d_Bn_sharedLetters_67 : decode b_Bn_sharedLetters 67 = .ok (.if_icmp .ge 45, 3) := by decide +kernel
theorem d_Bn_sharedLetters_70 : decode b_Bn_sharedLetters 70 = .ok (.aload_n 3, 1) := by decide +kernel
theorem d_Bn_sharedLetters_71 : decode b_Bn_sharedLetters 71 = .ok (.getfield 53, 3) := by decide +kernel
theorem d_Bn_sharedLetters_74 : decode b_Bn_sharedLetters 74 = .ok (.iload 6, 2) := by decide +kernel
theorem d_Bn_sharedLetters_76 : decode b_Bn_sharedLetters 76 = .ok (.iload 8, 2) := by decide +kernel
theorem d_Bn_sharedLetters_78 : decode b_Bn_sharedLetters 78 = .ok (.iadd, 1) := by decide +kernel
theorem d_Bn_sharedLetters_79 : decode b_Bn_sharedLetters 79 = .ok (.iaload, 1) := by decide +kernel
theorem d_Bn_sharedLetters_80 : decode b_Bn_sharedLetters 80 = .ok (.istore 9, 2) := by decide +kernel
theorem d_Bn_sharedLetters_82 : decode b_Bn_sharedLetters 82 = .ok (.aload_n 0, 1) := by decide +kernel
theorem d_Bn_sharedLetters_83 : decode b_Bn_sharedLetters 83 = .ok (.getfield 15, 3) := by decide +kernel
theorem d_Bn_sharedLetters_86 : decode b_Bn_sharedLetters 86 = .ok (.iload 9, 2) := by decide +kernel
theorem d_Bn_sharedLetters_88 : decode b_Bn_sharedLetters 88 = .ok (.iaload, 1) := by decide +kernel
theorem d_Bn_sharedLetters_89 : decode b_Bn_sharedLetters 89 = .ok (.ifCond .le 17, 3) := by decide +kernel
theorem d_Bn_sharedLetters_92 : decode b_Bn_sharedLetters 92 = .ok (.aload_n 0, 1) := by decide +kernel
theorem d_Bn_sharedLetters_93 : decode b_Bn_sharedLetters 93 = .ok (.getfield 15, 3) := by decide +kernel
theorem d_Bn_sharedLetters_96 : decode b_Bn_sharedLetters 96 = .ok (.iload 9, 2) := by decide +kernel
theorem d_Bn_sharedLetters_98 : decode b_Bn_sharedLetters 98 = .ok (.dup2, 1) := by decide +kernel
theorem d_Bn_sharedLetters_99 : decode b_Bn_sharedLetters 99 = .ok (.iaload, 1) := by decide +kernel
theorem d_Bn_sharedLetters_100 : decode b_Bn_sharedLetters 100 = .ok (.iconst 1, 1) := by decide +kernel
theorem d_Bn_sharedLetters_101 : decode b_Bn_sharedLetters 101 = .ok (.isub, 1) := by decide +kernel
theorem d_Bn_sharedLetters_102 : decode b_Bn_sharedLetters 102 = .ok (.iastore, 1) := by decide +kernel
theorem d_Bn_sharedLetters_103 : decode b_Bn_sharedLetters 103 = .ok (.iinc 7 1, 3) := by decide +kernel
theorem d_Bn_sharedLetters_106 : decode b_Bn_sharedLetters 106 = .ok (.iinc 8 1, 3) := by decide +kernel
theorem d_Bn_sharedLetters_109 : decode b_Bn_sharedLetters 109 = .ok (.goto (-51), 3) := by decide +kernel
theorem d_Bn_sharedLetters_112 : decode b_Bn_sharedLetters 112 = .ok (.iconst 0, 1) := by decide +kernel
theorem d_Bn_sharedLetters_113 : decode b_Bn_sharedLetters 113 = .ok (.istore 8, 2) := by decide +kernel
theorem d_Bn_sharedLetters_115 : decode b_Bn_sharedLetters 115 = .ok (.iload 8, 2) := by decide +kernel
theorem d_Bn_sharedLetters_117 : decode b_Bn_sharedLetters 117 = .ok (.aload_n 1, 1) := by decide +kernel
theorem d_Bn_sharedLetters_118 : decode b_Bn_sharedLetters 118 = .ok (.getfield 29, 3) := by decide +kernel
theorem d_Bn_sharedLetters_121 : decode b_Bn_sharedLetters 121 = .ok (.iload_n 2, 1) := by decide +kernel
theorem d_Bn_sharedLetters_122 : decode b_Bn_sharedLetters 122 = .ok (.iaload, 1) := by decide +kernel
theorem d_Bn_sharedLetters_123 : decode b_Bn_sharedLetters 123 = .ok (.if_icmp .ge 25, 3) := by decide +kernel
theorem d_Bn_sharedLetters_126 : decode b_Bn_sharedLetters 126 = .ok (.aload_n 0, 1) := by decide +kernel
theorem d_Bn_sharedLetters_127 : decode b_Bn_sharedLetters 127 = .ok (.getfield 15, 3) := by decide +kernel
theorem d_Bn_sharedLetters_130 : decode b_Bn_sharedLetters 130 = .ok (.aload_n 1, 1) := by decide +kernel
theorem d_Bn_sharedLetters_131 : decode b_Bn_sharedLetters 131 = .ok (.getfield 53, 3) := by decide +kernel
theorem d_Bn_sharedLetters_134 : decode b_Bn_sharedLetters 134 = .ok (.iload 5, 2) := by decide +kernel
theorem d_Bn_sharedLetters_136 : decode b_Bn_sharedLetters 136 = .ok (.iload 8, 2) := by decide +kernel
theorem d_Bn_sharedLetters_138 : decode b_Bn_sharedLetters 138 = .ok (.iadd, 1) := by decide +kernel
theorem d_Bn_sharedLetters_139 : decode b_Bn_sharedLetters 139 = .ok (.iaload, 1) := by decide +kernel
theorem d_Bn_sharedLetters_140 : decode b_Bn_sharedLetters 140 = .ok (.iconst 0, 1) := by decide +kernel
theorem d_Bn_sharedLetters_141 : decode b_Bn_sharedLetters 141 = .ok (.iastore, 1) := by decide +kernel
theorem d_Bn_sharedLetters_142 : decode b_Bn_sharedLetters 142 = .ok (.iinc 8 1, 3) := by decide +kernel
theorem d_Bn_sharedLetters_145 : decode b_Bn_sharedLetters 145 = .ok (.goto (-30), 3) := by decide +kernel
theorem d_Bn_sharedLetters_148 : decode b_Bn_sharedLetters 148 = .ok (.iload 7, 2) := by decide +kernel
theorem d_Bn_sharedLetters_150 : decode b_Bn_sharedLetters 150 = .ok (.ireturn, 1) := by decide +kernel
theorem d_Hi_init_0 : decode b_Hi_init 0 = .ok (.aload_n 0, 1) := by decide +kernel
theorem d_Hi_init_1 : decode b_Hi_init 1 = .ok (.invokespecial 3, 3) := by decide +kernel
theorem d_Hi_init_4 : decode b_Hi_init 4 = .ok (.aload_n 0, 1) := by decide +kernel
theorem d_Hi_init_5 : decode b_Hi_init 5 = .ok (.bipush 40, 2) := by decide +kernel
theorem d_Hi_init_7 : decode b_Hi_init 7 = .ok (.newarray .int, 2) := by decide +kernel
theorem d_Hi_init_9 : decode b_Hi_init 9 = .ok (.putfield 9, 3) := by decide +kernel
theorem d_Hi_init_12 : decode b_Hi_init 12 = .ok (.aload_n 0, 1) := by decide +kernel
theorem d_Hi_init_13 : decode b_Hi_init 13 = .ok (.bipush 40, 2) := by decide +kernel
theorem d_Hi_init_15 : decode b_Hi_init 15 = .ok (.newarray .int, 2) := by decide +kernel
theorem d_Hi_init_17 : decode b_Hi_init 17 = .ok (.putfield 15, 3) := by decide +kernel
theorem d_Hi_init_20 : decode b_Hi_init 20 = .ok (.aload_n 0, 1) := by decide +kernel
theorem d_Hi_init_21 : decode b_Hi_init 21 = .ok (.bipush 40, 2) := by decide +kernel
theorem d_Hi_init_23 : decode b_Hi_init 23 = .ok (.newarray .int, 2) := by decide +kernel
theorem d_Hi_init_25 : decode b_Hi_init 25 = .ok (.putfield 18, 3) := by decide +kernel
theorem d_Hi_init_28 : decode b_Hi_init 28 = .ok (.aload_n 0, 1) := by decide +kernel
theorem d_Hi_init_29 : decode b_Hi_init 29 = .ok (.iconst 0, 1) := by decide +kernel
theorem d_Hi_init_30 : decode b_Hi_init 30 = .ok (.putfield 21, 3) := by decide +kernel
theorem d_Hi_init_33 : decode b_Hi_init 33 = .ok (.aload_n 0, 1) := by decide +kernel
theorem d_Hi_init_34 : decode b_Hi_init 34 = .ok (.iconst 0, 1) := by decide +kernel
theorem d_Hi_init_35 : decode b_Hi_init 35 = .ok (.putfield 25, 3) := by decide +kernel
theorem d_Hi_init_38 : decode b_Hi_init 38 = .ok (.aload_n 0, 1) := by decide +kernel
theorem d_Hi_init_39 : decode b_Hi_init 39 = .ok (.iconst 0, 1) := by decide +kernel
theorem d_Hi_init_40 : decode b_Hi_init 40 = .ok (.putfield 28, 3) := by decide +kernel
theorem d_Hi_init_43 : decode b_Hi_init 43 = .ok (.return_, 1) := by decide +kernel
theorem d_Hi_start_0 : decode b_Hi_start 0 = .ok (.aload_n 0, 1) := by decide +kernel
theorem d_Hi_start_1 : decode b_Hi_start 1 = .ok (.iload_n 1, 1) := by decide +kernel
theorem d_Hi_start_2 : decode b_Hi_start 2 = .ok (.putfield 21, 3) := by decide +kernel
theorem d_Hi_start_5 : decode b_Hi_start 5 = .ok (.aload_n 0, 1) := by decide +kernel
theorem d_Hi_start_6 : decode b_Hi_start 6 = .ok (.iload_n 2, 1) := by decide +kernel
theorem d_Hi_start_7 : decode b_Hi_start 7 = .ok (.putfield 25, 3) := by decide +kernel
theorem d_Hi_start_10 : decode b_Hi_start 10 = .ok (.aload_n 0, 1) := by decide +kernel
theorem d_Hi_start_11 : decode b_Hi_start 11 = .ok (.iconst 0, 1) := by decide +kernel
theorem d_Hi_start_12 : decode b_Hi_start 12 = .ok (.putfield 28, 3) := by decide +kernel
theorem d_Hi_start_15 : decode b_Hi_start 15 = .ok (.return_, 1) := by decide +kernel
theorem d_Hi_has_0 : decode b_Hi_has 0 = .ok (.iload_n 1, 1) := by decide +kernel
theorem d_Hi_has_1 : decode b_Hi_has 1 = .ok (.ifCond .lt 15, 3) := by decide +kernel
theorem d_Hi_has_4 : decode b_Hi_has 4 = .ok (.iload_n 1, 1) := by decide +kernel
theorem d_Hi_has_5 : decode b_Hi_has 5 = .ok (.aload_n 0, 1) := by decide +kernel
theorem d_Hi_has_6 : decode b_Hi_has 6 = .ok (.getfield 28, 3) := by decide +kernel
theorem d_Hi_has_9 : decode b_Hi_has 9 = .ok (.if_icmp .ge 7, 3) := by decide +kernel
theorem d_Hi_has_12 : decode b_Hi_has 12 = .ok (.iconst 1, 1) := by decide +kernel
theorem d_Hi_has_13 : decode b_Hi_has 13 = .ok (.goto 4, 3) := by decide +kernel
theorem d_Hi_has_16 : decode b_Hi_has 16 = .ok (.iconst 0, 1) := by decide +kernel
theorem d_Hi_has_17 : decode b_Hi_has 17 = .ok (.ireturn, 1) := by decide +kernel
theorem d_Hi_limit_0 : decode b_Hi_limit 0 = .ok (.aload_n 0, 1) := by decide +kernel
theorem d_Hi_limit_1 : decode b_Hi_limit 1 = .ok (.getfield 28, 3) := by decide +kernel
theorem d_Hi_limit_4 : decode b_Hi_limit 4 = .ok (.ifCond .le 28, 3) := by decide +kernel
theorem d_Hi_limit_7 : decode b_Hi_limit 7 = .ok (.aload_n 0, 1) := by decide +kernel
theorem d_Hi_limit_8 : decode b_Hi_limit 8 = .ok (.getfield 28, 3) := by decide +kernel
theorem d_Hi_limit_11 : decode b_Hi_limit 11 = .ok (.aload_n 0, 1) := by decide +kernel
theorem d_Hi_limit_12 : decode b_Hi_limit 12 = .ok (.getfield 21, 3) := by decide +kernel
theorem d_Hi_limit_15 : decode b_Hi_limit 15 = .ok (.if_icmp .lt 17, 3) := by decide +kernel
theorem d_Hi_limit_18 : decode b_Hi_limit 18 = .ok (.aload_n 0, 1) := by decide +kernel
theorem d_Hi_limit_19 : decode b_Hi_limit 19 = .ok (.getfield 15, 3) := by decide +kernel
theorem d_Hi_limit_22 : decode b_Hi_limit 22 = .ok (.aload_n 0, 1) := by decide +kernel
theorem d_Hi_limit_23 : decode b_Hi_limit 23 = .ok (.getfield 28, 3) := by decide +kernel
theorem d_Hi_limit_26 : decode b_Hi_limit 26 = .ok (.iconst 1, 1) := by decide +kernel
theorem d_Hi_limit_27 : decode b_Hi_limit 27 = .ok (.isub, 1) := by decide +kernel
theorem d_Hi_limit_28 : decode b_Hi_limit 28 = .ok (.iaload, 1) := by decide +kernel
theorem d_Hi_limit_29 : decode b_Hi_limit 29 = .ok (.goto 7, 3) := by decide +kernel
theorem d_Hi_limit_32 : decode b_Hi_limit 32 = .ok (.aload_n 0, 1) := by decide +kernel
theorem d_Hi_limit_33 : decode b_Hi_limit 33 = .ok (.getfield 25, 3) := by decide +kernel
theorem d_Hi_limit_36 : decode b_Hi_limit 36 = .ok (.ireturn, 1) := by decide +kernel
theorem d_Hi_offer_0 : decode b_Hi_offer 0 = .ok (.iload_n 2, 1) := by decide +kernel
theorem d_Hi_offer_1 : decode b_Hi_offer 1 = .ok (.aload_n 0, 1) := by decide +kernel
theorem d_Hi_offer_2 : decode b_Hi_offer 2 = .ok (.getfield 25, 3) := by decide +kernel
theorem d_Hi_offer_5 : decode b_Hi_offer 5 = .ok (.if_icmp .le 4, 3) := by decide +kernel
theorem d_Hi_offer_8 : decode b_Hi_offer 8 = .ok (.return_, 1) := by decide +kernel
theorem d_Hi_offer_9 : decode b_Hi_offer 9 = .ok (.aload_n 0, 1) := by decide +kernel
theorem d_Hi_offer_10 : decode b_Hi_offer 10 = .ok (.getfield 28, 3) := by decide +kernel
theorem d_Hi_offer_13 : decode b_Hi_offer 13 = .ok (.istore 4, 2) := by decide +kernel
theorem d_Hi_offer_15 : decode b_Hi_offer 15 = .ok (.iload 4, 2) := by decide +kernel
theorem d_Hi_offer_17 : decode b_Hi_offer 17 = .ok (.ifCond .le 22, 3) := by decide +kernel
theorem d_Hi_offer_20 : decode b_Hi_offer 20 = .ok (.aload_n 0, 1) := by decide +kernel
theorem d_Hi_offer_21 : decode b_Hi_offer 21 = .ok (.iload_n 2, 1) := by decide +kernel
theorem d_Hi_offer_22 : decode b_Hi_offer 22 = .ok (.iload_n 3, 1) := by decide +kernel
theorem d_Hi_offer_23 : decode b_Hi_offer 23 = .ok (.iload 4, 2) := by decide +kernel
theorem d_Hi_offer_25 : decode b_Hi_offer 25 = .ok (.iconst 1, 1) := by decide +kernel
theorem d_Hi_offer_26 : decode b_Hi_offer 26 = .ok (.isub, 1) := by decide +kernel
theorem d_Hi_offer_27 : decode b_Hi_offer 27 = .ok (.invokevirtual 31, 3) := by decide +kernel
theorem d_Hi_offer_30 : decode b_Hi_offer 30 = .ok (.ifCond .eq 9, 3) := by decide +kernel
theorem d_Hi_offer_33 : decode b_Hi_offer 33 = .ok (.iinc 4 (-1), 3) := by decide +kernel
theorem d_Hi_offer_36 : decode b_Hi_offer 36 = .ok (.goto (-21), 3) := by decide +kernel
theorem d_Hi_offer_39 : decode b_Hi_offer 39 = .ok (.iload 4, 2) := by decide +kernel
theorem d_Hi_offer_41 : decode b_Hi_offer 41 = .ok (.aload_n 0, 1) := by decide +kernel
theorem d_Hi_offer_42 : decode b_Hi_offer 42 = .ok (.getfield 21, 3) := by decide +kernel
theorem d_Hi_offer_45 : decode b_Hi_offer 45 = .ok (.if_icmp .lt 4, 3) := by decide +kernel
theorem d_Hi_offer_48 : decode b_Hi_offer 48 = .ok (.return_, 1) := by decide +kernel
theorem d_Hi_offer_49 : decode b_Hi_offer 49 = .ok (.aload_n 0, 1) := by decide +kernel
theorem d_Hi_offer_50 : decode b_Hi_offer 50 = .ok (.getfield 28, 3) := by decide +kernel
theorem d_Hi_offer_53 : decode b_Hi_offer 53 = .ok (.aload_n 0, 1) := by decide +kernel
theorem d_Hi_offer_54 : decode b_Hi_offer 54 = .ok (.getfield 21, 3) := by decide +kernel
theorem d_Hi_offer_57 : decode b_Hi_offer 57 = .ok (.if_icmp .ge 13, 3) := by decide +kernel
theorem d_Hi_offer_60 : decode b_Hi_offer 60 = .ok (.aload_n 0, 1) := by decide +kernel
theorem d_Hi_offer_61 : decode b_Hi_offer 61 = .ok (.dup, 1) := by decide +kernel
theorem d_Hi_offer_62 : decode b_Hi_offer 62 = .ok (.getfield 28, 3) := by decide +kernel
theorem d_Hi_offer_65 : decode b_Hi_offer 65 = .ok (.iconst 1, 1) := by decide +kernel
theorem d_Hi_offer_66 : decode b_Hi_offer 66 = .ok (.iadd, 1) := by decide +kernel
theorem d_Hi_offer_67 : decode b_Hi_offer 67 = .ok (.putfield 28, 3) := by decide +kernel
theorem d_Hi_offer_70 : decode b_Hi_offer 70 = .ok (.aload_n 0, 1) := by decide +kernel
theorem d_Hi_offer_71 : decode b_Hi_offer 71 = .ok (.getfield 28, 3) := by decide +kernel
theorem d_Hi_offer_74 : decode b_Hi_offer 74 = .ok (.iconst 1, 1) := by decide +kernel
theorem d_Hi_offer_75 : decode b_Hi_offer 75 = .ok (.isub, 1) := by decide +kernel
theorem d_Hi_offer_76 : decode b_Hi_offer 76 = .ok (.istore 5, 2) := by decide +kernel
theorem d_Hi_offer_78 : decode b_Hi_offer 78 = .ok (.iload 5, 2) := by decide +kernel
theorem d_Hi_offer_80 : decode b_Hi_offer 80 = .ok (.iload 4, 2) := by decide +kernel
theorem d_Hi_offer_82 : decode b_Hi_offer 82 = .ok (.if_icmp .le 19, 3) := by decide +kernel
theorem d_Hi_offer_85 : decode b_Hi_offer 85 = .ok (.aload_n 0, 1) := by decide +kernel
theorem d_Hi_offer_86 : decode b_Hi_offer 86 = .ok (.iload 5, 2) := by decide +kernel
theorem d_Hi_offer_88 : decode b_Hi_offer 88 = .ok (.iconst 1, 1) := by decide +kernel
theorem d_Hi_offer_89 : decode b_Hi_offer 89 = .ok (.isub, 1) := by decide +kernel
theorem d_Hi_offer_90 : decode b_Hi_offer 90 = .ok (.iload 5, 2) := by decide +kernel
theorem d_Hi_offer_92 : decode b_Hi_offer 92 = .ok (.invokevirtual 35, 3) := by decide +kernel
theorem d_Hi_offer_95 : decode b_Hi_offer 95 = .ok (.iinc 5 (-1), 3) := by decide +kernel
theorem d_Hi_offer_98 : decode b_Hi_offer 98 = .ok (.goto (-20), 3) := by decide +kernel
theorem d_Hi_offer_101 : decode b_Hi_offer 101 = .ok (.aload_n 0, 1) := by decide +kernel
theorem d_Hi_offer_102 : decode b_Hi_offer 102 = .ok (.getfield 9, 3) := by decide +kernel
theorem d_Hi_offer_105 : decode b_Hi_offer 105 = .ok (.iload 4, 2) := by decide +kernel
theorem d_Hi_offer_107 : decode b_Hi_offer 107 = .ok (.iload_n 1, 1) := by decide +kernel
theorem d_Hi_offer_108 : decode b_Hi_offer 108 = .ok (.iastore, 1) := by decide +kernel
theorem d_Hi_offer_109 : decode b_Hi_offer 109 = .ok (.aload_n 0, 1) := by decide +kernel
theorem d_Hi_offer_110 : decode b_Hi_offer 110 = .ok (.getfield 15, 3) := by decide +kernel
theorem d_Hi_offer_113 : decode b_Hi_offer 113 = .ok (.iload 4, 2) := by decide +kernel
theorem d_Hi_offer_115 : decode b_Hi_offer 115 = .ok (.iload_n 2, 1) := by decide +kernel
theorem d_Hi_offer_116 : decode b_Hi_offer 116 = .ok (.iastore, 1) := by decide +kernel
theorem d_Hi_offer_117 : decode b_Hi_offer 117 = .ok (.aload_n 0, 1) := by decide +kernel
theorem d_Hi_offer_118 : decode b_Hi_offer 118 = .ok (.getfield 18, 3) := by decide +kernel
theorem d_Hi_offer_121 : decode b_Hi_offer 121 = .ok (.iload 4, 2) := by decide +kernel
theorem d_Hi_offer_123 : decode b_Hi_offer 123 = .ok (.iload_n 3, 1) := by decide +kernel
theorem d_Hi_offer_124 : decode b_Hi_offer 124 = .ok (.iastore, 1) := by decide +kernel
theorem d_Hi_offer_125 : decode b_Hi_offer 125 = .ok (.return_, 1) := by decide +kernel
theorem d_Hi_isNearer_0 : decode b_Hi_isNearer 0 = .ok (.iload_n 1, 1) := by decide +kernel
theorem d_Hi_isNearer_1 : decode b_Hi_isNearer 1 = .ok (.aload_n 0, 1) := by decide +kernel
theorem d_Hi_isNearer_2 : decode b_Hi_isNearer 2 = .ok (.getfield 15, 3) := by decide +kernel
theorem d_Hi_isNearer_5 : decode b_Hi_isNearer 5 = .ok (.iload_n 3, 1) := by decide +kernel
theorem d_Hi_isNearer_6 : decode b_Hi_isNearer 6 = .ok (.iaload, 1) := by decide +kernel
theorem d_Hi_isNearer_7 : decode b_Hi_isNearer 7 = .ok (.if_icmp .lt 23, 3) := by decide +kernel
theorem d_Hi_isNearer_10 : decode b_Hi_isNearer 10 = .ok (.iload_n 1, 1) := by decide +kernel
theorem d_Hi_isNearer_11 : decode b_Hi_isNearer 11 = .ok (.aload_n 0, 1) := by decide +kernel
theorem d_Hi_isNearer_12 : decode b_Hi_isNearer 12 = .ok (.getfield 15, 3) := by decide +kernel
theorem d_Hi_isNearer_15 : decode b_Hi_isNearer 15 = .ok (.iload_n 3, 1) := by decide +kernel
theorem d_Hi_isNearer_16 : decode b_Hi_isNearer 16 = .ok (.iaload, 1) := by decide +kernel
theorem d_Hi_isNearer_17 : decode b_Hi_isNearer 17 = .ok (.if_icmp .ne 17, 3) := by decide +kernel
theorem d_Hi_isNearer_20 : decode b_Hi_isNearer 20 = .ok (.iload_n 2, 1) := by decide +kernel
theorem d_Hi_isNearer_21 : decode b_Hi_isNearer 21 = .ok (.aload_n 0, 1) := by decide +kernel
theorem d_Hi_isNearer_22 : decode b_Hi_isNearer 22 = .ok (.getfield 18, 3) := by decide +kernel
theorem d_Hi_isNearer_25 : decode b_Hi_isNearer 25 = .ok (.iload_n 3, 1) := by decide +kernel
theorem d_Hi_isNearer_26 : decode b_Hi_isNearer 26 = .ok (.iaload, 1) := by decide +kernel
theorem d_Hi_isNearer_27 : decode b_Hi_isNearer 27 = .ok (.if_icmp .le 7, 3) := by decide +kernel
theorem d_Hi_isNearer_30 : decode b_Hi_isNearer 30 = .ok (.iconst 1, 1) := by decide +kernel
theorem d_Hi_isNearer_31 : decode b_Hi_isNearer 31 = .ok (.goto 4, 3) := by decide +kernel
theorem d_Hi_isNearer_34 : decode b_Hi_isNearer 34 = .ok (.iconst 0, 1) := by decide +kernel
theorem d_Hi_isNearer_35 : decode b_Hi_isNearer 35 = .ok (.ireturn, 1) := by decide +kernel
theorem d_Hi_copy_0 : decode b_Hi_copy 0 = .ok (.aload_n 0, 1) := by decide +kernel
theorem d_Hi_copy_1 : decode b_Hi_copy 1 = .ok (.getfield 9, 3) := by decide +kernel
theorem d_Hi_copy_4 : decode b_Hi_copy 4 = .ok (.iload_n 2, 1) := by decide +kernel
theorem d_Hi_copy_5 : decode b_Hi_copy 5 = .ok (.aload_n 0, 1) := by decide +kernel
theorem d_Hi_copy_6 : decode b_Hi_copy 6 = .ok (.getfield 9, 3) := by decide +kernel
theorem d_Hi_copy_9 : decode b_Hi_copy 9 = .ok (.iload_n 1, 1) := by decide +kernel
theorem d_Hi_copy_10 : decode b_Hi_copy 10 = .ok (.iaload, 1) := by decide +kernel
theorem d_Hi_copy_11 : decode b_Hi_copy 11 = .ok (.iastore, 1) := by decide +kernel
theorem d_Hi_copy_12 : decode b_Hi_copy 12 = .ok (.aload_n 0, 1) := by decide +kernel
theorem d_Hi_copy_13 : decode b_Hi_copy 13 = .ok (.getfield 15, 3) := by decide +kernel
theorem d_Hi_copy_16 : decode b_Hi_copy 16 = .ok (.iload_n 2, 1) := by decide +kernel
theorem d_Hi_copy_17 : decode b_Hi_copy 17 = .ok (.aload_n 0, 1) := by decide +kernel
theorem d_Hi_copy_18 : decode b_Hi_copy 18 = .ok (.getfield 15, 3) := by decide +kernel
theorem d_Hi_copy_21 : decode b_Hi_copy 21 = .ok (.iload_n 1, 1) := by decide +kernel
theorem d_Hi_copy_22 : decode b_Hi_copy 22 = .ok (.iaload, 1) := by decide +kernel
theorem d_Hi_copy_23 : decode b_Hi_copy 23 = .ok (.iastore, 1) := by decide +kernel
theorem d_Hi_copy_24 : decode b_Hi_copy 24 = .ok (.aload_n 0, 1) := by decide +kernel
theorem d_Hi_copy_25 : decode b_Hi_copy 25 = .ok (.getfield 18, 3) := by decide +kernel
theorem d_Hi_copy_28 : decode b_Hi_copy 28 = .ok (.iload_n 2, 1) := by decide +kernel
theorem d_Hi_copy_29 : decode b_Hi_copy 29 = .ok (.aload_n 0, 1) := by decide +kernel
theorem d_Hi_copy_30 : decode b_Hi_copy 30 = .ok (.getfield 18, 3) := by decide +kernel
theorem d_Hi_copy_33 : decode b_Hi_copy 33 = .ok (.iload_n 1, 1) := by decide +kernel
theorem d_Hi_copy_34 : decode b_Hi_copy 34 = .ok (.iaload, 1) := by decide +kernel
theorem d_Hi_copy_35 : decode b_Hi_copy 35 = .ok (.iastore, 1) := by decide +kernel
theorem d_Hi_copy_36 : decode b_Hi_copy 36 = .ok (.return_, 1) := by decide +kernel
theorem d_Pa_init_0 : decode b_Pa_init 0 = .ok (.aload_n 0, 1) := by decide +kernel
theorem d_Pa_init_1 : decode b_Pa_init 1 = .ok (.invokespecial 3, 3) := by decide +kernel
theorem d_Pa_init_4 : decode b_Pa_init 4 = .ok (.aload_n 0, 1) := by decide +kernel
theorem d_Pa_init_5 : decode b_Pa_init 5 = .ok (.aload_n 1, 1) := by decide +kernel
theorem d_Pa_init_6 : decode b_Pa_init 6 = .ok (.putfield 9, 3) := by decide +kernel
theorem d_Pa_init_9 : decode b_Pa_init 9 = .ok (.aload_n 0, 1) := by decide +kernel
theorem d_Pa_init_10 : decode b_Pa_init 10 = .ok (.bipush 9, 2) := by decide +kernel
theorem d_Pa_init_12 : decode b_Pa_init 12 = .ok (.newarray .int, 2) := by decide +kernel
theorem d_Pa_init_14 : decode b_Pa_init 14 = .ok (.putfield 15, 3) := by decide +kernel
theorem d_Pa_init_17 : decode b_Pa_init 17 = .ok (.aload_n 0, 1) := by decide +kernel
theorem d_Pa_init_18 : decode b_Pa_init 18 = .ok (.iconst 0, 1) := by decide +kernel
theorem d_Pa_init_19 : decode b_Pa_init 19 = .ok (.putfield 19, 3) := by decide +kernel
theorem d_Pa_init_22 : decode b_Pa_init 22 = .ok (.aload_n 0, 1) := by decide +kernel
theorem d_Pa_init_23 : decode b_Pa_init 23 = .ok (.iconst 0, 1) := by decide +kernel
theorem d_Pa_init_24 : decode b_Pa_init 24 = .ok (.putfield 23, 3) := by decide +kernel
theorem d_Pa_init_27 : decode b_Pa_init 27 = .ok (.return_, 1) := by decide +kernel
theorem d_Pa_partner_0 : decode b_Pa_partner 0 = .ok (.iload_n 0, 1) := by decide +kernel
theorem d_Pa_partner_1 : decode b_Pa_partner 1 = .ok (.iconst 2, 1) := by decide +kernel
theorem d_Pa_partner_2 : decode b_Pa_partner 2 = .ok (.iconst 2, 1) := by decide +kernel
theorem d_Pa_partner_3 : decode b_Pa_partner 3 = .ok (.iload_n 1, 1) := by decide +kernel
theorem d_Pa_partner_4 : decode b_Pa_partner 4 = .ok (.isub, 1) := by decide +kernel
theorem d_Pa_partner_5 : decode b_Pa_partner 5 = .ok (.imul, 1) := by decide +kernel
theorem d_Pa_partner_6 : decode b_Pa_partner 6 = .ok (.ishr, 1) := by decide +kernel
theorem d_Pa_partner_7 : decode b_Pa_partner 7 = .ok (.iconst 3, 1) := by decide +kernel
theorem d_Pa_partner_8 : decode b_Pa_partner 8 = .ok (.iand, 1) := by decide +kernel
theorem d_Pa_partner_9 : decode b_Pa_partner 9 = .ok (.iconst 1, 1) := by decide +kernel
theorem d_Pa_partner_10 : decode b_Pa_partner 10 = .ok (.isub, 1) := by decide +kernel
theorem d_Pa_partner_11 : decode b_Pa_partner 11 = .ok (.ireturn, 1) := by decide +kernel
theorem d_Pa_start_0 : decode b_Pa_start 0 = .ok (.aload_n 0, 1) := by decide +kernel
theorem d_Pa_start_1 : decode b_Pa_start 1 = .ok (.iconst 0, 1) := by decide +kernel
theorem d_Pa_start_2 : decode b_Pa_start 2 = .ok (.putfield 19, 3) := by decide +kernel
theorem d_Pa_start_5 : decode b_Pa_start 5 = .ok (.return_, 1) := by decide +kernel
theorem d_Pa_countWord_0 : decode b_Pa_countWord 0 = .ok (.iload_n 1, 1) := by decide +kernel
theorem d_Pa_countWord_1 : decode b_Pa_countWord 1 = .ok (.ifCond .eq 13, 3) := by decide +kernel
theorem d_Pa_countWord_4 : decode b_Pa_countWord 4 = .ok (.aload_n 0, 1) := by decide +kernel
theorem d_Pa_countWord_5 : decode b_Pa_countWord 5 = .ok (.dup, 1) := by decide +kernel
theorem d_Pa_countWord_6 : decode b_Pa_countWord 6 = .ok (.getfield 19, 3) := by decide +kernel
theorem d_Pa_countWord_9 : decode b_Pa_countWord 9 = .ok (.iconst 1, 1) := by decide +kernel
theorem d_Pa_countWord_10 : decode b_Pa_countWord 10 = .ok (.iadd, 1) := by decide +kernel
theorem d_Pa_countWord_11 : decode b_Pa_countWord 11 = .ok (.putfield 19, 3) := by decide +kernel
theorem d_Pa_countWord_14 : decode b_Pa_countWord 14 = .ok (.return_, 1) := by decide +kernel
theorem d_Pa_setCost_0 : decode b_Pa_setCost 0 = .ok (.aload_n 0, 1) := by decide +kernel
theorem d_Pa_setCost_1 : decode b_Pa_setCost 1 = .ok (.getfield 15, 3) := by decide +kernel
theorem d_Pa_setCost_4 : decode b_Pa_setCost 4 = .ok (.iload_n 1, 1) := by decide +kernel
theorem d_Pa_setCost_5 : decode b_Pa_setCost 5 = .ok (.iconst 3, 1) := by decide +kernel
theorem d_Pa_setCost_6 : decode b_Pa_setCost 6 = .ok (.imul, 1) := by decide +kernel
theorem d_Pa_setCost_7 : decode b_Pa_setCost 7 = .ok (.iload_n 2, 1) := by decide +kernel
theorem d_Pa_setCost_8 : decode b_Pa_setCost 8 = .ok (.iadd, 1) := by decide +kernel
theorem d_Pa_setCost_9 : decode b_Pa_setCost 9 = .ok (.iload_n 3, 1) := by decide +kernel
theorem d_Pa_setCost_10 : decode b_Pa_setCost 10 = .ok (.iastore, 1) := by decide +kernel
theorem d_Pa_setCost_11 : decode b_Pa_setCost 11 = .ok (.return_, 1) := by decide +kernel
theorem d_Pa_choose_0 : decode b_Pa_choose 0 = .ok (.ldc 26, 2) := by decide +kernel
theorem d_Pa_choose_2 : decode b_Pa_choose 2 = .ok (.istore_n 1, 1) := by decide +kernel
theorem d_Pa_choose_3 : decode b_Pa_choose 3 = .ok (.iconst 0, 1) := by decide +kernel
theorem d_Pa_choose_4 : decode b_Pa_choose 4 = .ok (.istore_n 2, 1) := by decide +kernel
theorem d_Pa_choose_5 : decode b_Pa_choose 5 = .ok (.iload_n 2, 1) := by decide +kernel
theorem d_Pa_choose_6 : decode b_Pa_choose 6 = .ok (.bipush 64, 2) := by decide +kernel
theorem d_Pa_choose_8 : decode b_Pa_choose 8 = .ok (.if_icmp .ge 27, 3) := by decide +kernel
theorem d_Pa_choose_11 : decode b_Pa_choose 11 = .ok (.aload_n 0, 1) := by decide +kernel
theorem d_Pa_choose_12 : decode b_Pa_choose 12 = .ok (.iload_n 2, 1) := by decide +kernel
theorem d_Pa_choose_13 : decode b_Pa_choose 13 = .ok (.invokevirtual 27, 3) := by decide +kernel
theorem d_Pa_choose_16 : decode b_Pa_choose 16 = .ok (.istore_n 3, 1) := by decide +kernel
theorem d_Pa_choose_17 : decode b_Pa_choose 17 = .ok (.iload_n 3, 1) := by decide +kernel
theorem d_Pa_choose_18 : decode b_Pa_choose 18 = .ok (.iload_n 1, 1) := by decide +kernel
theorem d_Pa_choose_19 : decode b_Pa_choose 19 = .ok (.if_icmp .ge 10, 3) := by decide +kernel
theorem d_Pa_choose_22 : decode b_Pa_choose 22 = .ok (.iload_n 3, 1) := by decide +kernel
theorem d_Pa_choose_23 : decode b_Pa_choose 23 = .ok (.istore_n 1, 1) := by decide +kernel
theorem d_Pa_choose_24 : decode b_Pa_choose 24 = .ok (.aload_n 0, 1) := by decide +kernel
theorem d_Pa_choose_25 : decode b_Pa_choose 25 = .ok (.iload_n 2, 1) := by decide +kernel
theorem d_Pa_choose_26 : decode b_Pa_choose 26 = .ok (.putfield 23, 3) := by decide +kernel
theorem d_Pa_choose_29 : decode b_Pa_choose 29 = .ok (.iinc 2 1, 3) := by decide +kernel
theorem d_Pa_choose_32 : decode b_Pa_choose 32 = .ok (.goto (-27), 3) := by decide +kernel
theorem d_Pa_choose_35 : decode b_Pa_choose 35 = .ok (.iload_n 1, 1) := by decide +kernel
theorem d_Pa_choose_36 : decode b_Pa_choose 36 = .ok (.ireturn, 1) := by decide +kernel
theorem d_Pa_totalOf_0 : decode b_Pa_totalOf 0 = .ok (.iconst 0, 1) := by decide +kernel
theorem d_Pa_totalOf_1 : decode b_Pa_totalOf 1 = .ok (.istore_n 2, 1) := by decide +kernel
theorem d_Pa_totalOf_2 : decode b_Pa_totalOf 2 = .ok (.aload_n 0, 1) := by decide +kernel
theorem d_Pa_totalOf_3 : decode b_Pa_totalOf 3 = .ok (.getfield 19, 3) := by decide +kernel
theorem d_Pa_totalOf_6 : decode b_Pa_totalOf 6 = .ok (.istore_n 3, 1) := by decide +kernel
theorem d_Pa_totalOf_7 : decode b_Pa_totalOf 7 = .ok (.iconst 0, 1) := by decide +kernel
theorem d_Pa_totalOf_8 : decode b_Pa_totalOf 8 = .ok (.istore 4, 2) := by decide +kernel
theorem d_Pa_totalOf_10 : decode b_Pa_totalOf 10 = .ok (.iload 4, 2) := by decide +kernel
theorem d_Pa_totalOf_12 : decode b_Pa_totalOf 12 = .ok (.iconst 3, 1) := by decide +kernel
theorem d_Pa_totalOf_13 : decode b_Pa_totalOf 13 = .ok (.if_icmp .ge 81, 3) := by decide +kernel
theorem d_Pa_totalOf_16 : decode b_Pa_totalOf 16 = .ok (.iload_n 1, 1) := by decide +kernel
theorem d_Pa_totalOf_17 : decode b_Pa_totalOf 17 = .ok (.iload 4, 2) := by decide +kernel
theorem d_Pa_totalOf_19 : decode b_Pa_totalOf 19 = .ok (.invokestatic 31, 3) := by decide +kernel
theorem d_Pa_totalOf_22 : decode b_Pa_totalOf 22 = .ok (.istore 5, 2) := by decide +kernel
theorem d_Pa_totalOf_24 : decode b_Pa_totalOf 24 = .ok (.iload 5, 2) := by decide +kernel
theorem d_Pa_totalOf_26 : decode b_Pa_totalOf 26 = .ok (.ifCond .lt 62, 3) := by decide +kernel
theorem d_Pa_totalOf_29 : decode b_Pa_totalOf 29 = .ok (.aload_n 0, 1) := by decide +kernel
theorem d_Pa_totalOf_30 : decode b_Pa_totalOf 30 = .ok (.getfield 15, 3) := by decide +kernel
theorem d_Pa_totalOf_33 : decode b_Pa_totalOf 33 = .ok (.iload 4, 2) := by decide +kernel
theorem d_Pa_totalOf_35 : decode b_Pa_totalOf 35 = .ok (.iconst 3, 1) := by decide +kernel
theorem d_Pa_totalOf_36 : decode b_Pa_totalOf 36 = .ok (.imul, 1) := by decide +kernel
theorem d_Pa_totalOf_37 : decode b_Pa_totalOf 37 = .ok (.iload 5, 2) := by decide +kernel
theorem d_Pa_totalOf_39 : decode b_Pa_totalOf 39 = .ok (.iadd, 1) := by decide +kernel
theorem d_Pa_totalOf_40 : decode b_Pa_totalOf 40 = .ok (.iaload, 1) := by decide +kernel
theorem d_Pa_totalOf_41 : decode b_Pa_totalOf 41 = .ok (.istore 6, 2) := by decide +kernel
theorem d_Pa_totalOf_43 : decode b_Pa_totalOf 43 = .ok (.iload 6, 2) := by decide +kernel
theorem d_Pa_totalOf_45 : decode b_Pa_totalOf 45 = .ok (.iconst (-1), 1) := by decide +kernel
theorem d_Pa_totalOf_46 : decode b_Pa_totalOf 46 = .ok (.if_icmp .eq 14, 3) := by decide +kernel
theorem d_Pa_totalOf_49 : decode b_Pa_totalOf 49 = .ok (.iload_n 1, 1) := by decide +kernel
theorem d_Pa_totalOf_50 : decode b_Pa_totalOf 50 = .ok (.iload 4, 2) := by decide +kernel
theorem d_Pa_totalOf_52 : decode b_Pa_totalOf 52 = .ok (.iload 5, 2) := by decide +kernel
theorem d_Pa_totalOf_54 : decode b_Pa_totalOf 54 = .ok (.invokestatic 35, 3) := by decide +kernel
theorem d_Pa_totalOf_57 : decode b_Pa_totalOf 57 = .ok (.ifCond .eq 6, 3) := by decide +kernel
theorem d_Pa_totalOf_60 : decode b_Pa_totalOf 60 = .ok (.ldc 26, 2) := by decide +kernel
theorem d_Pa_totalOf_62 : decode b_Pa_totalOf 62 = .ok (.ireturn, 1) := by decide +kernel
theorem d_Pa_totalOf_63 : decode b_Pa_totalOf 63 = .ok (.iload_n 2, 1) := by decide +kernel
theorem d_Pa_totalOf_64 : decode b_Pa_totalOf 64 = .ok (.iload 6, 2) := by decide +kernel
theorem d_Pa_totalOf_66 : decode b_Pa_totalOf 66 = .ok (.iload_n 1, 1) := by decide +kernel
theorem d_Pa_totalOf_67 : decode b_Pa_totalOf 67 = .ok (.iload 4, 2) := by decide +kernel
theorem d_Pa_totalOf_69 : decode b_Pa_totalOf 69 = .ok (.iload 5, 2) := by decide +kernel
theorem d_Pa_totalOf_71 : decode b_Pa_totalOf 71 = .ok (.invokestatic 39, 3) := by decide +kernel
theorem d_Pa_totalOf_74 : decode b_Pa_totalOf 74 = .ok (.aload_n 0, 1) := by decide +kernel
theorem d_Pa_totalOf_75 : decode b_Pa_totalOf 75 = .ok (.getfield 9, 3) := by decide +kernel
theorem d_Pa_totalOf_78 : decode b_Pa_totalOf 78 = .ok (.invokevirtual 43, 3) := by decide +kernel
theorem d_Pa_totalOf_81 : decode b_Pa_totalOf 81 = .ok (.imul, 1) := by decide +kernel
theorem d_Pa_totalOf_82 : decode b_Pa_totalOf 82 = .ok (.iadd, 1) := by decide +kernel
theorem d_Pa_totalOf_83 : decode b_Pa_totalOf 83 = .ok (.iadd, 1) := by decide +kernel
theorem d_Pa_totalOf_84 : decode b_Pa_totalOf 84 = .ok (.istore_n 2, 1) := by decide +kernel
theorem d_Pa_totalOf_85 : decode b_Pa_totalOf 85 = .ok (.iinc 3 (-2), 3) := by decide +kernel
theorem d_Pa_totalOf_88 : decode b_Pa_totalOf 88 = .ok (.iinc 4 1, 3) := by decide +kernel
theorem d_Pa_totalOf_91 : decode b_Pa_totalOf 91 = .ok (.goto (-81), 3) := by decide +kernel
theorem d_Pa_totalOf_94 : decode b_Pa_totalOf 94 = .ok (.iload_n 2, 1) := by decide +kernel
theorem d_Pa_totalOf_95 : decode b_Pa_totalOf 95 = .ok (.iload_n 3, 1) := by decide +kernel
theorem d_Pa_totalOf_96 : decode b_Pa_totalOf 96 = .ok (.aload_n 0, 1) := by decide +kernel
theorem d_Pa_totalOf_97 : decode b_Pa_totalOf 97 = .ok (.getfield 9, 3) := by decide +kernel
theorem d_Pa_totalOf_100 : decode b_Pa_totalOf 100 = .ok (.invokevirtual 49, 3) := by decide +kernel
theorem d_Pa_totalOf_103 : decode b_Pa_totalOf 103 = .ok (.imul, 1) := by decide +kernel
theorem d_Pa_totalOf_104 : decode b_Pa_totalOf 104 = .ok (.iadd, 1) := by decide +kernel
theorem d_Pa_totalOf_105 : decode b_Pa_totalOf 105 = .ok (.ireturn, 1) := by decide +kernel
theorem d_Pa_isTaken_0 : decode b_Pa_isTaken 0 = .ok (.iconst 0, 1) := by decide +kernel
theorem d_Pa_isTaken_1 : decode b_Pa_isTaken 1 = .ok (.istore_n 3, 1) := by decide +kernel
theorem d_Pa_isTaken_2 : decode b_Pa_isTaken 2 = .ok (.iload_n 3, 1) := by decide +kernel
theorem d_Pa_isTaken_3 : decode b_Pa_isTaken 3 = .ok (.iload_n 1, 1) := by decide +kernel
theorem d_Pa_isTaken_4 : decode b_Pa_isTaken 4 = .ok (.if_icmp .ge 20, 3) := by decide +kernel
theorem d_Pa_isTaken_7 : decode b_Pa_isTaken 7 = .ok (.iload_n 0, 1) := by decide +kernel
theorem d_Pa_isTaken_8 : decode b_Pa_isTaken 8 = .ok (.iload_n 3, 1) := by decide +kernel
theorem d_Pa_isTaken_9 : decode b_Pa_isTaken 9 = .ok (.invokestatic 31, 3) := by decide +kernel
theorem d_Pa_isTaken_12 : decode b_Pa_isTaken 12 = .ok (.iload_n 2, 1) := by decide +kernel
theorem d_Pa_isTaken_13 : decode b_Pa_isTaken 13 = .ok (.if_icmp .ne 5, 3) := by decide +kernel
theorem d_Pa_isTaken_16 : decode b_Pa_isTaken 16 = .ok (.iconst 1, 1) := by decide +kernel
theorem d_Pa_isTaken_17 : decode b_Pa_isTaken 17 = .ok (.ireturn, 1) := by decide +kernel
theorem d_Pa_isTaken_18 : decode b_Pa_isTaken 18 = .ok (.iinc 3 1, 3) := by decide +kernel
theorem d_Pa_isTaken_21 : decode b_Pa_isTaken 21 = .ok (.goto (-19), 3) := by decide +kernel
theorem d_Pa_isTaken_24 : decode b_Pa_isTaken 24 = .ok (.iconst 0, 1) := by decide +kernel
theorem d_Pa_isTaken_25 : decode b_Pa_isTaken 25 = .ok (.ireturn, 1) := by decide +kernel
theorem d_Pa_turnedBefore_0 : decode b_Pa_turnedBefore 0 = .ok (.iconst 0, 1) := by decide +kernel
theorem d_Pa_turnedBefore_1 : decode b_Pa_turnedBefore 1 = .ok (.istore_n 3, 1) := by decide +kernel
theorem d_Pa_turnedBefore_2 : decode b_Pa_turnedBefore 2 = .ok (.iconst 0, 1) := by decide +kernel
theorem d_Pa_turnedBefore_3 : decode b_Pa_turnedBefore 3 = .ok (.istore 4, 2) := by decide +kernel
theorem d_Pa_turnedBefore_5 : decode b_Pa_turnedBefore 5 = .ok (.iload 4, 2) := by decide +kernel
theorem d_Pa_turnedBefore_7 : decode b_Pa_turnedBefore 7 = .ok (.iload_n 1, 1) := by decide +kernel
theorem d_Pa_turnedBefore_8 : decode b_Pa_turnedBefore 8 = .ok (.if_icmp .ge 22, 3) := by decide +kernel
theorem d_Pa_turnedBefore_11 : decode b_Pa_turnedBefore 11 = .ok (.iload_n 0, 1) := by decide +kernel
theorem d_Pa_turnedBefore_12 : decode b_Pa_turnedBefore 12 = .ok (.iload 4, 2) := by decide +kernel
theorem d_Pa_turnedBefore_14 : decode b_Pa_turnedBefore 14 = .ok (.invokestatic 31, 3) := by decide +kernel
theorem d_Pa_turnedBefore_17 : decode b_Pa_turnedBefore 17 = .ok (.iload_n 2, 1) := by decide +kernel
theorem d_Pa_turnedBefore_18 : decode b_Pa_turnedBefore 18 = .ok (.if_icmp .le 6, 3) := by decide +kernel
theorem d_Pa_turnedBefore_21 : decode b_Pa_turnedBefore 21 = .ok (.iinc 3 1, 3) := by decide +kernel
theorem d_Pa_turnedBefore_24 : decode b_Pa_turnedBefore 24 = .ok (.iinc 4 1, 3) := by decide +kernel
theorem d_Pa_turnedBefore_27 : decode b_Pa_turnedBefore 27 = .ok (.goto (-22), 3) := by decide +kernel
theorem d_Pa_turnedBefore_30 : decode b_Pa_turnedBefore 30 = .ok (.iload_n 3, 1) := by decide +kernel
theorem d_Pa_turnedBefore_31 : decode b_Pa_turnedBefore 31 = .ok (.ireturn, 1) := by decide +kernel
theorem d_We_init_0 : decode b_We_init 0 = .ok (.aload_n 0, 1) := by decide +kernel
theorem d_We_init_1 : decode b_We_init 1 = .ok (.invokespecial 1, 3) := by decide +kernel
theorem d_We_init_4 : decode b_We_init 4 = .ok (.aload_n 0, 1) := by decide +kernel
theorem d_We_init_5 : decode b_We_init 5 = .ok (.bipush 6, 2) := by decide +kernel
theorem d_We_init_7 : decode b_We_init 7 = .ok (.newarray .int, 2) := by decide +kernel
theorem d_We_init_9 : decode b_We_init 9 = .ok (.dup, 1) := by decide +kernel
theorem d_We_init_10 : decode b_We_init 10 = .ok (.iconst 0, 1) := by decide +kernel
theorem d_We_init_11 : decode b_We_init 11 = .ok (.bipush 10, 2) := by decide +kernel
theorem d_We_init_13 : decode b_We_init 13 = .ok (.iastore, 1) := by decide +kernel
theorem d_We_init_14 : decode b_We_init 14 = .ok (.dup, 1) := by decide +kernel
theorem d_We_init_15 : decode b_We_init 15 = .ok (.iconst 1, 1) := by decide +kernel
theorem d_We_init_16 : decode b_We_init 16 = .ok (.bipush 10, 2) := by decide +kernel
theorem d_We_init_18 : decode b_We_init 18 = .ok (.iastore, 1) := by decide +kernel
theorem d_We_init_19 : decode b_We_init 19 = .ok (.dup, 1) := by decide +kernel
theorem d_We_init_20 : decode b_We_init 20 = .ok (.iconst 2, 1) := by decide +kernel
theorem d_We_init_21 : decode b_We_init 21 = .ok (.bipush 15, 2) := by decide +kernel
theorem d_We_init_23 : decode b_We_init 23 = .ok (.iastore, 1) := by decide +kernel
theorem d_We_init_24 : decode b_We_init 24 = .ok (.dup, 1) := by decide +kernel
theorem d_We_init_25 : decode b_We_init 25 = .ok (.iconst 3, 1) := by decide +kernel
theorem d_We_init_26 : decode b_We_init 26 = .ok (.iconst 5, 1) := by decide +kernel
theorem d_We_init_27 : decode b_We_init 27 = .ok (.iastore, 1) := by decide +kernel
theorem d_We_init_28 : decode b_We_init 28 = .ok (.dup, 1) := by decide +kernel
theorem d_We_init_29 : decode b_We_init 29 = .ok (.iconst 4, 1) := by decide +kernel
theorem d_We_init_30 : decode b_We_init 30 = .ok (.bipush 60, 2) := by decide +kernel
theorem d_We_init_32 : decode b_We_init 32 = .ok (.iastore, 1) := by decide +kernel
theorem d_We_init_33 : decode b_We_init 33 = .ok (.dup, 1) := by decide +kernel
theorem d_We_init_34 : decode b_We_init 34 = .ok (.iconst 5, 1) := by decide +kernel
theorem d_We_init_35 : decode b_We_init 35 = .ok (.bipush 20, 2) := by decide +kernel
theorem d_We_init_37 : decode b_We_init 37 = .ok (.iastore, 1) := by decide +kernel
theorem d_We_init_38 : decode b_We_init 38 = .ok (.putfield 7, 3) := by decide +kernel
theorem d_We_init_41 : decode b_We_init 41 = .ok (.return_, 1) := by decide +kernel
theorem d_We_isKind_0 : decode b_We_isKind 0 = .ok (.iload_n 0, 1) := by decide +kernel
theorem d_We_isKind_1 : decode b_We_isKind 1 = .ok (.ifCond .lt 13, 3) := by decide +kernel
theorem d_We_isKind_4 : decode b_We_isKind 4 = .ok (.iload_n 0, 1) := by decide +kernel
theorem d_We_isKind_5 : decode b_We_isKind 5 = .ok (.bipush 6, 2) := by decide +kernel
theorem d_We_isKind_7 : decode b_We_isKind 7 = .ok (.if_icmp .ge 7, 3) := by decide +kernel
theorem d_We_isKind_10 : decode b_We_isKind 10 = .ok (.iconst 1, 1) := by decide +kernel
theorem d_We_isKind_11 : decode b_We_isKind 11 = .ok (.goto 4, 3) := by decide +kernel
theorem d_We_isKind_14 : decode b_We_isKind 14 = .ok (.iconst 0, 1) := by decide +kernel
theorem d_We_isKind_15 : decode b_We_isKind 15 = .ok (.ireturn, 1) := by decide +kernel
theorem d_We_isWeight_0 : decode b_We_isWeight 0 = .ok (.iload_n 0, 1) := by decide +kernel
theorem d_We_isWeight_1 : decode b_We_isWeight 1 = .ok (.ifCond .lt 14, 3) := by decide +kernel
theorem d_We_isWeight_4 : decode b_We_isWeight 4 = .ok (.iload_n 0, 1) := by decide +kernel
theorem d_We_isWeight_5 : decode b_We_isWeight 5 = .ok (.sipush 1000, 3) := by decide +kernel
theorem d_We_isWeight_8 : decode b_We_isWeight 8 = .ok (.if_icmp .gt 7, 3) := by decide +kernel
theorem d_We_isWeight_11 : decode b_We_isWeight 11 = .ok (.iconst 1, 1) := by decide +kernel
theorem d_We_isWeight_12 : decode b_We_isWeight 12 = .ok (.goto 4, 3) := by decide +kernel
theorem d_We_isWeight_15 : decode b_We_isWeight 15 = .ok (.iconst 0, 1) := by decide +kernel
theorem d_We_isWeight_16 : decode b_We_isWeight 16 = .ok (.ireturn, 1) := by decide +kernel
theorem d_We_replace_0 : decode b_We_replace 0 = .ok (.aload_n 0, 1) := by decide +kernel
theorem d_We_replace_1 : decode b_We_replace 1 = .ok (.getfield 7, 3) := by decide +kernel
theorem d_We_replace_4 : decode b_We_replace 4 = .ok (.iload_n 1, 1) := by decide +kernel
theorem d_We_replace_5 : decode b_We_replace 5 = .ok (.iaload, 1) := by decide +kernel
theorem d_We_replace_6 : decode b_We_replace 6 = .ok (.istore_n 3, 1) := by decide +kernel
theorem d_We_replace_7 : decode b_We_replace 7 = .ok (.aload_n 0, 1) := by decide +kernel
theorem d_We_replace_8 : decode b_We_replace 8 = .ok (.getfield 7, 3) := by decide +kernel
theorem d_We_replace_11 : decode b_We_replace 11 = .ok (.iload_n 1, 1) := by decide +kernel
theorem d_We_replace_12 : decode b_We_replace 12 = .ok (.iload_n 2, 1) := by decide +kernel
theorem d_We_replace_13 : decode b_We_replace 13 = .ok (.iastore, 1) := by decide +kernel
theorem d_We_replace_14 : decode b_We_replace 14 = .ok (.iload_n 3, 1) := by decide +kernel
theorem d_We_replace_15 : decode b_We_replace 15 = .ok (.ireturn, 1) := by decide +kernel
theorem d_We_putIn_0 : decode b_We_putIn 0 = .ok (.aload_n 0, 1) := by decide +kernel
theorem d_We_putIn_1 : decode b_We_putIn 1 = .ok (.getfield 7, 3) := by decide +kernel
theorem d_We_putIn_4 : decode b_We_putIn 4 = .ok (.iconst 0, 1) := by decide +kernel
theorem d_We_putIn_5 : decode b_We_putIn 5 = .ok (.iaload, 1) := by decide +kernel
theorem d_We_putIn_6 : decode b_We_putIn 6 = .ok (.ireturn, 1) := by decide +kernel
theorem d_We_leftOut_0 : decode b_We_leftOut 0 = .ok (.aload_n 0, 1) := by decide +kernel
theorem d_We_leftOut_1 : decode b_We_leftOut 1 = .ok (.getfield 7, 3) := by decide +kernel
theorem d_We_leftOut_4 : decode b_We_leftOut 4 = .ok (.iconst 1, 1) := by decide +kernel
theorem d_We_leftOut_5 : decode b_We_leftOut 5 = .ok (.iaload, 1) := by decide +kernel
theorem d_We_leftOut_6 : decode b_We_leftOut 6 = .ok (.ireturn, 1) := by decide +kernel
theorem d_We_exchanged_0 : decode b_We_exchanged 0 = .ok (.aload_n 0, 1) := by decide +kernel
theorem d_We_exchanged_1 : decode b_We_exchanged 1 = .ok (.getfield 7, 3) := by decide +kernel
theorem d_We_exchanged_4 : decode b_We_exchanged 4 = .ok (.iconst 2, 1) := by decide +kernel
theorem d_We_exchanged_5 : decode b_We_exchanged 5 = .ok (.iaload, 1) := by decide +kernel
theorem d_We_exchanged_6 : decode b_We_exchanged 6 = .ok (.ireturn, 1) := by decide +kernel
theorem d_We_exchangedAlike_0 : decode b_We_exchangedAlike 0 = .ok (.aload_n 0, 1) := by decide +kernel
theorem d_We_exchangedAlike_1 : decode b_We_exchangedAlike 1 = .ok (.getfield 7, 3) := by decide +kernel
theorem d_We_exchangedAlike_4 : decode b_We_exchangedAlike 4 = .ok (.iconst 2, 1) := by decide +kernel
theorem d_We_exchangedAlike_5 : decode b_We_exchangedAlike 5 = .ok (.iaload, 1) := by decide +kernel
theorem d_We_exchangedAlike_6 : decode b_We_exchangedAlike 6 = .ok (.aload_n 0, 1) := by decide +kernel
theorem d_We_exchangedAlike_7 : decode b_We_exchangedAlike 7 = .ok (.getfield 7, 3) := by decide +kernel
theorem d_We_exchangedAlike_10 : decode b_We_exchangedAlike 10 = .ok (.iconst 3, 1) := by decide +kernel
theorem d_We_exchangedAlike_11 : decode b_We_exchangedAlike 11 = .ok (.iaload, 1) := by decide +kernel
theorem d_We_exchangedAlike_12 : decode b_We_exchangedAlike 12 = .ok (.invokestatic 13, 3) := by decide +kernel
theorem d_We_exchangedAlike_15 : decode b_We_exchangedAlike 15 = .ok (.ireturn, 1) := by decide +kernel
theorem d_We_missing_0 : decode b_We_missing 0 = .ok (.aload_n 0, 1) := by decide +kernel
theorem d_We_missing_1 : decode b_We_missing 1 = .ok (.getfield 7, 3) := by decide +kernel
theorem d_We_missing_4 : decode b_We_missing 4 = .ok (.iconst 4, 1) := by decide +kernel
theorem d_We_missing_5 : decode b_We_missing 5 = .ok (.iaload, 1) := by decide +kernel
theorem d_We_missing_6 : decode b_We_missing 6 = .ok (.ireturn, 1) := by decide +kernel
theorem d_We_turned_0 : decode b_We_turned 0 = .ok (.aload_n 0, 1) := by decide +kernel
theorem d_We_turned_1 : decode b_We_turned 1 = .ok (.getfield 7, 3) := by decide +kernel
