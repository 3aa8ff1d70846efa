theorem d_Nf_init_0 : decode b_Nf_init 0 = .ok (.aload_n 0, 1) := by decide +kernel
theorem d_Nf_init_1 : decode b_Nf_init 1 = .ok (.invokespecial 1, 3) := by decide +kernel
theorem d_Nf_init_4 : decode b_Nf_init 4 = .ok (.aload_n 0, 1) := by decide +kernel
theorem d_Nf_init_5 : decode b_Nf_init 5 = .ok (.new 7, 3) := by decide +kernel
theorem d_Nf_init_8 : decode b_Nf_init 8 = .ok (.dup, 1) := by decide +kernel
theorem d_Nf_init_9 : decode b_Nf_init 9 = .ok (.invokespecial 9, 3) := by decide +kernel
theorem d_Nf_init_12 : decode b_Nf_init 12 = .ok (.putfield 10, 3) := by decide +kernel
theorem d_Nf_init_15 : decode b_Nf_init 15 = .ok (.aload_n 0, 1) := by decide +kernel
theorem d_Nf_init_16 : decode b_Nf_init 16 = .ok (.new 16, 3) := by decide +kernel
theorem d_Nf_init_19 : decode b_Nf_init 19 = .ok (.dup, 1) := by decide +kernel
theorem d_Nf_init_20 : decode b_Nf_init 20 = .ok (.iconst 3, 1) := by decide +kernel
theorem d_Nf_init_21 : decode b_Nf_init 21 = .ok (.invokespecial 18, 3) := by decide +kernel
theorem d_Nf_init_24 : decode b_Nf_init 24 = .ok (.putfield 21, 3) := by decide +kernel
theorem d_Nf_init_27 : decode b_Nf_init 27 = .ok (.aload_n 0, 1) := by decide +kernel
theorem d_Nf_init_28 : decode b_Nf_init 28 = .ok (.new 25, 3) := by decide +kernel
theorem d_Nf_init_31 : decode b_Nf_init 31 = .ok (.dup, 1) := by decide +kernel
theorem d_Nf_init_32 : decode b_Nf_init 32 = .ok (.invokespecial 27, 3) := by decide +kernel
theorem d_Nf_init_35 : decode b_Nf_init 35 = .ok (.putfield 28, 3) := by decide +kernel
theorem d_Nf_init_38 : decode b_Nf_init 38 = .ok (.aload_n 0, 1) := by decide +kernel
theorem d_Nf_init_39 : decode b_Nf_init 39 = .ok (.new 32, 3) := by decide +kernel
theorem d_Nf_init_42 : decode b_Nf_init 42 = .ok (.dup, 1) := by decide +kernel
theorem d_Nf_init_43 : decode b_Nf_init 43 = .ok (.aload_n 0, 1) := by decide +kernel
theorem d_Nf_init_44 : decode b_Nf_init 44 = .ok (.getfield 28, 3) := by decide +kernel
theorem d_Nf_init_47 : decode b_Nf_init 47 = .ok (.invokespecial 34, 3) := by decide +kernel
theorem d_Nf_init_50 : decode b_Nf_init 50 = .ok (.putfield 37, 3) := by decide +kernel
theorem d_Nf_init_53 : decode b_Nf_init 53 = .ok (.aload_n 0, 1) := by decide +kernel
theorem d_Nf_init_54 : decode b_Nf_init 54 = .ok (.new 41, 3) := by decide +kernel
theorem d_Nf_init_57 : decode b_Nf_init 57 = .ok (.dup, 1) := by decide +kernel
theorem d_Nf_init_58 : decode b_Nf_init 58 = .ok (.aload_n 0, 1) := by decide +kernel
theorem d_Nf_init_59 : decode b_Nf_init 59 = .ok (.getfield 28, 3) := by decide +kernel
theorem d_Nf_init_62 : decode b_Nf_init 62 = .ok (.invokespecial 43, 3) := by decide +kernel
theorem d_Nf_init_65 : decode b_Nf_init 65 = .ok (.putfield 44, 3) := by decide +kernel
theorem d_Nf_init_68 : decode b_Nf_init 68 = .ok (.aload_n 0, 1) := by decide +kernel
theorem d_Nf_init_69 : decode b_Nf_init 69 = .ok (.new 47, 3) := by decide +kernel
theorem d_Nf_init_72 : decode b_Nf_init 72 = .ok (.dup, 1) := by decide +kernel
theorem d_Nf_init_73 : decode b_Nf_init 73 = .ok (.aload_n 0, 1) := by decide +kernel
theorem d_Nf_init_74 : decode b_Nf_init 74 = .ok (.getfield 28, 3) := by decide +kernel
theorem d_Nf_init_77 : decode b_Nf_init 77 = .ok (.invokespecial 49, 3) := by decide +kernel
theorem d_Nf_init_80 : decode b_Nf_init 80 = .ok (.putfield 50, 3) := by decide +kernel
theorem d_Nf_init_83 : decode b_Nf_init 83 = .ok (.aload_n 0, 1) := by decide +kernel
theorem d_Nf_init_84 : decode b_Nf_init 84 = .ok (.new 54, 3) := by decide +kernel
theorem d_Nf_init_87 : decode b_Nf_init 87 = .ok (.dup, 1) := by decide +kernel
theorem d_Nf_init_88 : decode b_Nf_init 88 = .ok (.invokespecial 56, 3) := by decide +kernel
theorem d_Nf_init_91 : decode b_Nf_init 91 = .ok (.putfield 57, 3) := by decide +kernel
theorem d_Nf_init_94 : decode b_Nf_init 94 = .ok (.aload_n 0, 1) := by decide +kernel
theorem d_Nf_init_95 : decode b_Nf_init 95 = .ok (.iconst (-1), 1) := by decide +kernel
theorem d_Nf_init_96 : decode b_Nf_init 96 = .ok (.putfield 61, 3) := by decide +kernel
theorem d_Nf_init_99 : decode b_Nf_init 99 = .ok (.aload_n 0, 1) := by decide +kernel
theorem d_Nf_init_100 : decode b_Nf_init 100 = .ok (.iconst 0, 1) := by decide +kernel
theorem d_Nf_init_101 : decode b_Nf_init 101 = .ok (.putfield 65, 3) := by decide +kernel
theorem d_Nf_init_104 : decode b_Nf_init 104 = .ok (.return_, 1) := by decide +kernel
theorem d_Nf_entry_0 : decode b_Nf_entry 0 = .ok (.iload_n 1, 1) := by decide +kernel
theorem d_Nf_entry_1 : decode b_Nf_entry 1 = .ok (.invokestatic 68, 3) := by decide +kernel
theorem d_Nf_entry_4 : decode b_Nf_entry 4 = .ok (.ifCond .eq 13, 3) := by decide +kernel
theorem d_Nf_entry_7 : decode b_Nf_entry 7 = .ok (.aload_n 0, 1) := by decide +kernel
theorem d_Nf_entry_8 : decode b_Nf_entry 8 = .ok (.getfield 10, 3) := by decide +kernel
theorem d_Nf_entry_11 : decode b_Nf_entry 11 = .ok (.invokevirtual 72, 3) := by decide +kernel
theorem d_Nf_entry_14 : decode b_Nf_entry 14 = .ok (.ifCond .eq 5, 3) := by decide +kernel
theorem d_Nf_entry_17 : decode b_Nf_entry 17 = .ok (.iconst (-1), 1) := by decide +kernel
theorem d_Nf_entry_18 : decode b_Nf_entry 18 = .ok (.ireturn, 1) := by decide +kernel
theorem d_Nf_entry_19 : decode b_Nf_entry 19 = .ok (.aload_n 0, 1) := by decide +kernel
theorem d_Nf_entry_20 : decode b_Nf_entry 20 = .ok (.getfield 10, 3) := by decide +kernel
theorem d_Nf_entry_23 : decode b_Nf_entry 23 = .ok (.iload_n 1, 1) := by decide +kernel
theorem d_Nf_entry_24 : decode b_Nf_entry 24 = .ok (.invokevirtual 76, 3) := by decide +kernel
theorem d_Nf_entry_27 : decode b_Nf_entry 27 = .ok (.ireturn, 1) := by decide +kernel
theorem d_Nf_letter_0 : decode b_Nf_letter 0 = .ok (.aload_n 0, 1) := by decide +kernel
theorem d_Nf_letter_1 : decode b_Nf_letter 1 = .ok (.getfield 10, 3) := by decide +kernel
theorem d_Nf_letter_4 : decode b_Nf_letter 4 = .ok (.iload_n 1, 1) := by decide +kernel
theorem d_Nf_letter_5 : decode b_Nf_letter 5 = .ok (.invokevirtual 80, 3) := by decide +kernel
theorem d_Nf_letter_8 : decode b_Nf_letter 8 = .ok (.ifCond .eq 17, 3) := by decide +kernel
theorem d_Nf_letter_11 : decode b_Nf_letter 11 = .ok (.iload_n 2, 1) := by decide +kernel
theorem d_Nf_letter_12 : decode b_Nf_letter 12 = .ok (.invokestatic 83, 3) := by decide +kernel
theorem d_Nf_letter_15 : decode b_Nf_letter 15 = .ok (.ifCond .eq 10, 3) := by decide +kernel
theorem d_Nf_letter_18 : decode b_Nf_letter 18 = .ok (.iload_n 3, 1) := by decide +kernel
theorem d_Nf_letter_19 : decode b_Nf_letter 19 = .ok (.invokestatic 86, 3) := by decide +kernel
theorem d_Nf_letter_22 : decode b_Nf_letter 22 = .ok (.ifCond .ne 5, 3) := by decide +kernel
theorem d_Nf_letter_25 : decode b_Nf_letter 25 = .ok (.iconst 0, 1) := by decide +kernel
theorem d_Nf_letter_26 : decode b_Nf_letter 26 = .ok (.ireturn, 1) := by decide +kernel
theorem d_Nf_letter_27 : decode b_Nf_letter 27 = .ok (.aload_n 0, 1) := by decide +kernel
theorem d_Nf_letter_28 : decode b_Nf_letter 28 = .ok (.getfield 10, 3) := by decide +kernel
theorem d_Nf_letter_31 : decode b_Nf_letter 31 = .ok (.getfield 89, 3) := by decide +kernel
theorem d_Nf_letter_34 : decode b_Nf_letter 34 = .ok (.iload_n 1, 1) := by decide +kernel
theorem d_Nf_letter_35 : decode b_Nf_letter 35 = .ok (.iload_n 2, 1) := by decide +kernel
theorem d_Nf_letter_36 : decode b_Nf_letter 36 = .ok (.invokestatic 92, 3) := by decide +kernel
theorem d_Nf_letter_39 : decode b_Nf_letter 39 = .ok (.iload_n 3, 1) := by decide +kernel
theorem d_Nf_letter_40 : decode b_Nf_letter 40 = .ok (.invokevirtual 96, 3) := by decide +kernel
theorem d_Nf_letter_43 : decode b_Nf_letter 43 = .ok (.ireturn, 1) := by decide +kernel
theorem d_Nf_ask_0 : decode b_Nf_ask 0 = .ok (.iload_n 1, 1) := by decide +kernel
theorem d_Nf_ask_1 : decode b_Nf_ask 1 = .ok (.invokestatic 83, 3) := by decide +kernel
theorem d_Nf_ask_4 : decode b_Nf_ask 4 = .ok (.ifCond .eq 10, 3) := by decide +kernel
theorem d_Nf_ask_7 : decode b_Nf_ask 7 = .ok (.iload_n 2, 1) := by decide +kernel
theorem d_Nf_ask_8 : decode b_Nf_ask 8 = .ok (.invokestatic 86, 3) := by decide +kernel
theorem d_Nf_ask_11 : decode b_Nf_ask 11 = .ok (.ifCond .ne 5, 3) := by decide +kernel
theorem d_Nf_ask_14 : decode b_Nf_ask 14 = .ok (.iconst 0, 1) := by decide +kernel
theorem d_Nf_ask_15 : decode b_Nf_ask 15 = .ok (.ireturn, 1) := by decide +kernel
theorem d_Nf_ask_16 : decode b_Nf_ask 16 = .ok (.aload_n 0, 1) := by decide +kernel
theorem d_Nf_ask_17 : decode b_Nf_ask 17 = .ok (.getfield 21, 3) := by decide +kernel
theorem d_Nf_ask_20 : decode b_Nf_ask 20 = .ok (.iload_n 1, 1) := by decide +kernel
theorem d_Nf_ask_21 : decode b_Nf_ask 21 = .ok (.iload_n 2, 1) := by decide +kernel
theorem d_Nf_ask_22 : decode b_Nf_ask 22 = .ok (.invokevirtual 96, 3) := by decide +kernel
theorem d_Nf_ask_25 : decode b_Nf_ask 25 = .ok (.ireturn, 1) := by decide +kernel
theorem d_Nf_asked_0 : decode b_Nf_asked 0 = .ok (.iload_n 1, 1) := by decide +kernel
theorem d_Nf_asked_1 : decode b_Nf_asked 1 = .ok (.iconst (-1), 1) := by decide +kernel
theorem d_Nf_asked_2 : decode b_Nf_asked 2 = .ok (.if_icmp .eq 12, 3) := by decide +kernel
theorem d_Nf_asked_5 : decode b_Nf_asked 5 = .ok (.iload_n 1, 1) := by decide +kernel
theorem d_Nf_asked_6 : decode b_Nf_asked 6 = .ok (.invokestatic 68, 3) := by decide +kernel
theorem d_Nf_asked_9 : decode b_Nf_asked 9 = .ok (.ifCond .ne 5, 3) := by decide +kernel
theorem d_Nf_asked_12 : decode b_Nf_asked 12 = .ok (.iconst 0, 1) := by decide +kernel
theorem d_Nf_asked_13 : decode b_Nf_asked 13 = .ok (.ireturn, 1) := by decide +kernel
theorem d_Nf_asked_14 : decode b_Nf_asked 14 = .ok (.aload_n 0, 1) := by decide +kernel
theorem d_Nf_asked_15 : decode b_Nf_asked 15 = .ok (.getfield 21, 3) := by decide +kernel
theorem d_Nf_asked_18 : decode b_Nf_asked 18 = .ok (.invokevirtual 100, 3) := by decide +kernel
theorem d_Nf_asked_21 : decode b_Nf_asked 21 = .ok (.aload_n 0, 1) := by decide +kernel
theorem d_Nf_asked_22 : decode b_Nf_asked 22 = .ok (.iload_n 1, 1) := by decide +kernel
theorem d_Nf_asked_23 : decode b_Nf_asked 23 = .ok (.putfield 61, 3) := by decide +kernel
theorem d_Nf_asked_26 : decode b_Nf_asked 26 = .ok (.iconst 1, 1) := by decide +kernel
theorem d_Nf_asked_27 : decode b_Nf_asked 27 = .ok (.ireturn, 1) := by decide +kernel
theorem d_Nf_weight_0 : decode b_Nf_weight 0 = .ok (.iload_n 1, 1) := by decide +kernel
theorem d_Nf_weight_1 : decode b_Nf_weight 1 = .ok (.invokestatic 103, 3) := by decide +kernel
theorem d_Nf_weight_4 : decode b_Nf_weight 4 = .ok (.ifCond .eq 10, 3) := by decide +kernel
theorem d_Nf_weight_7 : decode b_Nf_weight 7 = .ok (.iload_n 2, 1) := by decide +kernel
theorem d_Nf_weight_8 : decode b_Nf_weight 8 = .ok (.invokestatic 106, 3) := by decide +kernel
theorem d_Nf_weight_11 : decode b_Nf_weight 11 = .ok (.ifCond .ne 5, 3) := by decide +kernel
theorem d_Nf_weight_14 : decode b_Nf_weight 14 = .ok (.iconst (-1), 1) := by decide +kernel
theorem d_Nf_weight_15 : decode b_Nf_weight 15 = .ok (.ireturn, 1) := by decide +kernel
theorem d_Nf_weight_16 : decode b_Nf_weight 16 = .ok (.aload_n 0, 1) := by decide +kernel
theorem d_Nf_weight_17 : decode b_Nf_weight 17 = .ok (.getfield 28, 3) := by decide +kernel
theorem d_Nf_weight_20 : decode b_Nf_weight 20 = .ok (.iload_n 1, 1) := by decide +kernel
theorem d_Nf_weight_21 : decode b_Nf_weight 21 = .ok (.iload_n 2, 1) := by decide +kernel
theorem d_Nf_weight_22 : decode b_Nf_weight 22 = .ok (.invokevirtual 109, 3) := by decide +kernel
theorem d_Nf_weight_25 : decode b_Nf_weight 25 = .ok (.ireturn, 1) := by decide +kernel
theorem d_Nf_find_0 : decode b_Nf_find 0 = .ok (.aload_n 0, 1) := by decide +kernel
theorem d_Nf_find_1 : decode b_Nf_find 1 = .ok (.iload_n 1, 1) := by decide +kernel
theorem d_Nf_find_2 : decode b_Nf_find 2 = .ok (.iload_n 2, 1) := by decide +kernel
theorem d_Nf_find_3 : decode b_Nf_find 3 = .ok (.iconst 1, 1) := by decide +kernel
theorem d_Nf_find_4 : decode b_Nf_find 4 = .ok (.invokevirtual 112, 3) := by decide +kernel
theorem d_Nf_find_7 : decode b_Nf_find 7 = .ok (.ireturn, 1) := by decide +kernel
theorem d_Nf_scan_0 : decode b_Nf_scan 0 = .ok (.aload_n 0, 1) := by decide +kernel
theorem d_Nf_scan_1 : decode b_Nf_scan 1 = .ok (.iload_n 1, 1) := by decide +kernel
theorem d_Nf_scan_2 : decode b_Nf_scan 2 = .ok (.iload_n 2, 1) := by decide +kernel
theorem d_Nf_scan_3 : decode b_Nf_scan 3 = .ok (.iconst 0, 1) := by decide +kernel
theorem d_Nf_scan_4 : decode b_Nf_scan 4 = .ok (.invokevirtual 112, 3) := by decide +kernel
theorem d_Nf_scan_7 : decode b_Nf_scan 7 = .ok (.ireturn, 1) := by decide +kernel
theorem d_Nf_worked_0 : decode b_Nf_worked 0 = .ok (.aload_n 0, 1) := by decide +kernel
theorem d_Nf_worked_1 : decode b_Nf_worked 1 = .ok (.getfield 65, 3) := by decide +kernel
theorem d_Nf_worked_4 : decode b_Nf_worked 4 = .ok (.ireturn, 1) := by decide +kernel
theorem d_Nf_found_0 : decode b_Nf_found 0 = .ok (.aload_n 0, 1) := by decide +kernel
theorem d_Nf_found_1 : decode b_Nf_found 1 = .ok (.getfield 57, 3) := by decide +kernel
theorem d_Nf_found_4 : decode b_Nf_found 4 = .ok (.iload_n 1, 1) := by decide +kernel
theorem d_Nf_found_5 : decode b_Nf_found 5 = .ok (.invokevirtual 116, 3) := by decide +kernel
theorem d_Nf_found_8 : decode b_Nf_found 8 = .ok (.ifCond .eq 15, 3) := by decide +kernel
theorem d_Nf_found_11 : decode b_Nf_found 11 = .ok (.aload_n 0, 1) := by decide +kernel
theorem d_Nf_found_12 : decode b_Nf_found 12 = .ok (.getfield 57, 3) := by decide +kernel
theorem d_Nf_found_15 : decode b_Nf_found 15 = .ok (.getfield 117, 3) := by decide +kernel
theorem d_Nf_found_18 : decode b_Nf_found 18 = .ok (.iload_n 1, 1) := by decide +kernel
theorem d_Nf_found_19 : decode b_Nf_found 19 = .ok (.iaload, 1) := by decide +kernel
theorem d_Nf_found_20 : decode b_Nf_found 20 = .ok (.goto 4, 3) := by decide +kernel
theorem d_Nf_found_23 : decode b_Nf_found 23 = .ok (.iconst (-1), 1) := by decide +kernel
theorem d_Nf_found_24 : decode b_Nf_found 24 = .ok (.ireturn, 1) := by decide +kernel
theorem d_Nf_sum_0 : decode b_Nf_sum 0 = .ok (.aload_n 0, 1) := by decide +kernel
theorem d_Nf_sum_1 : decode b_Nf_sum 1 = .ok (.getfield 57, 3) := by decide +kernel
theorem d_Nf_sum_4 : decode b_Nf_sum 4 = .ok (.iload_n 1, 1) := by decide +kernel
theorem d_Nf_sum_5 : decode b_Nf_sum 5 = .ok (.invokevirtual 116, 3) := by decide +kernel
theorem d_Nf_sum_8 : decode b_Nf_sum 8 = .ok (.ifCond .eq 15, 3) := by decide +kernel
theorem d_Nf_sum_11 : decode b_Nf_sum 11 = .ok (.aload_n 0, 1) := by decide +kernel
theorem d_Nf_sum_12 : decode b_Nf_sum 12 = .ok (.getfield 57, 3) := by decide +kernel
theorem d_Nf_sum_15 : decode b_Nf_sum 15 = .ok (.getfield 121, 3) := by decide +kernel
theorem d_Nf_sum_18 : decode b_Nf_sum 18 = .ok (.iload_n 1, 1) := by decide +kernel
theorem d_Nf_sum_19 : decode b_Nf_sum 19 = .ok (.iaload, 1) := by decide +kernel
theorem d_Nf_sum_20 : decode b_Nf_sum 20 = .ok (.goto 4, 3) := by decide +kernel
theorem d_Nf_sum_23 : decode b_Nf_sum 23 = .ok (.iconst (-1), 1) := by decide +kernel
theorem d_Nf_sum_24 : decode b_Nf_sum 24 = .ok (.ireturn, 1) := by decide +kernel
theorem d_Nf_sumOf_0 : decode b_Nf_sumOf 0 = .ok (.aload_n 0, 1) := by decide +kernel
theorem d_Nf_sumOf_1 : decode b_Nf_sumOf 1 = .ok (.getfield 10, 3) := by decide +kernel
theorem d_Nf_sumOf_4 : decode b_Nf_sumOf 4 = .ok (.iload_n 1, 1) := by decide +kernel
theorem d_Nf_sumOf_5 : decode b_Nf_sumOf 5 = .ok (.invokevirtual 80, 3) := by decide +kernel
theorem d_Nf_sumOf_8 : decode b_Nf_sumOf 8 = .ok (.ifCond .eq 15, 3) := by decide +kernel
theorem d_Nf_sumOf_11 : decode b_Nf_sumOf 11 = .ok (.aload_n 0, 1) := by decide +kernel
theorem d_Nf_sumOf_12 : decode b_Nf_sumOf 12 = .ok (.iload_n 1, 1) := by decide +kernel
theorem d_Nf_sumOf_13 : decode b_Nf_sumOf 13 = .ok (.aload_n 0, 1) := by decide +kernel
theorem d_Nf_sumOf_14 : decode b_Nf_sumOf 14 = .ok (.getfield 37, 3) := by decide +kernel
theorem d_Nf_sumOf_17 : decode b_Nf_sumOf 17 = .ok (.invokevirtual 124, 3) := by decide +kernel
theorem d_Nf_sumOf_20 : decode b_Nf_sumOf 20 = .ok (.goto 4, 3) := by decide +kernel
theorem d_Nf_sumOf_23 : decode b_Nf_sumOf 23 = .ok (.iconst (-1), 1) := by decide +kernel
theorem d_Nf_sumOf_24 : decode b_Nf_sumOf 24 = .ok (.ireturn, 1) := by decide +kernel
theorem d_Nf_pair_0 : decode b_Nf_pair 0 = .ok (.aload_n 0, 1) := by decide +kernel
theorem d_Nf_pair_1 : decode b_Nf_pair 1 = .ok (.getfield 10, 3) := by decide +kernel
theorem d_Nf_pair_4 : decode b_Nf_pair 4 = .ok (.iload_n 1, 1) := by decide +kernel
theorem d_Nf_pair_5 : decode b_Nf_pair 5 = .ok (.invokevirtual 80, 3) := by decide +kernel
theorem d_Nf_pair_8 : decode b_Nf_pair 8 = .ok (.ifCond .eq 10, 3) := by decide +kernel
theorem d_Nf_pair_11 : decode b_Nf_pair 11 = .ok (.iload_n 2, 1) := by decide +kernel
theorem d_Nf_pair_12 : decode b_Nf_pair 12 = .ok (.invokestatic 83, 3) := by decide +kernel
theorem d_Nf_pair_15 : decode b_Nf_pair 15 = .ok (.ifCond .ne 5, 3) := by decide +kernel
theorem d_Nf_pair_18 : decode b_Nf_pair 18 = .ok (.iconst (-1), 1) := by decide +kernel
theorem d_Nf_pair_19 : decode b_Nf_pair 19 = .ok (.ireturn, 1) := by decide +kernel
theorem d_Nf_pair_20 : decode b_Nf_pair 20 = .ok (.aload_n 0, 1) := by decide +kernel
theorem d_Nf_pair_21 : decode b_Nf_pair 21 = .ok (.iload_n 1, 1) := by decide +kernel
theorem d_Nf_pair_22 : decode b_Nf_pair 22 = .ok (.aload_n 0, 1) := by decide +kernel
theorem d_Nf_pair_23 : decode b_Nf_pair 23 = .ok (.getfield 37, 3) := by decide +kernel
theorem d_Nf_pair_26 : decode b_Nf_pair 26 = .ok (.invokevirtual 124, 3) := by decide +kernel
theorem d_Nf_pair_29 : decode b_Nf_pair 29 = .ok (.pop, 1) := by decide +kernel
theorem d_Nf_pair_30 : decode b_Nf_pair 30 = .ok (.aload_n 0, 1) := by decide +kernel
theorem d_Nf_pair_31 : decode b_Nf_pair 31 = .ok (.getfield 50, 3) := by decide +kernel
theorem d_Nf_pair_34 : decode b_Nf_pair 34 = .ok (.getfield 128, 3) := by decide +kernel
theorem d_Nf_pair_37 : decode b_Nf_pair 37 = .ok (.iload_n 2, 1) := by decide +kernel
theorem d_Nf_pair_38 : decode b_Nf_pair 38 = .ok (.invokestatic 131, 3) := by decide +kernel
theorem d_Nf_pair_41 : decode b_Nf_pair 41 = .ok (.ireturn, 1) := by decide +kernel
theorem d_Nf_changes_0 : decode b_Nf_changes 0 = .ok (.iload_n 1, 1) := by decide +kernel
theorem d_Nf_changes_1 : decode b_Nf_changes 1 = .ok (.invokestatic 83, 3) := by decide +kernel
theorem d_Nf_changes_4 : decode b_Nf_changes 4 = .ok (.ifCond .eq 21, 3) := by decide +kernel
theorem d_Nf_changes_7 : decode b_Nf_changes 7 = .ok (.aload_n 0, 1) := by decide +kernel
theorem d_Nf_changes_8 : decode b_Nf_changes 8 = .ok (.getfield 10, 3) := by decide +kernel
theorem d_Nf_changes_11 : decode b_Nf_changes 11 = .ok (.iload_n 2, 1) := by decide +kernel
theorem d_Nf_changes_12 : decode b_Nf_changes 12 = .ok (.invokevirtual 80, 3) := by decide +kernel
theorem d_Nf_changes_15 : decode b_Nf_changes 15 = .ok (.ifCond .eq 10, 3) := by decide +kernel
theorem d_Nf_changes_18 : decode b_Nf_changes 18 = .ok (.iload_n 3, 1) := by decide +kernel
theorem d_Nf_changes_19 : decode b_Nf_changes 19 = .ok (.invokestatic 83, 3) := by decide +kernel
theorem d_Nf_changes_22 : decode b_Nf_changes 22 = .ok (.ifCond .ne 5, 3) := by decide +kernel
theorem d_Nf_changes_25 : decode b_Nf_changes 25 = .ok (.iconst (-1), 1) := by decide +kernel
theorem d_Nf_changes_26 : decode b_Nf_changes 26 = .ok (.ireturn, 1) := by decide +kernel
theorem d_Nf_changes_27 : decode b_Nf_changes 27 = .ok (.iload_n 2, 1) := by decide +kernel
theorem d_Nf_changes_28 : decode b_Nf_changes 28 = .ok (.iload_n 3, 1) := by decide +kernel
theorem d_Nf_changes_29 : decode b_Nf_changes 29 = .ok (.invokestatic 92, 3) := by decide +kernel
theorem d_Nf_changes_32 : decode b_Nf_changes 32 = .ok (.istore 4, 2) := by decide +kernel
theorem d_Nf_changes_34 : decode b_Nf_changes 34 = .ok (.aload_n 0, 1) := by decide +kernel
theorem d_Nf_changes_35 : decode b_Nf_changes 35 = .ok (.getfield 21, 3) := by decide +kernel
theorem d_Nf_changes_38 : decode b_Nf_changes 38 = .ok (.iload_n 1, 1) := by decide +kernel
theorem d_Nf_changes_39 : decode b_Nf_changes 39 = .ok (.invokevirtual 134, 3) := by decide +kernel
theorem d_Nf_changes_42 : decode b_Nf_changes 42 = .ok (.ifCond .ne 18, 3) := by decide +kernel
theorem d_Nf_changes_45 : decode b_Nf_changes 45 = .ok (.aload_n 0, 1) := by decide +kernel
theorem d_Nf_changes_46 : decode b_Nf_changes 46 = .ok (.getfield 10, 3) := by decide +kernel
theorem d_Nf_changes_49 : decode b_Nf_changes 49 = .ok (.getfield 89, 3) := by decide +kernel
theorem d_Nf_changes_52 : decode b_Nf_changes 52 = .ok (.iload 4, 2) := by decide +kernel
theorem d_Nf_changes_54 : decode b_Nf_changes 54 = .ok (.invokevirtual 134, 3) := by decide +kernel
theorem d_Nf_changes_57 : decode b_Nf_changes 57 = .ok (.ifCond .eq 5, 3) := by decide +kernel
theorem d_Nf_changes_60 : decode b_Nf_changes 60 = .ok (.iconst (-1), 1) := by decide +kernel
theorem d_Nf_changes_61 : decode b_Nf_changes 61 = .ok (.ireturn, 1) := by decide +kernel
theorem d_Nf_changes_62 : decode b_Nf_changes 62 = .ok (.aload_n 0, 1) := by decide +kernel
theorem d_Nf_changes_63 : decode b_Nf_changes 63 = .ok (.getfield 37, 3) := by decide +kernel
theorem d_Nf_changes_66 : decode b_Nf_changes 66 = .ok (.aload_n 0, 1) := by decide +kernel
theorem d_Nf_changes_67 : decode b_Nf_changes 67 = .ok (.getfield 21, 3) := by decide +kernel
theorem d_Nf_changes_70 : decode b_Nf_changes 70 = .ok (.iload_n 1, 1) := by decide +kernel
theorem d_Nf_changes_71 : decode b_Nf_changes 71 = .ok (.aload_n 0, 1) := by decide +kernel
theorem d_Nf_changes_72 : decode b_Nf_changes 72 = .ok (.getfield 10, 3) := by decide +kernel
theorem d_Nf_changes_75 : decode b_Nf_changes 75 = .ok (.getfield 89, 3) := by decide +kernel
theorem d_Nf_changes_78 : decode b_Nf_changes 78 = .ok (.iload 4, 2) := by decide +kernel
theorem d_Nf_changes_80 : decode b_Nf_changes 80 = .ok (.invokeinterface 137 5, 5) := by decide +kernel
theorem d_Nf_changes_85 : decode b_Nf_changes 85 = .ok (.ireturn, 1) := by decide +kernel
theorem d_Nf_learned_0 : decode b_Nf_learned 0 = .ok (.aload_n 0, 1) := by decide +kernel
theorem d_Nf_learned_1 : decode b_Nf_learned 1 = .ok (.getfield 10, 3) := by decide +kernel
theorem d_Nf_learned_4 : decode b_Nf_learned 4 = .ok (.iload_n 1, 1) := by decide +kernel
theorem d_Nf_learned_5 : decode b_Nf_learned 5 = .ok (.invokevirtual 80, 3) := by decide +kernel
theorem d_Nf_learned_8 : decode b_Nf_learned 8 = .ok (.ifCond .eq 13, 3) := by decide +kernel
theorem d_Nf_learned_11 : decode b_Nf_learned 11 = .ok (.iload_n 2, 1) := by decide +kernel
theorem d_Nf_learned_12 : decode b_Nf_learned 12 = .ok (.ifCond .lt 9, 3) := by decide +kernel
theorem d_Nf_learned_15 : decode b_Nf_learned 15 = .ok (.iload_n 2, 1) := by decide +kernel
theorem d_Nf_learned_16 : decode b_Nf_learned 16 = .ok (.ldc 143, 2) := by decide +kernel
theorem d_Nf_learned_18 : decode b_Nf_learned 18 = .ok (.if_icmp .le 5, 3) := by decide +kernel
theorem d_Nf_learned_21 : decode b_Nf_learned 21 = .ok (.iconst (-1), 1) := by decide +kernel
theorem d_Nf_learned_22 : decode b_Nf_learned 22 = .ok (.ireturn, 1) := by decide +kernel
theorem d_Nf_learned_23 : decode b_Nf_learned 23 = .ok (.aload_n 0, 1) := by decide +kernel
theorem d_Nf_learned_24 : decode b_Nf_learned 24 = .ok (.getfield 10, 3) := by decide +kernel
theorem d_Nf_learned_27 : decode b_Nf_learned 27 = .ok (.iload_n 1, 1) := by decide +kernel
theorem d_Nf_learned_28 : decode b_Nf_learned 28 = .ok (.iload_n 2, 1) := by decide +kernel
theorem d_Nf_learned_29 : decode b_Nf_learned 29 = .ok (.invokevirtual 144, 3) := by decide +kernel
theorem d_Nf_learned_32 : decode b_Nf_learned 32 = .ok (.ireturn, 1) := by decide +kernel
theorem d_Nf_drop_0 : decode b_Nf_drop 0 = .ok (.aload_n 0, 1) := by decide +kernel
theorem d_Nf_drop_1 : decode b_Nf_drop 1 = .ok (.getfield 10, 3) := by decide +kernel
theorem d_Nf_drop_4 : decode b_Nf_drop 4 = .ok (.iload_n 1, 1) := by decide +kernel
theorem d_Nf_drop_5 : decode b_Nf_drop 5 = .ok (.invokevirtual 80, 3) := by decide +kernel
theorem d_Nf_drop_8 : decode b_Nf_drop 8 = .ok (.ifCond .ne 5, 3) := by decide +kernel
theorem d_Nf_drop_11 : decode b_Nf_drop 11 = .ok (.iconst (-1), 1) := by decide +kernel
theorem d_Nf_drop_12 : decode b_Nf_drop 12 = .ok (.ireturn, 1) := by decide +kernel
theorem d_Nf_drop_13 : decode b_Nf_drop 13 = .ok (.aload_n 0, 1) := by decide +kernel
theorem d_Nf_drop_14 : decode b_Nf_drop 14 = .ok (.getfield 10, 3) := by decide +kernel
theorem d_Nf_drop_17 : decode b_Nf_drop 17 = .ok (.getfield 147, 3) := by decide +kernel
theorem d_Nf_drop_20 : decode b_Nf_drop 20 = .ok (.iload_n 1, 1) := by decide +kernel
theorem d_Nf_drop_21 : decode b_Nf_drop 21 = .ok (.baload, 1) := by decide +kernel
theorem d_Nf_drop_22 : decode b_Nf_drop 22 = .ok (.ifCond .eq 7, 3) := by decide +kernel
theorem d_Nf_drop_25 : decode b_Nf_drop 25 = .ok (.iconst 1, 1) := by decide +kernel
theorem d_Nf_drop_26 : decode b_Nf_drop 26 = .ok (.goto 4, 3) := by decide +kernel
theorem d_Nf_drop_29 : decode b_Nf_drop 29 = .ok (.iconst 0, 1) := by decide +kernel
theorem d_Nf_drop_30 : decode b_Nf_drop 30 = .ok (.istore_n 3, 1) := by decide +kernel
theorem d_Nf_drop_31 : decode b_Nf_drop 31 = .ok (.aload_n 0, 1) := by decide +kernel
theorem d_Nf_drop_32 : decode b_Nf_drop 32 = .ok (.getfield 10, 3) := by decide +kernel
theorem d_Nf_drop_35 : decode b_Nf_drop 35 = .ok (.getfield 147, 3) := by decide +kernel
theorem d_Nf_drop_38 : decode b_Nf_drop 38 = .ok (.iload_n 1, 1) := by decide +kernel
theorem d_Nf_drop_39 : decode b_Nf_drop 39 = .ok (.iload_n 2, 1) := by decide +kernel
theorem d_Nf_drop_40 : decode b_Nf_drop 40 = .ok (.bastore, 1) := by decide +kernel
theorem d_Nf_drop_41 : decode b_Nf_drop 41 = .ok (.iload_n 3, 1) := by decide +kernel
theorem d_Nf_drop_42 : decode b_Nf_drop 42 = .ok (.ireturn, 1) := by decide +kernel
theorem d_Nf_share_0 : decode b_Nf_share 0 = .ok (.iload_n 2, 1) := by decide +kernel
theorem d_Nf_share_1 : decode b_Nf_share 1 = .ok (.ifCond .ne 13, 3) := by decide +kernel
theorem d_Nf_share_4 : decode b_Nf_share 4 = .ok (.new 151, 3) := by decide +kernel
theorem d_Nf_share_7 : decode b_Nf_share 7 = .ok (.dup, 1) := by decide +kernel
theorem d_Nf_share_8 : decode b_Nf_share 8 = .ok (.ldc 153, 2) := by decide +kernel
theorem d_Nf_share_10 : decode b_Nf_share 10 = .ok (.invokespecial 155, 3) := by decide +kernel
theorem d_Nf_share_13 : decode b_Nf_share 13 = .ok (.athrow, 1) := by decide +kernel
theorem d_Nf_share_14 : decode b_Nf_share 14 = .ok (.iload_n 1, 1) := by decide +kernel
theorem d_Nf_share_15 : decode b_Nf_share 15 = .ok (.i2l, 1) := by decide +kernel
theorem d_Nf_share_16 : decode b_Nf_share 16 = .ok (.ldc2_w 158, 3) := by decide +kernel
theorem d_Nf_share_19 : decode b_Nf_share 19 = .ok (.lmul, 1) := by decide +kernel
theorem d_Nf_share_20 : decode b_Nf_share 20 = .ok (.iload_n 2, 1) := by decide +kernel
theorem d_Nf_share_21 : decode b_Nf_share 21 = .ok (.i2l, 1) := by decide +kernel
theorem d_Nf_share_22 : decode b_Nf_share 22 = .ok (.ldiv, 1) := by decide +kernel
theorem d_Nf_share_23 : decode b_Nf_share 23 = .ok (.lreturn, 1) := by decide +kernel
theorem d_Nf_count_0 : decode b_Nf_count 0 = .ok (.iload_n 1, 1) := by decide +kernel
theorem d_Nf_count_1 : decode b_Nf_count 1 = .ok (.tableswitch 78 0 4 #[35, 43, 54, 62, 70], 35) := by decide +kernel
theorem d_Nf_count_36 : decode b_Nf_count 36 = .ok (.aload_n 0, 1) := by decide +kernel
theorem d_Nf_count_37 : decode b_Nf_count 37 = .ok (.getfield 10, 3) := by decide +kernel
theorem d_Nf_count_40 : decode b_Nf_count 40 = .ok (.getfield 160, 3) := by decide +kernel
theorem d_Nf_count_43 : decode b_Nf_count 43 = .ok (.ireturn, 1) := by decide +kernel
theorem d_Nf_count_44 : decode b_Nf_count 44 = .ok (.aload_n 0, 1) := by decide +kernel
theorem d_Nf_count_45 : decode b_Nf_count 45 = .ok (.getfield 10, 3) := by decide +kernel
theorem d_Nf_count_48 : decode b_Nf_count 48 = .ok (.getfield 89, 3) := by decide +kernel
theorem d_Nf_count_51 : decode b_Nf_count 51 = .ok (.getfield 163, 3) := by decide +kernel
theorem d_Nf_count_54 : decode b_Nf_count 54 = .ok (.ireturn, 1) := by decide +kernel
theorem d_Nf_count_55 : decode b_Nf_count 55 = .ok (.aload_n 0, 1) := by decide +kernel
theorem d_Nf_count_56 : decode b_Nf_count 56 = .ok (.getfield 21, 3) := by decide +kernel
theorem d_Nf_count_59 : decode b_Nf_count 59 = .ok (.getfield 163, 3) := by decide +kernel
theorem d_Nf_count_62 : decode b_Nf_count 62 = .ok (.ireturn, 1) := by decide +kernel
theorem d_Nf_count_63 : decode b_Nf_count 63 = .ok (.aload_n 0, 1) := by decide +kernel
theorem d_Nf_count_64 : decode b_Nf_count 64 = .ok (.getfield 57, 3) := by decide +kernel
theorem d_Nf_count_67 : decode b_Nf_count 67 = .ok (.getfield 166, 3) := by decide +kernel
theorem d_Nf_count_70 : decode b_Nf_count 70 = .ok (.ireturn, 1) := by decide +kernel
theorem d_Nf_count_71 : decode b_Nf_count 71 = .ok (.aload_n 0, 1) := by decide +kernel
theorem d_Nf_count_72 : decode b_Nf_count 72 = .ok (.getfield 10, 3) := by decide +kernel
theorem d_Nf_count_75 : decode b_Nf_count 75 = .ok (.invokevirtual 167, 3) := by decide +kernel
theorem d_Nf_count_78 : decode b_Nf_count 78 = .ok (.ireturn, 1) := by decide +kernel
theorem d_Nf_count_79 : decode b_Nf_count 79 = .ok (.iconst (-1), 1) := by decide +kernel
theorem d_Nf_count_80 : decode b_Nf_count 80 = .ok (.ireturn, 1) := by decide +kernel
theorem d_Nf_isPlace_0 : decode b_Nf_isPlace 0 = .ok (.iload_n 0, 1) := by decide +kernel
theorem d_Nf_isPlace_1 : decode b_Nf_isPlace 1 = .ok (.ifCond .lt 14, 3) := by decide +kernel
theorem d_Nf_isPlace_4 : decode b_Nf_isPlace 4 = .ok (.iload_n 0, 1) := by decide +kernel
theorem d_Nf_isPlace_5 : decode b_Nf_isPlace 5 = .ok (.sipush 1000, 3) := by decide +kernel
theorem d_Nf_isPlace_8 : decode b_Nf_isPlace 8 = .ok (.if_icmp .ge 7, 3) := by decide +kernel
theorem d_Nf_isPlace_11 : decode b_Nf_isPlace 11 = .ok (.iconst 1, 1) := by decide +kernel
theorem d_Nf_isPlace_12 : decode b_Nf_isPlace 12 = .ok (.goto 4, 3) := by decide +kernel
theorem d_Nf_isPlace_15 : decode b_Nf_isPlace 15 = .ok (.iconst 0, 1) := by decide +kernel
theorem d_Nf_isPlace_16 : decode b_Nf_isPlace 16 = .ok (.ireturn, 1) := by decide +kernel
theorem d_Nf_isWord_0 : decode b_Nf_isWord 0 = .ok (.iload_n 0, 1) := by decide +kernel
theorem d_Nf_isWord_1 : decode b_Nf_isWord 1 = .ok (.ifCond .lt 12, 3) := by decide +kernel
theorem d_Nf_isWord_4 : decode b_Nf_isWord 4 = .ok (.iload_n 0, 1) := by decide +kernel
theorem d_Nf_isWord_5 : decode b_Nf_isWord 5 = .ok (.iconst 3, 1) := by decide +kernel
theorem d_Nf_isWord_6 : decode b_Nf_isWord 6 = .ok (.if_icmp .ge 7, 3) := by decide +kernel
theorem d_Nf_isWord_9 : decode b_Nf_isWord 9 = .ok (.iconst 1, 1) := by decide +kernel
theorem d_Nf_isWord_10 : decode b_Nf_isWord 10 = .ok (.goto 4, 3) := by decide +kernel
theorem d_Nf_isWord_13 : decode b_Nf_isWord 13 = .ok (.iconst 0, 1) := by decide +kernel
theorem d_Nf_isWord_14 : decode b_Nf_isWord 14 = .ok (.ireturn, 1) := by decide +kernel
theorem d_Nf_isLetter_0 : decode b_Nf_isLetter 0 = .ok (.iload_n 0, 1) := by decide +kernel
theorem d_Nf_isLetter_1 : decode b_Nf_isLetter 1 = .ok (.ifCond .lt 13, 3) := by decide +kernel
theorem d_Nf_isLetter_4 : decode b_Nf_isLetter 4 = .ok (.iload_n 0, 1) := by decide +kernel
theorem d_Nf_isLetter_5 : decode b_Nf_isLetter 5 = .ok (.bipush 26, 2) := by decide +kernel
theorem d_Nf_isLetter_7 : decode b_Nf_isLetter 7 = .ok (.if_icmp .ge 7, 3) := by decide +kernel
theorem d_Nf_isLetter_10 : decode b_Nf_isLetter 10 = .ok (.iconst 1, 1) := by decide +kernel
theorem d_Nf_isLetter_11 : decode b_Nf_isLetter 11 = .ok (.goto 4, 3) := by decide +kernel
theorem d_Nf_isLetter_14 : decode b_Nf_isLetter 14 = .ok (.iconst 0, 1) := by decide +kernel
theorem d_Nf_isLetter_15 : decode b_Nf_isLetter 15 = .ok (.ireturn, 1) := by decide +kernel
theorem d_Nf_look_0 : decode b_Nf_look 0 = .ok (.iload_n 1, 1) := by decide +kernel
theorem d_Nf_look_1 : decode b_Nf_look 1 = .ok (.iconst 1, 1) := by decide +kernel
theorem d_Nf_look_2 : decode b_Nf_look 2 = .ok (.if_icmp .lt 13, 3) := by decide +kernel
theorem d_Nf_look_5 : decode b_Nf_look 5 = .ok (.iload_n 1, 1) := by decide +kernel
theorem d_Nf_look_6 : decode b_Nf_look 6 = .ok (.bipush 40, 2) := by decide +kernel
theorem d_Nf_look_8 : decode b_Nf_look 8 = .ok (.if_icmp .gt 7, 3) := by decide +kernel
theorem d_Nf_look_11 : decode b_Nf_look 11 = .ok (.iload_n 2, 1) := by decide +kernel
theorem d_Nf_look_12 : decode b_Nf_look 12 = .ok (.ifCond .ge 5, 3) := by decide +kernel
theorem d_Nf_look_15 : decode b_Nf_look 15 = .ok (.iconst (-1), 1) := by decide +kernel
theorem d_Nf_look_16 : decode b_Nf_look 16 = .ok (.ireturn, 1) := by decide +kernel
theorem d_Nf_look_17 : decode b_Nf_look 17 = .ok (.aload_n 0, 1) := by decide +kernel
theorem d_Nf_look_18 : decode b_Nf_look 18 = .ok (.getfield 57, 3) := by decide +kernel
theorem d_Nf_look_21 : decode b_Nf_look 21 = .ok (.iload_n 1, 1) := by decide +kernel
theorem d_Nf_look_22 : decode b_Nf_look 22 = .ok (.iload_n 2, 1) := by decide +kernel
theorem d_Nf_look_23 : decode b_Nf_look 23 = .ok (.invokevirtual 171, 3) := by decide +kernel
theorem d_Nf_look_26 : decode b_Nf_look 26 = .ok (.aload_n 0, 1) := by decide +kernel
theorem d_Nf_look_27 : decode b_Nf_look 27 = .ok (.iconst 0, 1) := by decide +kernel
theorem d_Nf_look_28 : decode b_Nf_look 28 = .ok (.putfield 65, 3) := by decide +kernel
theorem d_Nf_look_31 : decode b_Nf_look 31 = .ok (.aload_n 0, 1) := by decide +kernel
theorem d_Nf_look_32 : decode b_Nf_look 32 = .ok (.getfield 21, 3) := by decide +kernel
theorem d_Nf_look_35 : decode b_Nf_look 35 = .ok (.getfield 163, 3) := by decide +kernel
theorem d_Nf_look_38 : decode b_Nf_look 38 = .ok (.ifCond .ne 5, 3) := by decide +kernel
theorem d_Nf_look_41 : decode b_Nf_look 41 = .ok (.iconst 0, 1) := by decide +kernel
theorem d_Nf_look_42 : decode b_Nf_look 42 = .ok (.ireturn, 1) := by decide +kernel
theorem d_Nf_look_43 : decode b_Nf_look 43 = .ok (.iconst 0, 1) := by decide +kernel
theorem d_Nf_look_44 : decode b_Nf_look 44 = .ok (.istore 4, 2) := by decide +kernel
theorem d_Nf_look_46 : decode b_Nf_look 46 = .ok (.iload 4, 2) := by decide +kernel
theorem d_Nf_look_48 : decode b_Nf_look 48 = .ok (.aload_n 0, 1) := by decide +kernel
theorem d_Nf_look_49 : decode b_Nf_look 49 = .ok (.getfield 10, 3) := by decide +kernel
theorem d_Nf_look_52 : decode b_Nf_look 52 = .ok (.getfield 160, 3) := by decide +kernel
theorem d_Nf_look_55 : decode b_Nf_look 55 = .ok (.if_icmp .ge 84, 3) := by decide +kernel
theorem d_Nf_look_58 : decode b_Nf_look 58 = .ok (.aload_n 0, 1) := by decide +kernel
theorem d_Nf_look_59 : decode b_Nf_look 59 = .ok (.iload 4, 2) := by decide +kernel
theorem d_Nf_look_61 : decode b_Nf_look 61 = .ok (.invokevirtual 175, 3) := by decide +kernel
theorem d_Nf_look_64 : decode b_Nf_look 64 = .ok (.ifCond .eq 69, 3) := by decide +kernel
theorem d_Nf_look_67 : decode b_Nf_look 67 = .ok (.iload_n 3, 1) := by decide +kernel
theorem d_Nf_look_68 : decode b_Nf_look 68 = .ok (.ifCond .eq 26, 3) := by decide +kernel
theorem d_Nf_look_71 : decode b_Nf_look 71 = .ok (.aload_n 0, 1) := by decide +kernel
theorem d_Nf_look_72 : decode b_Nf_look 72 = .ok (.iload 4, 2) := by decide +kernel
theorem d_Nf_look_74 : decode b_Nf_look 74 = .ok (.aload_n 0, 1) := by decide +kernel
theorem d_Nf_look_75 : decode b_Nf_look 75 = .ok (.getfield 44, 3) := by decide +kernel
theorem d_Nf_look_78 : decode b_Nf_look 78 = .ok (.invokevirtual 124, 3) := by decide +kernel
theorem d_Nf_look_81 : decode b_Nf_look 81 = .ok (.aload_n 0, 1) := by decide +kernel
theorem d_Nf_look_82 : decode b_Nf_look 82 = .ok (.getfield 57, 3) := by decide +kernel
theorem d_Nf_look_85 : decode b_Nf_look 85 = .ok (.invokevirtual 178, 3) := by decide +kernel
theorem d_Nf_look_88 : decode b_Nf_look 88 = .ok (.if_icmp .le 6, 3) := by decide +kernel
theorem d_Nf_look_91 : decode b_Nf_look 91 = .ok (.goto 42, 3) := by decide +kernel
theorem d_Nf_look_94 : decode b_Nf_look 94 = .ok (.aload_n 0, 1) := by decide +kernel
theorem d_Nf_look_95 : decode b_Nf_look 95 = .ok (.dup, 1) := by decide +kernel
theorem d_Nf_look_96 : decode b_Nf_look 96 = .ok (.getfield 65, 3) := by decide +kernel
theorem d_Nf_look_99 : decode b_Nf_look 99 = .ok (.iconst 1, 1) := by decide +kernel
theorem d_Nf_look_100 : decode b_Nf_look 100 = .ok (.iadd, 1) := by decide +kernel
theorem d_Nf_look_101 : decode b_Nf_look 101 = .ok (.putfield 65, 3) := by decide +kernel
theorem d_Nf_look_104 : decode b_Nf_look 104 = .ok (.aload_n 0, 1) := by decide +kernel
theorem d_Nf_look_105 : decode b_Nf_look 105 = .ok (.getfield 57, 3) := by decide +kernel
theorem d_Nf_look_108 : decode b_Nf_look 108 = .ok (.iload 4, 2) := by decide +kernel
theorem d_Nf_look_110 : decode b_Nf_look 110 = .ok (.aload_n 0, 1) := by decide +kernel
theorem d_Nf_look_111 : decode b_Nf_look 111 = .ok (.iload 4, 2) := by decide +kernel
theorem d_Nf_look_113 : decode b_Nf_look 113 = .ok (.aload_n 0, 1) := by decide +kernel
theorem d_Nf_look_114 : decode b_Nf_look 114 = .ok (.getfield 37, 3) := by decide +kernel
theorem d_Nf_look_117 : decode b_Nf_look 117 = .ok (.invokevirtual 124, 3) := by decide +kernel
theorem d_Nf_look_120 : decode b_Nf_look 120 = .ok (.aload_n 0, 1) := by decide +kernel
theorem d_Nf_look_121 : decode b_Nf_look 121 = .ok (.getfield 10, 3) := by decide +kernel
theorem d_Nf_look_124 : decode b_Nf_look 124 = .ok (.getfield 181, 3) := by decide +kernel
theorem d_Nf_look_127 : decode b_Nf_look 127 = .ok (.iload 4, 2) := by decide +kernel
theorem d_Nf_look_129 : decode b_Nf_look 129 = .ok (.iaload, 1) := by decide +kernel
theorem d_Nf_look_130 : decode b_Nf_look 130 = .ok (.invokevirtual 184, 3) := by decide +kernel
theorem d_Nf_look_133 : decode b_Nf_look 133 = .ok (.iinc 4 1, 3) := by decide +kernel
theorem d_Nf_look_136 : decode b_Nf_look 136 = .ok (.goto (-90), 3) := by decide +kernel
theorem d_Nf_look_139 : decode b_Nf_look 139 = .ok (.aload_n 0, 1) := by decide +kernel
theorem d_Nf_look_140 : decode b_Nf_look 140 = .ok (.getfield 57, 3) := by decide +kernel
theorem d_Nf_look_143 : decode b_Nf_look 143 = .ok (.getfield 166, 3) := by decide +kernel
theorem d_Nf_look_146 : decode b_Nf_look 146 = .ok (.ireturn, 1) := by decide +kernel
theorem d_Nf_isLookedFor_0 : decode b_Nf_isLookedFor 0 = .ok (.aload_n 0, 1) := by decide +kernel
theorem d_Nf_isLookedFor_1 : decode b_Nf_isLookedFor 1 = .ok (.getfield 10, 3) := by decide +kernel
theorem d_Nf_isLookedFor_4 : decode b_Nf_isLookedFor 4 = .ok (.getfield 147, 3) := by decide +kernel
theorem d_Nf_isLookedFor_7 : decode b_Nf_isLookedFor 7 = .ok (.iload_n 1, 1) := by decide +kernel
theorem d_Nf_isLookedFor_8 : decode b_Nf_isLookedFor 8 = .ok (.baload, 1) := by decide +kernel
theorem d_Nf_isLookedFor_9 : decode b_Nf_isLookedFor 9 = .ok (.ifCond .ne 31, 3) := by decide +kernel
theorem d_Nf_isLookedFor_12 : decode b_Nf_isLookedFor 12 = .ok (.aload_n 0, 1) := by decide +kernel
theorem d_Nf_isLookedFor_13 : decode b_Nf_isLookedFor 13 = .ok (.getfield 61, 3) := by decide +kernel
theorem d_Nf_isLookedFor_16 : decode b_Nf_isLookedFor 16 = .ok (.iconst (-1), 1) := by decide +kernel
theorem d_Nf_isLookedFor_17 : decode b_Nf_isLookedFor 17 = .ok (.if_icmp .eq 19, 3) := by decide +kernel
theorem d_Nf_isLookedFor_20 : decode b_Nf_isLookedFor 20 = .ok (.aload_n 0, 1) := by decide +kernel
theorem d_Nf_isLookedFor_21 : decode b_Nf_isLookedFor 21 = .ok (.getfield 61, 3) := by decide +kernel
theorem d_Nf_isLookedFor_24 : decode b_Nf_isLookedFor 24 = .ok (.aload_n 0, 1) := by decide +kernel
theorem d_Nf_isLookedFor_25 : decode b_Nf_isLookedFor 25 = .ok (.getfield 10, 3) := by decide +kernel
theorem d_Nf_isLookedFor_28 : decode b_Nf_isLookedFor 28 = .ok (.getfield 188, 3) := by decide +kernel
theorem d_Nf_isLookedFor_31 : decode b_Nf_isLookedFor 31 = .ok (.iload_n 1, 1) := by decide +kernel
theorem d_Nf_isLookedFor_32 : decode b_Nf_isLookedFor 32 = .ok (.iaload, 1) := by decide +kernel
theorem d_Nf_isLookedFor_33 : decode b_Nf_isLookedFor 33 = .ok (.if_icmp .ne 7, 3) := by decide +kernel
theorem d_Nf_isLookedFor_36 : decode b_Nf_isLookedFor 36 = .ok (.iconst 1, 1) := by decide +kernel
theorem d_Nf_isLookedFor_37 : decode b_Nf_isLookedFor 37 = .ok (.goto 4, 3) := by decide +kernel
theorem d_Nf_isLookedFor_40 : decode b_Nf_isLookedFor 40 = .ok (.iconst 0, 1) := by decide +kernel
theorem d_Nf_isLookedFor_41 : decode b_Nf_isLookedFor 41 = .ok (.ireturn, 1) := by decide +kernel
theorem d_Nf_leastOfWays_0 : decode b_Nf_leastOfWays 0 = .ok (.aload_n 0, 1) := by decide +kernel
theorem d_Nf_leastOfWays_1 : decode b_Nf_leastOfWays 1 = .ok (.getfield 50, 3) := by decide +kernel
theorem d_Nf_leastOfWays_4 : decode b_Nf_leastOfWays 4 = .ok (.invokevirtual 191, 3) := by decide +kernel
theorem d_Nf_leastOfWays_7 : decode b_Nf_leastOfWays 7 = .ok (.iconst 0, 1) := by decide +kernel
theorem d_Nf_leastOfWays_8 : decode b_Nf_leastOfWays 8 = .ok (.istore_n 3, 1) := by decide +kernel
theorem d_Nf_leastOfWays_9 : decode b_Nf_leastOfWays 9 = .ok (.iload_n 3, 1) := by decide +kernel
theorem d_Nf_leastOfWays_10 : decode b_Nf_leastOfWays 10 = .ok (.iconst 3, 1) := by decide +kernel
theorem d_Nf_leastOfWays_11 : decode b_Nf_leastOfWays 11 = .ok (.if_icmp .ge 99, 3) := by decide +kernel
theorem d_Nf_leastOfWays_14 : decode b_Nf_leastOfWays 14 = .ok (.aload_n 0, 1) := by decide +kernel
theorem d_Nf_leastOfWays_15 : decode b_Nf_leastOfWays 15 = .ok (.getfield 50, 3) := by decide +kernel
theorem d_Nf_leastOfWays_18 : decode b_Nf_leastOfWays 18 = .ok (.aload_n 0, 1) := by decide +kernel
theorem d_Nf_leastOfWays_19 : decode b_Nf_leastOfWays 19 = .ok (.getfield 21, 3) := by decide +kernel
theorem d_Nf_leastOfWays_22 : decode b_Nf_leastOfWays 22 = .ok (.iload_n 3, 1) := by decide +kernel
theorem d_Nf_leastOfWays_23 : decode b_Nf_leastOfWays 23 = .ok (.invokevirtual 134, 3) := by decide +kernel
theorem d_Nf_leastOfWays_26 : decode b_Nf_leastOfWays 26 = .ok (.ifCond .ne 7, 3) := by decide +kernel
theorem d_Nf_leastOfWays_29 : decode b_Nf_leastOfWays 29 = .ok (.iconst 1, 1) := by decide +kernel
theorem d_Nf_leastOfWays_30 : decode b_Nf_leastOfWays 30 = .ok (.goto 4, 3) := by decide +kernel
theorem d_Nf_leastOfWays_33 : decode b_Nf_leastOfWays 33 = .ok (.iconst 0, 1) := by decide +kernel
theorem d_Nf_leastOfWays_34 : decode b_Nf_leastOfWays 34 = .ok (.invokevirtual 193, 3) := by decide +kernel
theorem d_Nf_leastOfWays_37 : decode b_Nf_leastOfWays 37 = .ok (.aload_n 0, 1) := by decide +kernel
theorem d_Nf_leastOfWays_38 : decode b_Nf_leastOfWays 38 = .ok (.getfield 50, 3) := by decide +kernel
theorem d_Nf_leastOfWays_41 : decode b_Nf_leastOfWays 41 = .ok (.aload_n 0, 1) := by decide +kernel
theorem d_Nf_leastOfWays_42 : decode b_Nf_leastOfWays 42 = .ok (.getfield 10, 3) := by decide +kernel
theorem d_Nf_leastOfWays_45 : decode b_Nf_leastOfWays 45 = .ok (.getfield 89, 3) := by decide +kernel
theorem d_Nf_leastOfWays_48 : decode b_Nf_leastOfWays 48 = .ok (.iload_n 1, 1) := by decide +kernel
theorem d_Nf_leastOfWays_49 : decode b_Nf_leastOfWays 49 = .ok (.iload_n 3, 1) := by decide +kernel
theorem d_Nf_leastOfWays_50 : decode b_Nf_leastOfWays 50 = .ok (.invokestatic 92, 3) := by decide +kernel
theorem d_Nf_leastOfWays_53 : decode b_Nf_leastOfWays 53 = .ok (.invokevirtual 134, 3) := by decide +kernel
theorem d_Nf_leastOfWays_56 : decode b_Nf_leastOfWays 56 = .ok (.ifCond .ne 7, 3) := by decide +kernel
theorem d_Nf_leastOfWays_59 : decode b_Nf_leastOfWays 59 = .ok (.iconst 1, 1) := by decide +kernel
theorem d_Nf_leastOfWays_60 : decode b_Nf_leastOfWays 60 = .ok (.goto 4, 3) := by decide +kernel
theorem d_Nf_leastOfWays_63 : decode b_Nf_leastOfWays 63 = .ok (.iconst 0, 1) := by decide +kernel
theorem d_Nf_leastOfWays_64 : decode b_Nf_leastOfWays 64 = .ok (.invokevirtual 193, 3) := by decide +kernel
theorem d_Nf_leastOfWays_67 : decode b_Nf_leastOfWays 67 = .ok (.iconst 0, 1) := by decide +kernel
theorem d_Nf_leastOfWays_68 : decode b_Nf_leastOfWays 68 = .ok (.istore 4, 2) := by decide +kernel
theorem d_Nf_leastOfWays_70 : decode b_Nf_leastOfWays 70 = .ok (.iload 4, 2) := by decide +kernel
theorem d_Nf_leastOfWays_72 : decode b_Nf_leastOfWays 72 = .ok (.iconst 3, 1) := by decide +kernel
theorem d_Nf_leastOfWays_73 : decode b_Nf_leastOfWays 73 = .ok (.if_icmp .ge 31, 3) := by decide +kernel
theorem d_Nf_leastOfWays_76 : decode b_Nf_leastOfWays 76 = .ok (.aload_n 0, 1) := by decide +kernel
theorem d_Nf_leastOfWays_77 : decode b_Nf_leastOfWays 77 = .ok (.getfield 50, 3) := by decide +kernel
theorem d_Nf_leastOfWays_80 : decode b_Nf_leastOfWays 80 = .ok (.iload_n 3, 1) := by decide +kernel
theorem d_Nf_leastOfWays_81 : decode b_Nf_leastOfWays 81 = .ok (.iload 4, 2) := by decide +kernel
theorem d_Nf_leastOfWays_83 : decode b_Nf_leastOfWays 83 = .ok (.aload_n 0, 1) := by decide +kernel
theorem d_Nf_leastOfWays_84 : decode b_Nf_leastOfWays 84 = .ok (.iload_n 3, 1) := by decide +kernel
theorem d_Nf_leastOfWays_85 : decode b_Nf_leastOfWays 85 = .ok (.iload_n 1, 1) := by decide +kernel
theorem d_Nf_leastOfWays_86 : decode b_Nf_leastOfWays 86 = .ok (.iload 4, 2) := by decide +kernel
theorem d_Nf_leastOfWays_88 : decode b_Nf_leastOfWays 88 = .ok (.invokestatic 92, 3) := by decide +kernel
theorem d_Nf_leastOfWays_91 : decode b_Nf_leastOfWays 91 = .ok (.aload_n 2, 1) := by decide +kernel
theorem d_Nf_leastOfWays_92 : decode b_Nf_leastOfWays 92 = .ok (.invokevirtual 197, 3) := by decide +kernel
theorem d_Nf_leastOfWays_95 : decode b_Nf_leastOfWays 95 = .ok (.invokevirtual 201, 3) := by decide +kernel
theorem d_Nf_leastOfWays_98 : decode b_Nf_leastOfWays 98 = .ok (.iinc 4 1, 3) := by decide +kernel
theorem d_Nf_leastOfWays_101 : decode b_Nf_leastOfWays 101 = .ok (.goto (-31), 3) := by decide +kernel
theorem d_Nf_leastOfWays_104 : decode b_Nf_leastOfWays 104 = .ok (.iinc 3 1, 3) := by decide +kernel
theorem d_Nf_leastOfWays_107 : decode b_Nf_leastOfWays 107 = .ok (.goto (-98), 3) := by decide +kernel
theorem d_Nf_leastOfWays_110 : decode b_Nf_leastOfWays 110 = .ok (.aload_n 0, 1) := by decide +kernel
theorem d_Nf_leastOfWays_111 : decode b_Nf_leastOfWays 111 = .ok (.getfield 50, 3) := by decide +kernel
theorem d_Nf_leastOfWays_114 : decode b_Nf_leastOfWays 114 = .ok (.invokevirtual 204, 3) := by decide +kernel
theorem d_Nf_leastOfWays_117 : decode b_Nf_leastOfWays 117 = .ok (.ireturn, 1) := by decide +kernel
theorem d_Nf_costOfPair_0 : decode b_Nf_costOfPair 0 = .ok (.aload_n 0, 1) := by decide +kernel
theorem d_Nf_costOfPair_1 : decode b_Nf_costOfPair 1 = .ok (.getfield 21, 3) := by decide +kernel
theorem d_Nf_costOfPair_4 : decode b_Nf_costOfPair 4 = .ok (.iload_n 1, 1) := by decide +kernel
theorem d_Nf_costOfPair_5 : decode b_Nf_costOfPair 5 = .ok (.invokevirtual 134, 3) := by decide +kernel
theorem d_Nf_costOfPair_8 : decode b_Nf_costOfPair 8 = .ok (.ifCond .ne 17, 3) := by decide +kernel
theorem d_Nf_costOfPair_11 : decode b_Nf_costOfPair 11 = .ok (.aload_n 0, 1) := by decide +kernel
theorem d_Nf_costOfPair_12 : decode b_Nf_costOfPair 12 = .ok (.getfield 10, 3) := by decide +kernel
theorem d_Nf_costOfPair_15 : decode b_Nf_costOfPair 15 = .ok (.getfield 89, 3) := by decide +kernel
theorem d_Nf_costOfPair_18 : decode b_Nf_costOfPair 18 = .ok (.iload_n 2, 1) := by decide +kernel
theorem d_Nf_costOfPair_19 : decode b_Nf_costOfPair 19 = .ok (.invokevirtual 134, 3) := by decide +kernel
theorem d_Nf_costOfPair_22 : decode b_Nf_costOfPair 22 = .ok (.ifCond .eq 5, 3) := by decide +kernel
theorem d_Nf_costOfPair_25 : decode b_Nf_costOfPair 25 = .ok (.iconst (-1), 1) := by decide +kernel
theorem d_Nf_costOfPair_26 : decode b_Nf_costOfPair 26 = .ok (.ireturn, 1) := by decide +kernel
theorem d_Nf_costOfPair_27 : decode b_Nf_costOfPair 27 = .ok (.aload_n 3, 1) := by decide +kernel
theorem d_Nf_costOfPair_28 : decode b_Nf_costOfPair 28 = .ok (.aload_n 0, 1) := by decide +kernel
theorem d_Nf_costOfPair_29 : decode b_Nf_costOfPair 29 = .ok (.getfield 21, 3) := by decide +kernel
theorem d_Nf_costOfPair_32 : decode b_Nf_costOfPair 32 = .ok (.iload_n 1, 1) := by decide +kernel
theorem d_Nf_costOfPair_33 : decode b_Nf_costOfPair 33 = .ok (.aload_n 0, 1) := by decide +kernel
theorem d_Nf_costOfPair_34 : decode b_Nf_costOfPair 34 = .ok (.getfield 10, 3) := by decide +kernel
theorem d_Nf_costOfPair_37 : decode b_Nf_costOfPair 37 = .ok (.getfield 89, 3) := by decide +kernel
theorem d_Nf_costOfPair_40 : decode b_Nf_costOfPair 40 = .ok (.iload_n 2, 1) := by decide +kernel
theorem d_Nf_costOfPair_41 : decode b_Nf_costOfPair 41 = .ok (.invokeinterface 137 5, 5) := by decide +kernel
theorem d_Nf_costOfPair_46 : decode b_Nf_costOfPair 46 = .ok (.ireturn, 1) := by decide +kernel
theorem d_Mo_init_0 : decode b_Mo_init 0 = .ok (.aload_n 0, 1) := by decide +kernel
theorem d_Mo_init_1 : decode b_Mo_init 1 = .ok (.invokespecial 1, 3) := by decide +kernel
theorem d_Mo_init_4 : decode b_Mo_init 4 = .ok (.aload_n 0, 1) := by decide +kernel
theorem d_Mo_init_5 : decode b_Mo_init 5 = .ok (.bipush 40, 2) := by decide +kernel
theorem d_Mo_init_7 : decode b_Mo_init 7 = .ok (.newarray .int, 2) := by decide +kernel
theorem d_Mo_init_9 : decode b_Mo_init 9 = .ok (.putfield 7, 3) := by decide +kernel
theorem d_Mo_init_12 : decode b_Mo_init 12 = .ok (.aload_n 0, 1) := by decide +kernel
theorem d_Mo_init_13 : decode b_Mo_init 13 = .ok (.bipush 40, 2) := by decide +kernel
theorem d_Mo_init_15 : decode b_Mo_init 15 = .ok (.newarray .int, 2) := by decide +kernel
theorem d_Mo_init_17 : decode b_Mo_init 17 = .ok (.putfield 13, 3) := by decide +kernel
theorem d_Mo_init_20 : decode b_Mo_init 20 = .ok (.aload_n 0, 1) := by decide +kernel
theorem d_Mo_init_21 : decode b_Mo_init 21 = .ok (.bipush 40, 2) := by decide +kernel
theorem d_Mo_init_23 : decode b_Mo_init 23 = .ok (.newarray .int, 2) := by decide +kernel
theorem d_Mo_init_25 : decode b_Mo_init 25 = .ok (.putfield 16, 3) := by decide +kernel
theorem d_Mo_init_28 : decode b_Mo_init 28 = .ok (.aload_n 0, 1) := by decide +kernel
theorem d_Mo_init_29 : decode b_Mo_init 29 = .ok (.bipush 40, 2) := by decide +kernel
theorem d_Mo_init_31 : decode b_Mo_init 31 = .ok (.newarray .boolean, 2) := by decide +kernel
theorem d_Mo_init_33 : decode b_Mo_init 33 = .ok (.putfield 19, 3) := by decide +kernel
