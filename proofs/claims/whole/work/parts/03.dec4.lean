theorem d_Mo_find_12 : decode b_Mo_find 12 = .ok (.ireturn, 1) := by decide +kernel
theorem d_Mo_scan_0 : decode b_Mo_scan 0 = .ok (.aload_n 0, 1) := by decide +kernel
theorem d_Mo_scan_1 : decode b_Mo_scan 1 = .ok (.iconst 0, 1) := by decide +kernel
theorem d_Mo_scan_2 : decode b_Mo_scan 2 = .ok (.putfield 51, 3) := by decide +kernel
theorem d_Mo_scan_5 : decode b_Mo_scan 5 = .ok (.aload_n 0, 1) := by decide +kernel
theorem d_Mo_scan_6 : decode b_Mo_scan 6 = .ok (.iload_n 1, 1) := by decide +kernel
theorem d_Mo_scan_7 : decode b_Mo_scan 7 = .ok (.iload_n 2, 1) := by decide +kernel
theorem d_Mo_scan_8 : decode b_Mo_scan 8 = .ok (.iconst 0, 1) := by decide +kernel
theorem d_Mo_scan_9 : decode b_Mo_scan 9 = .ok (.invokevirtual 122, 3) := by decide +kernel
theorem d_Mo_scan_12 : decode b_Mo_scan 12 = .ok (.ireturn, 1) := by decide +kernel
theorem d_Mo_worked_0 : decode b_Mo_worked 0 = .ok (.aload_n 0, 1) := by decide +kernel
theorem d_Mo_worked_1 : decode b_Mo_worked 1 = .ok (.iconst 0, 1) := by decide +kernel
theorem d_Mo_worked_2 : decode b_Mo_worked 2 = .ok (.putfield 51, 3) := by decide +kernel
theorem d_Mo_worked_5 : decode b_Mo_worked 5 = .ok (.aload_n 0, 1) := by decide +kernel
theorem d_Mo_worked_6 : decode b_Mo_worked 6 = .ok (.getfield 108, 3) := by decide +kernel
theorem d_Mo_worked_9 : decode b_Mo_worked 9 = .ok (.ireturn, 1) := by decide +kernel
theorem d_Mo_found_0 : decode b_Mo_found 0 = .ok (.aload_n 0, 1) := by decide +kernel
theorem d_Mo_found_1 : decode b_Mo_found 1 = .ok (.iconst 0, 1) := by decide +kernel
theorem d_Mo_found_2 : decode b_Mo_found 2 = .ok (.putfield 51, 3) := by decide +kernel
theorem d_Mo_found_5 : decode b_Mo_found 5 = .ok (.iload_n 1, 1) := by decide +kernel
theorem d_Mo_found_6 : decode b_Mo_found 6 = .ok (.ifCond .lt 20, 3) := by decide +kernel
theorem d_Mo_found_9 : decode b_Mo_found 9 = .ok (.iload_n 1, 1) := by decide +kernel
theorem d_Mo_found_10 : decode b_Mo_found 10 = .ok (.aload_n 0, 1) := by decide +kernel
theorem d_Mo_found_11 : decode b_Mo_found 11 = .ok (.getfield 102, 3) := by decide +kernel
theorem d_Mo_found_14 : decode b_Mo_found 14 = .ok (.if_icmp .ge 12, 3) := by decide +kernel
theorem d_Mo_found_17 : decode b_Mo_found 17 = .ok (.aload_n 0, 1) := by decide +kernel
theorem d_Mo_found_18 : decode b_Mo_found 18 = .ok (.getfield 36, 3) := by decide +kernel
theorem d_Mo_found_21 : decode b_Mo_found 21 = .ok (.iload_n 1, 1) := by decide +kernel
theorem d_Mo_found_22 : decode b_Mo_found 22 = .ok (.iaload, 1) := by decide +kernel
theorem d_Mo_found_23 : decode b_Mo_found 23 = .ok (.goto 4, 3) := by decide +kernel
theorem d_Mo_found_26 : decode b_Mo_found 26 = .ok (.iconst (-1), 1) := by decide +kernel
theorem d_Mo_found_27 : decode b_Mo_found 27 = .ok (.ireturn, 1) := by decide +kernel
theorem d_Mo_sum_0 : decode b_Mo_sum 0 = .ok (.aload_n 0, 1) := by decide +kernel
theorem d_Mo_sum_1 : decode b_Mo_sum 1 = .ok (.iconst 0, 1) := by decide +kernel
theorem d_Mo_sum_2 : decode b_Mo_sum 2 = .ok (.putfield 51, 3) := by decide +kernel
theorem d_Mo_sum_5 : decode b_Mo_sum 5 = .ok (.iload_n 1, 1) := by decide +kernel
theorem d_Mo_sum_6 : decode b_Mo_sum 6 = .ok (.ifCond .lt 20, 3) := by decide +kernel
theorem d_Mo_sum_9 : decode b_Mo_sum 9 = .ok (.iload_n 1, 1) := by decide +kernel
theorem d_Mo_sum_10 : decode b_Mo_sum 10 = .ok (.aload_n 0, 1) := by decide +kernel
theorem d_Mo_sum_11 : decode b_Mo_sum 11 = .ok (.getfield 102, 3) := by decide +kernel
theorem d_Mo_sum_14 : decode b_Mo_sum 14 = .ok (.if_icmp .ge 12, 3) := by decide +kernel
theorem d_Mo_sum_17 : decode b_Mo_sum 17 = .ok (.aload_n 0, 1) := by decide +kernel
theorem d_Mo_sum_18 : decode b_Mo_sum 18 = .ok (.getfield 39, 3) := by decide +kernel
theorem d_Mo_sum_21 : decode b_Mo_sum 21 = .ok (.iload_n 1, 1) := by decide +kernel
theorem d_Mo_sum_22 : decode b_Mo_sum 22 = .ok (.iaload, 1) := by decide +kernel
theorem d_Mo_sum_23 : decode b_Mo_sum 23 = .ok (.goto 4, 3) := by decide +kernel
theorem d_Mo_sum_26 : decode b_Mo_sum 26 = .ok (.iconst (-1), 1) := by decide +kernel
theorem d_Mo_sum_27 : decode b_Mo_sum 27 = .ok (.ireturn, 1) := by decide +kernel
theorem d_Mo_sumOf_0 : decode b_Mo_sumOf 0 = .ok (.aload_n 0, 1) := by decide +kernel
theorem d_Mo_sumOf_1 : decode b_Mo_sumOf 1 = .ok (.iconst 0, 1) := by decide +kernel
theorem d_Mo_sumOf_2 : decode b_Mo_sumOf 2 = .ok (.putfield 51, 3) := by decide +kernel
theorem d_Mo_sumOf_5 : decode b_Mo_sumOf 5 = .ok (.aload_n 0, 1) := by decide +kernel
theorem d_Mo_sumOf_6 : decode b_Mo_sumOf 6 = .ok (.iload_n 1, 1) := by decide +kernel
theorem d_Mo_sumOf_7 : decode b_Mo_sumOf 7 = .ok (.invokevirtual 57, 3) := by decide +kernel
theorem d_Mo_sumOf_10 : decode b_Mo_sumOf 10 = .ok (.ifCond .eq 12, 3) := by decide +kernel
theorem d_Mo_sumOf_13 : decode b_Mo_sumOf 13 = .ok (.aload_n 0, 1) := by decide +kernel
theorem d_Mo_sumOf_14 : decode b_Mo_sumOf 14 = .ok (.iload_n 1, 1) := by decide +kernel
theorem d_Mo_sumOf_15 : decode b_Mo_sumOf 15 = .ok (.iconst 0, 1) := by decide +kernel
theorem d_Mo_sumOf_16 : decode b_Mo_sumOf 16 = .ok (.invokevirtual 114, 3) := by decide +kernel
theorem d_Mo_sumOf_19 : decode b_Mo_sumOf 19 = .ok (.goto 4, 3) := by decide +kernel
theorem d_Mo_sumOf_22 : decode b_Mo_sumOf 22 = .ok (.iconst (-1), 1) := by decide +kernel
theorem d_Mo_sumOf_23 : decode b_Mo_sumOf 23 = .ok (.ireturn, 1) := by decide +kernel
theorem d_Mo_pair_0 : decode b_Mo_pair 0 = .ok (.aload_n 0, 1) := by decide +kernel
theorem d_Mo_pair_1 : decode b_Mo_pair 1 = .ok (.iconst 0, 1) := by decide +kernel
theorem d_Mo_pair_2 : decode b_Mo_pair 2 = .ok (.putfield 51, 3) := by decide +kernel
theorem d_Mo_pair_5 : decode b_Mo_pair 5 = .ok (.aload_n 0, 1) := by decide +kernel
theorem d_Mo_pair_6 : decode b_Mo_pair 6 = .ok (.iload_n 1, 1) := by decide +kernel
theorem d_Mo_pair_7 : decode b_Mo_pair 7 = .ok (.invokevirtual 57, 3) := by decide +kernel
theorem d_Mo_pair_10 : decode b_Mo_pair 10 = .ok (.ifCond .eq 10, 3) := by decide +kernel
theorem d_Mo_pair_13 : decode b_Mo_pair 13 = .ok (.iload_n 2, 1) := by decide +kernel
theorem d_Mo_pair_14 : decode b_Mo_pair 14 = .ok (.invokestatic 61, 3) := by decide +kernel
theorem d_Mo_pair_17 : decode b_Mo_pair 17 = .ok (.ifCond .ne 5, 3) := by decide +kernel
theorem d_Mo_pair_20 : decode b_Mo_pair 20 = .ok (.iconst (-1), 1) := by decide +kernel
theorem d_Mo_pair_21 : decode b_Mo_pair 21 = .ok (.ireturn, 1) := by decide +kernel
theorem d_Mo_pair_22 : decode b_Mo_pair 22 = .ok (.aload_n 0, 1) := by decide +kernel
theorem d_Mo_pair_23 : decode b_Mo_pair 23 = .ok (.iload_n 1, 1) := by decide +kernel
theorem d_Mo_pair_24 : decode b_Mo_pair 24 = .ok (.iconst 0, 1) := by decide +kernel
theorem d_Mo_pair_25 : decode b_Mo_pair 25 = .ok (.invokevirtual 114, 3) := by decide +kernel
theorem d_Mo_pair_28 : decode b_Mo_pair 28 = .ok (.istore_n 3, 1) := by decide +kernel
theorem d_Mo_pair_29 : decode b_Mo_pair 29 = .ok (.iload_n 3, 1) := by decide +kernel
theorem d_Mo_pair_30 : decode b_Mo_pair 30 = .ok (.ifCond .ge 7, 3) := by decide +kernel
theorem d_Mo_pair_33 : decode b_Mo_pair 33 = .ok (.iconst (-1), 1) := by decide +kernel
theorem d_Mo_pair_34 : decode b_Mo_pair 34 = .ok (.goto 9, 3) := by decide +kernel
theorem d_Mo_pair_37 : decode b_Mo_pair 37 = .ok (.aload_n 0, 1) := by decide +kernel
theorem d_Mo_pair_38 : decode b_Mo_pair 38 = .ok (.getfield 48, 3) := by decide +kernel
theorem d_Mo_pair_41 : decode b_Mo_pair 41 = .ok (.iload_n 2, 1) := by decide +kernel
theorem d_Mo_pair_42 : decode b_Mo_pair 42 = .ok (.iaload, 1) := by decide +kernel
theorem d_Mo_pair_43 : decode b_Mo_pair 43 = .ok (.ireturn, 1) := by decide +kernel
theorem d_Mo_changes_0 : decode b_Mo_changes 0 = .ok (.aload_n 0, 1) := by decide +kernel
theorem d_Mo_changes_1 : decode b_Mo_changes 1 = .ok (.iconst 0, 1) := by decide +kernel
theorem d_Mo_changes_2 : decode b_Mo_changes 2 = .ok (.putfield 51, 3) := by decide +kernel
theorem d_Mo_changes_5 : decode b_Mo_changes 5 = .ok (.iload_n 1, 1) := by decide +kernel
theorem d_Mo_changes_6 : decode b_Mo_changes 6 = .ok (.invokestatic 61, 3) := by decide +kernel
theorem d_Mo_changes_9 : decode b_Mo_changes 9 = .ok (.ifCond .eq 43, 3) := by decide +kernel
theorem d_Mo_changes_12 : decode b_Mo_changes 12 = .ok (.aload_n 0, 1) := by decide +kernel
theorem d_Mo_changes_13 : decode b_Mo_changes 13 = .ok (.iload_n 2, 1) := by decide +kernel
theorem d_Mo_changes_14 : decode b_Mo_changes 14 = .ok (.invokevirtual 57, 3) := by decide +kernel
theorem d_Mo_changes_17 : decode b_Mo_changes 17 = .ok (.ifCond .eq 35, 3) := by decide +kernel
theorem d_Mo_changes_20 : decode b_Mo_changes 20 = .ok (.iload_n 3, 1) := by decide +kernel
theorem d_Mo_changes_21 : decode b_Mo_changes 21 = .ok (.invokestatic 61, 3) := by decide +kernel
theorem d_Mo_changes_24 : decode b_Mo_changes 24 = .ok (.ifCond .eq 28, 3) := by decide +kernel
theorem d_Mo_changes_27 : decode b_Mo_changes 27 = .ok (.aload_n 0, 1) := by decide +kernel
theorem d_Mo_changes_28 : decode b_Mo_changes 28 = .ok (.getfield 23, 3) := by decide +kernel
theorem d_Mo_changes_31 : decode b_Mo_changes 31 = .ok (.bipush 120, 2) := by decide +kernel
theorem d_Mo_changes_33 : decode b_Mo_changes 33 = .ok (.iload_n 1, 1) := by decide +kernel
theorem d_Mo_changes_34 : decode b_Mo_changes 34 = .ok (.iadd, 1) := by decide +kernel
theorem d_Mo_changes_35 : decode b_Mo_changes 35 = .ok (.iaload, 1) := by decide +kernel
theorem d_Mo_changes_36 : decode b_Mo_changes 36 = .ok (.ifCond .eq 16, 3) := by decide +kernel
theorem d_Mo_changes_39 : decode b_Mo_changes 39 = .ok (.aload_n 0, 1) := by decide +kernel
theorem d_Mo_changes_40 : decode b_Mo_changes 40 = .ok (.getfield 23, 3) := by decide +kernel
theorem d_Mo_changes_43 : decode b_Mo_changes 43 = .ok (.iconst 3, 1) := by decide +kernel
theorem d_Mo_changes_44 : decode b_Mo_changes 44 = .ok (.iload_n 2, 1) := by decide +kernel
theorem d_Mo_changes_45 : decode b_Mo_changes 45 = .ok (.imul, 1) := by decide +kernel
theorem d_Mo_changes_46 : decode b_Mo_changes 46 = .ok (.iload_n 3, 1) := by decide +kernel
theorem d_Mo_changes_47 : decode b_Mo_changes 47 = .ok (.iadd, 1) := by decide +kernel
theorem d_Mo_changes_48 : decode b_Mo_changes 48 = .ok (.iaload, 1) := by decide +kernel
theorem d_Mo_changes_49 : decode b_Mo_changes 49 = .ok (.ifCond .ne 5, 3) := by decide +kernel
theorem d_Mo_changes_52 : decode b_Mo_changes 52 = .ok (.iconst (-1), 1) := by decide +kernel
theorem d_Mo_changes_53 : decode b_Mo_changes 53 = .ok (.ireturn, 1) := by decide +kernel
theorem d_Mo_changes_54 : decode b_Mo_changes 54 = .ok (.aload_n 0, 1) := by decide +kernel
theorem d_Mo_changes_55 : decode b_Mo_changes 55 = .ok (.bipush 120, 2) := by decide +kernel
theorem d_Mo_changes_57 : decode b_Mo_changes 57 = .ok (.iload_n 1, 1) := by decide +kernel
theorem d_Mo_changes_58 : decode b_Mo_changes 58 = .ok (.iadd, 1) := by decide +kernel
theorem d_Mo_changes_59 : decode b_Mo_changes 59 = .ok (.iconst 3, 1) := by decide +kernel
theorem d_Mo_changes_60 : decode b_Mo_changes 60 = .ok (.iload_n 2, 1) := by decide +kernel
theorem d_Mo_changes_61 : decode b_Mo_changes 61 = .ok (.imul, 1) := by decide +kernel
theorem d_Mo_changes_62 : decode b_Mo_changes 62 = .ok (.iload_n 3, 1) := by decide +kernel
theorem d_Mo_changes_63 : decode b_Mo_changes 63 = .ok (.iadd, 1) := by decide +kernel
theorem d_Mo_changes_64 : decode b_Mo_changes 64 = .ok (.invokevirtual 86, 3) := by decide +kernel
theorem d_Mo_changes_67 : decode b_Mo_changes 67 = .ok (.ireturn, 1) := by decide +kernel
theorem d_Mo_learned_0 : decode b_Mo_learned 0 = .ok (.aload_n 0, 1) := by decide +kernel
theorem d_Mo_learned_1 : decode b_Mo_learned 1 = .ok (.iconst 0, 1) := by decide +kernel
theorem d_Mo_learned_2 : decode b_Mo_learned 2 = .ok (.putfield 51, 3) := by decide +kernel
theorem d_Mo_learned_5 : decode b_Mo_learned 5 = .ok (.aload_n 0, 1) := by decide +kernel
theorem d_Mo_learned_6 : decode b_Mo_learned 6 = .ok (.iload_n 1, 1) := by decide +kernel
theorem d_Mo_learned_7 : decode b_Mo_learned 7 = .ok (.invokevirtual 57, 3) := by decide +kernel
theorem d_Mo_learned_10 : decode b_Mo_learned 10 = .ok (.ifCond .eq 13, 3) := by decide +kernel
theorem d_Mo_learned_13 : decode b_Mo_learned 13 = .ok (.iload_n 2, 1) := by decide +kernel
theorem d_Mo_learned_14 : decode b_Mo_learned 14 = .ok (.ifCond .lt 9, 3) := by decide +kernel
theorem d_Mo_learned_17 : decode b_Mo_learned 17 = .ok (.iload_n 2, 1) := by decide +kernel
theorem d_Mo_learned_18 : decode b_Mo_learned 18 = .ok (.ldc 126, 2) := by decide +kernel
theorem d_Mo_learned_20 : decode b_Mo_learned 20 = .ok (.if_icmp .le 5, 3) := by decide +kernel
theorem d_Mo_learned_23 : decode b_Mo_learned 23 = .ok (.iconst (-1), 1) := by decide +kernel
theorem d_Mo_learned_24 : decode b_Mo_learned 24 = .ok (.ireturn, 1) := by decide +kernel
theorem d_Mo_learned_25 : decode b_Mo_learned 25 = .ok (.aload_n 0, 1) := by decide +kernel
theorem d_Mo_learned_26 : decode b_Mo_learned 26 = .ok (.getfield 13, 3) := by decide +kernel
theorem d_Mo_learned_29 : decode b_Mo_learned 29 = .ok (.iload_n 1, 1) := by decide +kernel
theorem d_Mo_learned_30 : decode b_Mo_learned 30 = .ok (.iload_n 2, 1) := by decide +kernel
theorem d_Mo_learned_31 : decode b_Mo_learned 31 = .ok (.iastore, 1) := by decide +kernel
theorem d_Mo_learned_32 : decode b_Mo_learned 32 = .ok (.aload_n 0, 1) := by decide +kernel
theorem d_Mo_learned_33 : decode b_Mo_learned 33 = .ok (.getfield 16, 3) := by decide +kernel
theorem d_Mo_learned_36 : decode b_Mo_learned 36 = .ok (.iload_n 1, 1) := by decide +kernel
theorem d_Mo_learned_37 : decode b_Mo_learned 37 = .ok (.dup2, 1) := by decide +kernel
theorem d_Mo_learned_38 : decode b_Mo_learned 38 = .ok (.iaload, 1) := by decide +kernel
theorem d_Mo_learned_39 : decode b_Mo_learned 39 = .ok (.iconst 1, 1) := by decide +kernel
theorem d_Mo_learned_40 : decode b_Mo_learned 40 = .ok (.iadd, 1) := by decide +kernel
theorem d_Mo_learned_41 : decode b_Mo_learned 41 = .ok (.iastore, 1) := by decide +kernel
theorem d_Mo_learned_42 : decode b_Mo_learned 42 = .ok (.aload_n 0, 1) := by decide +kernel
theorem d_Mo_learned_43 : decode b_Mo_learned 43 = .ok (.getfield 16, 3) := by decide +kernel
theorem d_Mo_learned_46 : decode b_Mo_learned 46 = .ok (.iload_n 1, 1) := by decide +kernel
theorem d_Mo_learned_47 : decode b_Mo_learned 47 = .ok (.iaload, 1) := by decide +kernel
theorem d_Mo_learned_48 : decode b_Mo_learned 48 = .ok (.ireturn, 1) := by decide +kernel
theorem d_Mo_drop_0 : decode b_Mo_drop 0 = .ok (.aload_n 0, 1) := by decide +kernel
theorem d_Mo_drop_1 : decode b_Mo_drop 1 = .ok (.iconst 0, 1) := by decide +kernel
theorem d_Mo_drop_2 : decode b_Mo_drop 2 = .ok (.putfield 51, 3) := by decide +kernel
theorem d_Mo_drop_5 : decode b_Mo_drop 5 = .ok (.aload_n 0, 1) := by decide +kernel
theorem d_Mo_drop_6 : decode b_Mo_drop 6 = .ok (.iload_n 1, 1) := by decide +kernel
theorem d_Mo_drop_7 : decode b_Mo_drop 7 = .ok (.invokevirtual 57, 3) := by decide +kernel
theorem d_Mo_drop_10 : decode b_Mo_drop 10 = .ok (.ifCond .ne 5, 3) := by decide +kernel
theorem d_Mo_drop_13 : decode b_Mo_drop 13 = .ok (.iconst (-1), 1) := by decide +kernel
theorem d_Mo_drop_14 : decode b_Mo_drop 14 = .ok (.ireturn, 1) := by decide +kernel
theorem d_Mo_drop_15 : decode b_Mo_drop 15 = .ok (.aload_n 0, 1) := by decide +kernel
theorem d_Mo_drop_16 : decode b_Mo_drop 16 = .ok (.getfield 19, 3) := by decide +kernel
theorem d_Mo_drop_19 : decode b_Mo_drop 19 = .ok (.iload_n 1, 1) := by decide +kernel
theorem d_Mo_drop_20 : decode b_Mo_drop 20 = .ok (.baload, 1) := by decide +kernel
theorem d_Mo_drop_21 : decode b_Mo_drop 21 = .ok (.ifCond .eq 7, 3) := by decide +kernel
theorem d_Mo_drop_24 : decode b_Mo_drop 24 = .ok (.iconst 1, 1) := by decide +kernel
theorem d_Mo_drop_25 : decode b_Mo_drop 25 = .ok (.goto 4, 3) := by decide +kernel
theorem d_Mo_drop_28 : decode b_Mo_drop 28 = .ok (.iconst 0, 1) := by decide +kernel
theorem d_Mo_drop_29 : decode b_Mo_drop 29 = .ok (.istore_n 3, 1) := by decide +kernel
theorem d_Mo_drop_30 : decode b_Mo_drop 30 = .ok (.aload_n 0, 1) := by decide +kernel
theorem d_Mo_drop_31 : decode b_Mo_drop 31 = .ok (.getfield 19, 3) := by decide +kernel
theorem d_Mo_drop_34 : decode b_Mo_drop 34 = .ok (.iload_n 1, 1) := by decide +kernel
theorem d_Mo_drop_35 : decode b_Mo_drop 35 = .ok (.iload_n 2, 1) := by decide +kernel
theorem d_Mo_drop_36 : decode b_Mo_drop 36 = .ok (.bastore, 1) := by decide +kernel
theorem d_Mo_drop_37 : decode b_Mo_drop 37 = .ok (.iload_n 3, 1) := by decide +kernel
theorem d_Mo_drop_38 : decode b_Mo_drop 38 = .ok (.ireturn, 1) := by decide +kernel
theorem d_Mo_share_0 : decode b_Mo_share 0 = .ok (.aload_n 0, 1) := by decide +kernel
theorem d_Mo_share_1 : decode b_Mo_share 1 = .ok (.iload_n 2, 1) := by decide +kernel
theorem d_Mo_share_2 : decode b_Mo_share 2 = .ok (.ifCond .ne 7, 3) := by decide +kernel
theorem d_Mo_share_5 : decode b_Mo_share 5 = .ok (.iconst 1, 1) := by decide +kernel
theorem d_Mo_share_6 : decode b_Mo_share 6 = .ok (.goto 4, 3) := by decide +kernel
theorem d_Mo_share_9 : decode b_Mo_share 9 = .ok (.iconst 0, 1) := by decide +kernel
theorem d_Mo_share_10 : decode b_Mo_share 10 = .ok (.putfield 51, 3) := by decide +kernel
theorem d_Mo_share_13 : decode b_Mo_share 13 = .ok (.aload_n 0, 1) := by decide +kernel
theorem d_Mo_share_14 : decode b_Mo_share 14 = .ok (.getfield 51, 3) := by decide +kernel
theorem d_Mo_share_17 : decode b_Mo_share 17 = .ok (.iconst 1, 1) := by decide +kernel
theorem d_Mo_share_18 : decode b_Mo_share 18 = .ok (.if_icmp .ne 7, 3) := by decide +kernel
theorem d_Mo_share_21 : decode b_Mo_share 21 = .ok (.lconst 0, 1) := by decide +kernel
theorem d_Mo_share_22 : decode b_Mo_share 22 = .ok (.goto 12, 3) := by decide +kernel
theorem d_Mo_share_25 : decode b_Mo_share 25 = .ok (.ldc2_w 127, 3) := by decide +kernel
theorem d_Mo_share_28 : decode b_Mo_share 28 = .ok (.iload_n 1, 1) := by decide +kernel
theorem d_Mo_share_29 : decode b_Mo_share 29 = .ok (.i2l, 1) := by decide +kernel
theorem d_Mo_share_30 : decode b_Mo_share 30 = .ok (.lmul, 1) := by decide +kernel
theorem d_Mo_share_31 : decode b_Mo_share 31 = .ok (.iload_n 2, 1) := by decide +kernel
theorem d_Mo_share_32 : decode b_Mo_share 32 = .ok (.i2l, 1) := by decide +kernel
theorem d_Mo_share_33 : decode b_Mo_share 33 = .ok (.ldiv, 1) := by decide +kernel
theorem d_Mo_share_34 : decode b_Mo_share 34 = .ok (.lreturn, 1) := by decide +kernel
theorem d_Mo_count_0 : decode b_Mo_count 0 = .ok (.aload_n 0, 1) := by decide +kernel
theorem d_Mo_count_1 : decode b_Mo_count 1 = .ok (.iconst 0, 1) := by decide +kernel
theorem d_Mo_count_2 : decode b_Mo_count 2 = .ok (.putfield 51, 3) := by decide +kernel
theorem d_Mo_count_5 : decode b_Mo_count 5 = .ok (.iconst 0, 1) := by decide +kernel
theorem d_Mo_count_6 : decode b_Mo_count 6 = .ok (.istore_n 2, 1) := by decide +kernel
theorem d_Mo_count_7 : decode b_Mo_count 7 = .ok (.iload_n 1, 1) := by decide +kernel
theorem d_Mo_count_8 : decode b_Mo_count 8 = .ok (.tableswitch 130 0 4 #[36, 41, 66, 90, 95], 36) := by decide +kernel
theorem d_Mo_count_44 : decode b_Mo_count 44 = .ok (.aload_n 0, 1) := by decide +kernel
theorem d_Mo_count_45 : decode b_Mo_count 45 = .ok (.getfield 54, 3) := by decide +kernel
theorem d_Mo_count_48 : decode b_Mo_count 48 = .ok (.ireturn, 1) := by decide +kernel
theorem d_Mo_count_49 : decode b_Mo_count 49 = .ok (.iconst 0, 1) := by decide +kernel
theorem d_Mo_count_50 : decode b_Mo_count 50 = .ok (.istore_n 3, 1) := by decide +kernel
theorem d_Mo_count_51 : decode b_Mo_count 51 = .ok (.iload_n 3, 1) := by decide +kernel
theorem d_Mo_count_52 : decode b_Mo_count 52 = .ok (.bipush 120, 2) := by decide +kernel
theorem d_Mo_count_54 : decode b_Mo_count 54 = .ok (.if_icmp .ge 18, 3) := by decide +kernel
theorem d_Mo_count_57 : decode b_Mo_count 57 = .ok (.iload_n 2, 1) := by decide +kernel
theorem d_Mo_count_58 : decode b_Mo_count 58 = .ok (.aload_n 0, 1) := by decide +kernel
theorem d_Mo_count_59 : decode b_Mo_count 59 = .ok (.getfield 23, 3) := by decide +kernel
theorem d_Mo_count_62 : decode b_Mo_count 62 = .ok (.iload_n 3, 1) := by decide +kernel
theorem d_Mo_count_63 : decode b_Mo_count 63 = .ok (.iaload, 1) := by decide +kernel
theorem d_Mo_count_64 : decode b_Mo_count 64 = .ok (.iadd, 1) := by decide +kernel
theorem d_Mo_count_65 : decode b_Mo_count 65 = .ok (.istore_n 2, 1) := by decide +kernel
theorem d_Mo_count_66 : decode b_Mo_count 66 = .ok (.iinc 3 1, 3) := by decide +kernel
theorem d_Mo_count_69 : decode b_Mo_count 69 = .ok (.goto (-18), 3) := by decide +kernel
theorem d_Mo_count_72 : decode b_Mo_count 72 = .ok (.iload_n 2, 1) := by decide +kernel
theorem d_Mo_count_73 : decode b_Mo_count 73 = .ok (.ireturn, 1) := by decide +kernel
theorem d_Mo_count_74 : decode b_Mo_count 74 = .ok (.aload_n 0, 1) := by decide +kernel
theorem d_Mo_count_75 : decode b_Mo_count 75 = .ok (.getfield 23, 3) := by decide +kernel
theorem d_Mo_count_78 : decode b_Mo_count 78 = .ok (.bipush 120, 2) := by decide +kernel
theorem d_Mo_count_80 : decode b_Mo_count 80 = .ok (.iaload, 1) := by decide +kernel
theorem d_Mo_count_81 : decode b_Mo_count 81 = .ok (.aload_n 0, 1) := by decide +kernel
theorem d_Mo_count_82 : decode b_Mo_count 82 = .ok (.getfield 23, 3) := by decide +kernel
theorem d_Mo_count_85 : decode b_Mo_count 85 = .ok (.bipush 121, 2) := by decide +kernel
theorem d_Mo_count_87 : decode b_Mo_count 87 = .ok (.iaload, 1) := by decide +kernel
theorem d_Mo_count_88 : decode b_Mo_count 88 = .ok (.iadd, 1) := by decide +kernel
theorem d_Mo_count_89 : decode b_Mo_count 89 = .ok (.aload_n 0, 1) := by decide +kernel
theorem d_Mo_count_90 : decode b_Mo_count 90 = .ok (.getfield 23, 3) := by decide +kernel
theorem d_Mo_count_93 : decode b_Mo_count 93 = .ok (.bipush 122, 2) := by decide +kernel
theorem d_Mo_count_95 : decode b_Mo_count 95 = .ok (.iaload, 1) := by decide +kernel
theorem d_Mo_count_96 : decode b_Mo_count 96 = .ok (.iadd, 1) := by decide +kernel
theorem d_Mo_count_97 : decode b_Mo_count 97 = .ok (.ireturn, 1) := by decide +kernel
theorem d_Mo_count_98 : decode b_Mo_count 98 = .ok (.aload_n 0, 1) := by decide +kernel
theorem d_Mo_count_99 : decode b_Mo_count 99 = .ok (.getfield 102, 3) := by decide +kernel
theorem d_Mo_count_102 : decode b_Mo_count 102 = .ok (.ireturn, 1) := by decide +kernel
theorem d_Mo_count_103 : decode b_Mo_count 103 = .ok (.iconst 0, 1) := by decide +kernel
theorem d_Mo_count_104 : decode b_Mo_count 104 = .ok (.istore_n 3, 1) := by decide +kernel
theorem d_Mo_count_105 : decode b_Mo_count 105 = .ok (.iload_n 3, 1) := by decide +kernel
theorem d_Mo_count_106 : decode b_Mo_count 106 = .ok (.aload_n 0, 1) := by decide +kernel
theorem d_Mo_count_107 : decode b_Mo_count 107 = .ok (.getfield 54, 3) := by decide +kernel
theorem d_Mo_count_110 : decode b_Mo_count 110 = .ok (.if_icmp .ge 26, 3) := by decide +kernel
theorem d_Mo_count_113 : decode b_Mo_count 113 = .ok (.aload_n 0, 1) := by decide +kernel
theorem d_Mo_count_114 : decode b_Mo_count 114 = .ok (.getfield 19, 3) := by decide +kernel
theorem d_Mo_count_117 : decode b_Mo_count 117 = .ok (.iload_n 3, 1) := by decide +kernel
theorem d_Mo_count_118 : decode b_Mo_count 118 = .ok (.baload, 1) := by decide +kernel
theorem d_Mo_count_119 : decode b_Mo_count 119 = .ok (.ifCond .eq 9, 3) := by decide +kernel
theorem d_Mo_count_122 : decode b_Mo_count 122 = .ok (.iload_n 2, 1) := by decide +kernel
theorem d_Mo_count_123 : decode b_Mo_count 123 = .ok (.iconst 1, 1) := by decide +kernel
theorem d_Mo_count_124 : decode b_Mo_count 124 = .ok (.iadd, 1) := by decide +kernel
theorem d_Mo_count_125 : decode b_Mo_count 125 = .ok (.goto 4, 3) := by decide +kernel
theorem d_Mo_count_128 : decode b_Mo_count 128 = .ok (.iload_n 2, 1) := by decide +kernel
theorem d_Mo_count_129 : decode b_Mo_count 129 = .ok (.istore_n 2, 1) := by decide +kernel
theorem d_Mo_count_130 : decode b_Mo_count 130 = .ok (.iinc 3 1, 3) := by decide +kernel
theorem d_Mo_count_133 : decode b_Mo_count 133 = .ok (.goto (-28), 3) := by decide +kernel
theorem d_Mo_count_136 : decode b_Mo_count 136 = .ok (.iload_n 2, 1) := by decide +kernel
theorem d_Mo_count_137 : decode b_Mo_count 137 = .ok (.ireturn, 1) := by decide +kernel
theorem d_Mo_count_138 : decode b_Mo_count 138 = .ok (.iconst (-1), 1) := by decide +kernel
theorem d_Mo_count_139 : decode b_Mo_count 139 = .ok (.ireturn, 1) := by decide +kernel
theorem d_Bk_init_0 : decode b_Bk_init 0 = .ok (.aload_n 0, 1) := by decide +kernel
theorem d_Bk_init_1 : decode b_Bk_init 1 = .ok (.invokespecial 3, 3) := by decide +kernel
theorem d_Bk_init_4 : decode b_Bk_init 4 = .ok (.aload_n 0, 1) := by decide +kernel
theorem d_Bk_init_5 : decode b_Bk_init 5 = .ok (.new 9, 3) := by decide +kernel
theorem d_Bk_init_8 : decode b_Bk_init 8 = .ok (.dup, 1) := by decide +kernel
theorem d_Bk_init_9 : decode b_Bk_init 9 = .ok (.bipush 120, 2) := by decide +kernel
theorem d_Bk_init_11 : decode b_Bk_init 11 = .ok (.invokespecial 11, 3) := by decide +kernel
theorem d_Bk_init_14 : decode b_Bk_init 14 = .ok (.putfield 14, 3) := by decide +kernel
theorem d_Bk_init_17 : decode b_Bk_init 17 = .ok (.aload_n 0, 1) := by decide +kernel
theorem d_Bk_init_18 : decode b_Bk_init 18 = .ok (.bipush 40, 2) := by decide +kernel
theorem d_Bk_init_20 : decode b_Bk_init 20 = .ok (.newarray .int, 2) := by decide +kernel
theorem d_Bk_init_22 : decode b_Bk_init 22 = .ok (.putfield 20, 3) := by decide +kernel
theorem d_Bk_init_25 : decode b_Bk_init 25 = .ok (.aload_n 0, 1) := by decide +kernel
theorem d_Bk_init_26 : decode b_Bk_init 26 = .ok (.bipush 40, 2) := by decide +kernel
theorem d_Bk_init_28 : decode b_Bk_init 28 = .ok (.newarray .int, 2) := by decide +kernel
theorem d_Bk_init_30 : decode b_Bk_init 30 = .ok (.putfield 24, 3) := by decide +kernel
theorem d_Bk_init_33 : decode b_Bk_init 33 = .ok (.aload_n 0, 1) := by decide +kernel
theorem d_Bk_init_34 : decode b_Bk_init 34 = .ok (.bipush 40, 2) := by decide +kernel
theorem d_Bk_init_36 : decode b_Bk_init 36 = .ok (.newarray .int, 2) := by decide +kernel
theorem d_Bk_init_38 : decode b_Bk_init 38 = .ok (.putfield 27, 3) := by decide +kernel
theorem d_Bk_init_41 : decode b_Bk_init 41 = .ok (.aload_n 0, 1) := by decide +kernel
theorem d_Bk_init_42 : decode b_Bk_init 42 = .ok (.bipush 40, 2) := by decide +kernel
theorem d_Bk_init_44 : decode b_Bk_init 44 = .ok (.newarray .boolean, 2) := by decide +kernel
theorem d_Bk_init_46 : decode b_Bk_init 46 = .ok (.putfield 30, 3) := by decide +kernel
theorem d_Bk_init_49 : decode b_Bk_init 49 = .ok (.aload_n 0, 1) := by decide +kernel
theorem d_Bk_init_50 : decode b_Bk_init 50 = .ok (.iconst 0, 1) := by decide +kernel
theorem d_Bk_init_51 : decode b_Bk_init 51 = .ok (.putfield 34, 3) := by decide +kernel
theorem d_Bk_init_54 : decode b_Bk_init 54 = .ok (.return_, 1) := by decide +kernel
theorem d_Bk_wordAt_0 : decode b_Bk_wordAt 0 = .ok (.iload_n 0, 1) := by decide +kernel
theorem d_Bk_wordAt_1 : decode b_Bk_wordAt 1 = .ok (.iconst 3, 1) := by decide +kernel
theorem d_Bk_wordAt_2 : decode b_Bk_wordAt 2 = .ok (.imul, 1) := by decide +kernel
theorem d_Bk_wordAt_3 : decode b_Bk_wordAt 3 = .ok (.iload_n 1, 1) := by decide +kernel
theorem d_Bk_wordAt_4 : decode b_Bk_wordAt 4 = .ok (.iadd, 1) := by decide +kernel
theorem d_Bk_wordAt_5 : decode b_Bk_wordAt 5 = .ok (.ireturn, 1) := by decide +kernel
theorem d_Bk_has_0 : decode b_Bk_has 0 = .ok (.iload_n 1, 1) := by decide +kernel
theorem d_Bk_has_1 : decode b_Bk_has 1 = .ok (.ifCond .lt 15, 3) := by decide +kernel
theorem d_Bk_has_4 : decode b_Bk_has 4 = .ok (.iload_n 1, 1) := by decide +kernel
theorem d_Bk_has_5 : decode b_Bk_has 5 = .ok (.aload_n 0, 1) := by decide +kernel
theorem d_Bk_has_6 : decode b_Bk_has 6 = .ok (.getfield 34, 3) := by decide +kernel
theorem d_Bk_has_9 : decode b_Bk_has 9 = .ok (.if_icmp .ge 7, 3) := by decide +kernel
theorem d_Bk_has_12 : decode b_Bk_has 12 = .ok (.iconst 1, 1) := by decide +kernel
theorem d_Bk_has_13 : decode b_Bk_has 13 = .ok (.goto 4, 3) := by decide +kernel
theorem d_Bk_has_16 : decode b_Bk_has 16 = .ok (.iconst 0, 1) := by decide +kernel
theorem d_Bk_has_17 : decode b_Bk_has 17 = .ok (.ireturn, 1) := by decide +kernel
theorem d_Bk_isFull_0 : decode b_Bk_isFull 0 = .ok (.aload_n 0, 1) := by decide +kernel
theorem d_Bk_isFull_1 : decode b_Bk_isFull 1 = .ok (.getfield 34, 3) := by decide +kernel
theorem d_Bk_isFull_4 : decode b_Bk_isFull 4 = .ok (.bipush 40, 2) := by decide +kernel
theorem d_Bk_isFull_6 : decode b_Bk_isFull 6 = .ok (.if_icmp .lt 7, 3) := by decide +kernel
theorem d_Bk_isFull_9 : decode b_Bk_isFull 9 = .ok (.iconst 1, 1) := by decide +kernel
theorem d_Bk_isFull_10 : decode b_Bk_isFull 10 = .ok (.goto 4, 3) := by decide +kernel
theorem d_Bk_isFull_13 : decode b_Bk_isFull 13 = .ok (.iconst 0, 1) := by decide +kernel
theorem d_Bk_isFull_14 : decode b_Bk_isFull 14 = .ok (.ireturn, 1) := by decide +kernel
theorem d_Bk_addEntry_0 : decode b_Bk_addEntry 0 = .ok (.aload_n 0, 1) := by decide +kernel
theorem d_Bk_addEntry_1 : decode b_Bk_addEntry 1 = .ok (.getfield 34, 3) := by decide +kernel
theorem d_Bk_addEntry_4 : decode b_Bk_addEntry 4 = .ok (.istore_n 2, 1) := by decide +kernel
theorem d_Bk_addEntry_5 : decode b_Bk_addEntry 5 = .ok (.aload_n 0, 1) := by decide +kernel
theorem d_Bk_addEntry_6 : decode b_Bk_addEntry 6 = .ok (.getfield 20, 3) := by decide +kernel
theorem d_Bk_addEntry_9 : decode b_Bk_addEntry 9 = .ok (.iload_n 2, 1) := by decide +kernel
theorem d_Bk_addEntry_10 : decode b_Bk_addEntry 10 = .ok (.iload_n 1, 1) := by decide +kernel
theorem d_Bk_addEntry_11 : decode b_Bk_addEntry 11 = .ok (.iastore, 1) := by decide +kernel
theorem d_Bk_addEntry_12 : decode b_Bk_addEntry 12 = .ok (.aload_n 0, 1) := by decide +kernel
theorem d_Bk_addEntry_13 : decode b_Bk_addEntry 13 = .ok (.getfield 24, 3) := by decide +kernel
theorem d_Bk_addEntry_16 : decode b_Bk_addEntry 16 = .ok (.iload_n 2, 1) := by decide +kernel
theorem d_Bk_addEntry_17 : decode b_Bk_addEntry 17 = .ok (.iconst (-1), 1) := by decide +kernel
theorem d_Bk_addEntry_18 : decode b_Bk_addEntry 18 = .ok (.iastore, 1) := by decide +kernel
theorem d_Bk_addEntry_19 : decode b_Bk_addEntry 19 = .ok (.aload_n 0, 1) := by decide +kernel
theorem d_Bk_addEntry_20 : decode b_Bk_addEntry 20 = .ok (.dup, 1) := by decide +kernel
theorem d_Bk_addEntry_21 : decode b_Bk_addEntry 21 = .ok (.getfield 34, 3) := by decide +kernel
theorem d_Bk_addEntry_24 : decode b_Bk_addEntry 24 = .ok (.iconst 1, 1) := by decide +kernel
theorem d_Bk_addEntry_25 : decode b_Bk_addEntry 25 = .ok (.iadd, 1) := by decide +kernel
theorem d_Bk_addEntry_26 : decode b_Bk_addEntry 26 = .ok (.putfield 34, 3) := by decide +kernel
theorem d_Bk_addEntry_29 : decode b_Bk_addEntry 29 = .ok (.iload_n 2, 1) := by decide +kernel
theorem d_Bk_addEntry_30 : decode b_Bk_addEntry 30 = .ok (.ireturn, 1) := by decide +kernel
theorem d_Bk_learn_0 : decode b_Bk_learn 0 = .ok (.aload_n 0, 1) := by decide +kernel
theorem d_Bk_learn_1 : decode b_Bk_learn 1 = .ok (.getfield 24, 3) := by decide +kernel
theorem d_Bk_learn_4 : decode b_Bk_learn 4 = .ok (.iload_n 1, 1) := by decide +kernel
theorem d_Bk_learn_5 : decode b_Bk_learn 5 = .ok (.iload_n 2, 1) := by decide +kernel
theorem d_Bk_learn_6 : decode b_Bk_learn 6 = .ok (.iastore, 1) := by decide +kernel
theorem d_Bk_learn_7 : decode b_Bk_learn 7 = .ok (.aload_n 0, 1) := by decide +kernel
theorem d_Bk_learn_8 : decode b_Bk_learn 8 = .ok (.getfield 27, 3) := by decide +kernel
theorem d_Bk_learn_11 : decode b_Bk_learn 11 = .ok (.iload_n 1, 1) := by decide +kernel
theorem d_Bk_learn_12 : decode b_Bk_learn 12 = .ok (.dup2, 1) := by decide +kernel
theorem d_Bk_learn_13 : decode b_Bk_learn 13 = .ok (.iaload, 1) := by decide +kernel
theorem d_Bk_learn_14 : decode b_Bk_learn 14 = .ok (.iconst 1, 1) := by decide +kernel
theorem d_Bk_learn_15 : decode b_Bk_learn 15 = .ok (.iadd, 1) := by decide +kernel
theorem d_Bk_learn_16 : decode b_Bk_learn 16 = .ok (.iastore, 1) := by decide +kernel
theorem d_Bk_learn_17 : decode b_Bk_learn 17 = .ok (.aload_n 0, 1) := by decide +kernel
theorem d_Bk_learn_18 : decode b_Bk_learn 18 = .ok (.getfield 27, 3) := by decide +kernel
theorem d_Bk_learn_21 : decode b_Bk_learn 21 = .ok (.iload_n 1, 1) := by decide +kernel
theorem d_Bk_learn_22 : decode b_Bk_learn 22 = .ok (.iaload, 1) := by decide +kernel
theorem d_Bk_learn_23 : decode b_Bk_learn 23 = .ok (.ireturn, 1) := by decide +kernel
theorem d_Bk_droppedOnes_0 : decode b_Bk_droppedOnes 0 = .ok (.iconst 0, 1) := by decide +kernel
theorem d_Bk_droppedOnes_1 : decode b_Bk_droppedOnes 1 = .ok (.istore_n 1, 1) := by decide +kernel
theorem d_Bk_droppedOnes_2 : decode b_Bk_droppedOnes 2 = .ok (.iconst 0, 1) := by decide +kernel
theorem d_Bk_droppedOnes_3 : decode b_Bk_droppedOnes 3 = .ok (.istore_n 2, 1) := by decide +kernel
theorem d_Bk_droppedOnes_4 : decode b_Bk_droppedOnes 4 = .ok (.iload_n 2, 1) := by decide +kernel
theorem d_Bk_droppedOnes_5 : decode b_Bk_droppedOnes 5 = .ok (.aload_n 0, 1) := by decide +kernel
theorem d_Bk_droppedOnes_6 : decode b_Bk_droppedOnes 6 = .ok (.getfield 34, 3) := by decide +kernel
theorem d_Bk_droppedOnes_9 : decode b_Bk_droppedOnes 9 = .ok (.if_icmp .ge 21, 3) := by decide +kernel
theorem d_Bk_droppedOnes_12 : decode b_Bk_droppedOnes 12 = .ok (.aload_n 0, 1) := by decide +kernel
theorem d_Bk_droppedOnes_13 : decode b_Bk_droppedOnes 13 = .ok (.getfield 30, 3) := by decide +kernel
theorem d_Bk_droppedOnes_16 : decode b_Bk_droppedOnes 16 = .ok (.iload_n 2, 1) := by decide +kernel
theorem d_Bk_droppedOnes_17 : decode b_Bk_droppedOnes 17 = .ok (.baload, 1) := by decide +kernel
theorem d_Bk_droppedOnes_18 : decode b_Bk_droppedOnes 18 = .ok (.ifCond .eq 6, 3) := by decide +kernel
theorem d_Bk_droppedOnes_21 : decode b_Bk_droppedOnes 21 = .ok (.iinc 1 1, 3) := by decide +kernel
theorem d_Bk_droppedOnes_24 : decode b_Bk_droppedOnes 24 = .ok (.iinc 2 1, 3) := by decide +kernel
theorem d_Bk_droppedOnes_27 : decode b_Bk_droppedOnes 27 = .ok (.goto (-23), 3) := by decide +kernel
theorem d_Bk_droppedOnes_30 : decode b_Bk_droppedOnes 30 = .ok (.iload_n 1, 1) := by decide +kernel
theorem d_Bk_droppedOnes_31 : decode b_Bk_droppedOnes 31 = .ok (.ireturn, 1) := by decide +kernel
theorem d_Bc_init_0 : decode b_Bc_init 0 = .ok (.aload_n 0, 1) := by decide +kernel
theorem d_Bc_init_1 : decode b_Bc_init 1 = .ok (.invokespecial 3, 3) := by decide +kernel
theorem d_Bc_init_4 : decode b_Bc_init 4 = .ok (.aload_n 0, 1) := by decide +kernel
theorem d_Bc_init_5 : decode b_Bc_init 5 = .ok (.aload_n 1, 1) := by decide +kernel
theorem d_Bc_init_6 : decode b_Bc_init 6 = .ok (.putfield 9, 3) := by decide +kernel
theorem d_Bc_init_9 : decode b_Bc_init 9 = .ok (.aload_n 0, 1) := by decide +kernel
theorem d_Bc_init_10 : decode b_Bc_init 10 = .ok (.bipush 11, 2) := by decide +kernel
theorem d_Bc_init_12 : decode b_Bc_init 12 = .ok (.newarray .int, 2) := by decide +kernel
theorem d_Bc_init_14 : decode b_Bc_init 14 = .ok (.putfield 15, 3) := by decide +kernel
theorem d_Bc_init_17 : decode b_Bc_init 17 = .ok (.return_, 1) := by decide +kernel
theorem d_Bc_between_0 : decode b_Bc_between 0 = .ok (.aload_n 3, 1) := by decide +kernel
theorem d_Bc_between_1 : decode b_Bc_between 1 = .ok (.getfield 19, 3) := by decide +kernel
theorem d_Bc_between_4 : decode b_Bc_between 4 = .ok (.iload 4, 2) := by decide +kernel
theorem d_Bc_between_6 : decode b_Bc_between 6 = .ok (.iaload, 1) := by decide +kernel
theorem d_Bc_between_7 : decode b_Bc_between 7 = .ok (.istore 5, 2) := by decide +kernel
theorem d_Bc_between_9 : decode b_Bc_between 9 = .ok (.aload_n 0, 1) := by decide +kernel
theorem d_Bc_between_10 : decode b_Bc_between 10 = .ok (.getfield 9, 3) := by decide +kernel
theorem d_Bc_between_13 : decode b_Bc_between 13 = .ok (.invokevirtual 24, 3) := by decide +kernel
theorem d_Bc_between_16 : decode b_Bc_between 16 = .ok (.istore 6, 2) := by decide +kernel
theorem d_Bc_between_18 : decode b_Bc_between 18 = .ok (.iconst 0, 1) := by decide +kernel
theorem d_Bc_between_19 : decode b_Bc_between 19 = .ok (.istore 7, 2) := by decide +kernel
theorem d_Bc_between_21 : decode b_Bc_between 21 = .ok (.iload 7, 2) := by decide +kernel
theorem d_Bc_between_23 : decode b_Bc_between 23 = .ok (.iload 5, 2) := by decide +kernel
theorem d_Bc_between_25 : decode b_Bc_between 25 = .ok (.if_icmp .gt 21, 3) := by decide +kernel
theorem d_Bc_between_28 : decode b_Bc_between 28 = .ok (.aload_n 0, 1) := by decide +kernel
theorem d_Bc_between_29 : decode b_Bc_between 29 = .ok (.getfield 15, 3) := by decide +kernel
theorem d_Bc_between_32 : decode b_Bc_between 32 = .ok (.iload 7, 2) := by decide +kernel
theorem d_Bc_between_34 : decode b_Bc_between 34 = .ok (.iload 7, 2) := by decide +kernel
theorem d_Bc_between_36 : decode b_Bc_between 36 = .ok (.iload 6, 2) := by decide +kernel
theorem d_Bc_between_38 : decode b_Bc_between 38 = .ok (.imul, 1) := by decide +kernel
theorem d_Bc_between_39 : decode b_Bc_between 39 = .ok (.iastore, 1) := by decide +kernel
theorem d_Bc_between_40 : decode b_Bc_between 40 = .ok (.iinc 7 1, 3) := by decide +kernel
theorem d_Bc_between_43 : decode b_Bc_between 43 = .ok (.goto (-22), 3) := by decide +kernel
theorem d_Bc_between_46 : decode b_Bc_between 46 = .ok (.iload_n 2, 1) := by decide +kernel
theorem d_Bc_between_47 : decode b_Bc_between 47 = .ok (.invokestatic 30, 3) := by decide +kernel
theorem d_Bc_between_50 : decode b_Bc_between 50 = .ok (.istore 7, 2) := by decide +kernel
theorem d_Bc_between_52 : decode b_Bc_between 52 = .ok (.iconst 0, 1) := by decide +kernel
theorem d_Bc_between_53 : decode b_Bc_between 53 = .ok (.istore 8, 2) := by decide +kernel
theorem d_Bc_between_55 : decode b_Bc_between 55 = .ok (.iload 8, 2) := by decide +kernel
theorem d_Bc_between_57 : decode b_Bc_between 57 = .ok (.aload_n 1, 1) := by decide +kernel
theorem d_Bc_between_58 : decode b_Bc_between 58 = .ok (.getfield 19, 3) := by decide +kernel
theorem d_Bc_between_61 : decode b_Bc_between 61 = .ok (.iload_n 2, 1) := by decide +kernel
theorem d_Bc_between_62 : decode b_Bc_between 62 = .ok (.iaload, 1) := by decide +kernel
theorem d_Bc_between_63 : decode b_Bc_between 63 = .ok (.if_icmp .ge 34, 3) := by decide +kernel
theorem d_Bc_between_66 : decode b_Bc_between 66 = .ok (.aload_n 0, 1) := by decide +kernel
theorem d_Bc_between_67 : decode b_Bc_between 67 = .ok (.aload_n 1, 1) := by decide +kernel
theorem d_Bc_between_68 : decode b_Bc_between 68 = .ok (.getfield 34, 3) := by decide +kernel
theorem d_Bc_between_71 : decode b_Bc_between 71 = .ok (.iload 7, 2) := by decide +kernel
theorem d_Bc_between_73 : decode b_Bc_between 73 = .ok (.iload 8, 2) := by decide +kernel
theorem d_Bc_between_75 : decode b_Bc_between 75 = .ok (.iadd, 1) := by decide +kernel
theorem d_Bc_between_76 : decode b_Bc_between 76 = .ok (.iaload, 1) := by decide +kernel
theorem d_Bc_between_77 : decode b_Bc_between 77 = .ok (.aload_n 3, 1) := by decide +kernel
theorem d_Bc_between_78 : decode b_Bc_between 78 = .ok (.getfield 34, 3) := by decide +kernel
theorem d_Bc_between_81 : decode b_Bc_between 81 = .ok (.iload 4, 2) := by decide +kernel
theorem d_Bc_between_83 : decode b_Bc_between 83 = .ok (.invokestatic 30, 3) := by decide +kernel
theorem d_Bc_between_86 : decode b_Bc_between 86 = .ok (.iload 5, 2) := by decide +kernel
theorem d_Bc_between_88 : decode b_Bc_between 88 = .ok (.invokevirtual 37, 3) := by decide +kernel
theorem d_Bc_between_91 : decode b_Bc_between 91 = .ok (.iinc 8 1, 3) := by decide +kernel
theorem d_Bc_between_94 : decode b_Bc_between 94 = .ok (.goto (-39), 3) := by decide +kernel
theorem d_Bc_between_97 : decode b_Bc_between 97 = .ok (.aload_n 0, 1) := by decide +kernel
theorem d_Bc_between_98 : decode b_Bc_between 98 = .ok (.getfield 15, 3) := by decide +kernel
theorem d_Bc_between_101 : decode b_Bc_between 101 = .ok (.iload 5, 2) := by decide +kernel
theorem d_Bc_between_103 : decode b_Bc_between 103 = .ok (.iaload, 1) := by decide +kernel
theorem d_Bc_between_104 : decode b_Bc_between 104 = .ok (.ireturn, 1) := by decide +kernel
theorem d_Bc_nextRow_0 : decode b_Bc_nextRow 0 = .ok (.aload_n 0, 1) := by decide +kernel
theorem d_Bc_nextRow_1 : decode b_Bc_nextRow 1 = .ok (.getfield 9, 3) := by decide +kernel
theorem d_Bc_nextRow_4 : decode b_Bc_nextRow 4 = .ok (.invokevirtual 24, 3) := by decide +kernel
theorem d_Bc_nextRow_7 : decode b_Bc_nextRow 7 = .ok (.istore 5, 2) := by decide +kernel
theorem d_Bc_nextRow_9 : decode b_Bc_nextRow 9 = .ok (.aload_n 0, 1) := by decide +kernel
theorem d_Bc_nextRow_10 : decode b_Bc_nextRow 10 = .ok (.getfield 9, 3) := by decide +kernel
theorem d_Bc_nextRow_13 : decode b_Bc_nextRow 13 = .ok (.invokevirtual 41, 3) := by decide +kernel
theorem d_Bc_nextRow_16 : decode b_Bc_nextRow 16 = .ok (.istore 6, 2) := by decide +kernel
theorem d_Bc_nextRow_18 : decode b_Bc_nextRow 18 = .ok (.aload_n 0, 1) := by decide +kernel
theorem d_Bc_nextRow_19 : decode b_Bc_nextRow 19 = .ok (.getfield 9, 3) := by decide +kernel
theorem d_Bc_nextRow_22 : decode b_Bc_nextRow 22 = .ok (.invokevirtual 44, 3) := by decide +kernel
theorem d_Bc_nextRow_25 : decode b_Bc_nextRow 25 = .ok (.istore 7, 2) := by decide +kernel
theorem d_Bc_nextRow_27 : decode b_Bc_nextRow 27 = .ok (.aload_n 0, 1) := by decide +kernel
theorem d_Bc_nextRow_28 : decode b_Bc_nextRow 28 = .ok (.getfield 9, 3) := by decide +kernel
theorem d_Bc_nextRow_31 : decode b_Bc_nextRow 31 = .ok (.invokevirtual 47, 3) := by decide +kernel
theorem d_Bc_nextRow_34 : decode b_Bc_nextRow 34 = .ok (.istore 8, 2) := by decide +kernel
theorem d_Bc_nextRow_36 : decode b_Bc_nextRow 36 = .ok (.aload_n 0, 1) := by decide +kernel
theorem d_Bc_nextRow_37 : decode b_Bc_nextRow 37 = .ok (.getfield 15, 3) := by decide +kernel
theorem d_Bc_nextRow_40 : decode b_Bc_nextRow 40 = .ok (.iconst 0, 1) := by decide +kernel
theorem d_Bc_nextRow_41 : decode b_Bc_nextRow 41 = .ok (.iaload, 1) := by decide +kernel
theorem d_Bc_nextRow_42 : decode b_Bc_nextRow 42 = .ok (.istore 9, 2) := by decide +kernel
theorem d_Bc_nextRow_44 : decode b_Bc_nextRow 44 = .ok (.iload 9, 2) := by decide +kernel
theorem d_Bc_nextRow_46 : decode b_Bc_nextRow 46 = .ok (.iload 6, 2) := by decide +kernel
theorem d_Bc_nextRow_48 : decode b_Bc_nextRow 48 = .ok (.iadd, 1) := by decide +kernel
theorem d_Bc_nextRow_49 : decode b_Bc_nextRow 49 = .ok (.istore 10, 2) := by decide +kernel
theorem d_Bc_nextRow_51 : decode b_Bc_nextRow 51 = .ok (.aload_n 0, 1) := by decide +kernel
theorem d_Bc_nextRow_52 : decode b_Bc_nextRow 52 = .ok (.getfield 15, 3) := by decide +kernel
theorem d_Bc_nextRow_55 : decode b_Bc_nextRow 55 = .ok (.iconst 0, 1) := by decide +kernel
theorem d_Bc_nextRow_56 : decode b_Bc_nextRow 56 = .ok (.iload 10, 2) := by decide +kernel
theorem d_Bc_nextRow_58 : decode b_Bc_nextRow 58 = .ok (.iastore, 1) := by decide +kernel
theorem d_Bc_nextRow_59 : decode b_Bc_nextRow 59 = .ok (.iconst 1, 1) := by decide +kernel
theorem d_Bc_nextRow_60 : decode b_Bc_nextRow 60 = .ok (.istore 11, 2) := by decide +kernel
theorem d_Bc_nextRow_62 : decode b_Bc_nextRow 62 = .ok (.iload 11, 2) := by decide +kernel
theorem d_Bc_nextRow_64 : decode b_Bc_nextRow 64 = .ok (.iload 4, 2) := by decide +kernel
theorem d_Bc_nextRow_66 : decode b_Bc_nextRow 66 = .ok (.if_icmp .gt 93, 3) := by decide +kernel
theorem d_Bc_nextRow_69 : decode b_Bc_nextRow 69 = .ok (.aload_n 2, 1) := by decide +kernel
theorem d_Bc_nextRow_70 : decode b_Bc_nextRow 70 = .ok (.iload_n 3, 1) := by decide +kernel
theorem d_Bc_nextRow_71 : decode b_Bc_nextRow 71 = .ok (.iload 11, 2) := by decide +kernel
theorem d_Bc_nextRow_73 : decode b_Bc_nextRow 73 = .ok (.iadd, 1) := by decide +kernel
theorem d_Bc_nextRow_74 : decode b_Bc_nextRow 74 = .ok (.iconst 1, 1) := by decide +kernel
theorem d_Bc_nextRow_75 : decode b_Bc_nextRow 75 = .ok (.isub, 1) := by decide +kernel
theorem d_Bc_nextRow_76 : decode b_Bc_nextRow 76 = .ok (.iaload, 1) := by decide +kernel
theorem d_Bc_nextRow_77 : decode b_Bc_nextRow 77 = .ok (.istore 12, 2) := by decide +kernel
theorem d_Bc_nextRow_79 : decode b_Bc_nextRow 79 = .ok (.iload 9, 2) := by decide +kernel
theorem d_Bc_nextRow_81 : decode b_Bc_nextRow 81 = .ok (.istore 13, 2) := by decide +kernel
theorem d_Bc_nextRow_83 : decode b_Bc_nextRow 83 = .ok (.iload 12, 2) := by decide +kernel
theorem d_Bc_nextRow_85 : decode b_Bc_nextRow 85 = .ok (.iload_n 1, 1) := by decide +kernel
theorem d_Bc_nextRow_86 : decode b_Bc_nextRow 86 = .ok (.if_icmp .eq 29, 3) := by decide +kernel
theorem d_Bc_nextRow_89 : decode b_Bc_nextRow 89 = .ok (.iload 13, 2) := by decide +kernel
theorem d_Bc_nextRow_91 : decode b_Bc_nextRow 91 = .ok (.getstatic 50, 3) := by decide +kernel
theorem d_Bc_nextRow_94 : decode b_Bc_nextRow 94 = .ok (.iload 12, 2) := by decide +kernel
theorem d_Bc_nextRow_96 : decode b_Bc_nextRow 96 = .ok (.iaload, 1) := by decide +kernel
theorem d_Bc_nextRow_97 : decode b_Bc_nextRow 97 = .ok (.getstatic 50, 3) := by decide +kernel
theorem d_Bc_nextRow_100 : decode b_Bc_nextRow 100 = .ok (.iload_n 1, 1) := by decide +kernel
theorem d_Bc_nextRow_101 : decode b_Bc_nextRow 101 = .ok (.iaload, 1) := by decide +kernel
theorem d_Bc_nextRow_102 : decode b_Bc_nextRow 102 = .ok (.if_icmp .ne 8, 3) := by decide +kernel
theorem d_Bc_nextRow_105 : decode b_Bc_nextRow 105 = .ok (.iload 8, 2) := by decide +kernel
theorem d_Bc_nextRow_107 : decode b_Bc_nextRow 107 = .ok (.goto 5, 3) := by decide +kernel
theorem d_Bc_nextRow_110 : decode b_Bc_nextRow 110 = .ok (.iload 7, 2) := by decide +kernel
theorem d_Bc_nextRow_112 : decode b_Bc_nextRow 112 = .ok (.iadd, 1) := by decide +kernel
theorem d_Bc_nextRow_113 : decode b_Bc_nextRow 113 = .ok (.istore 13, 2) := by decide +kernel
theorem d_Bc_nextRow_115 : decode b_Bc_nextRow 115 = .ok (.aload_n 0, 1) := by decide +kernel
theorem d_Bc_nextRow_116 : decode b_Bc_nextRow 116 = .ok (.getfield 15, 3) := by decide +kernel
theorem d_Bc_nextRow_119 : decode b_Bc_nextRow 119 = .ok (.iload 11, 2) := by decide +kernel
theorem d_Bc_nextRow_121 : decode b_Bc_nextRow 121 = .ok (.iaload, 1) := by decide +kernel
theorem d_Bc_nextRow_122 : decode b_Bc_nextRow 122 = .ok (.istore 9, 2) := by decide +kernel
theorem d_Bc_nextRow_124 : decode b_Bc_nextRow 124 = .ok (.iload 13, 2) := by decide +kernel
theorem d_Bc_nextRow_126 : decode b_Bc_nextRow 126 = .ok (.iload 10, 2) := by decide +kernel
theorem d_Bc_nextRow_128 : decode b_Bc_nextRow 128 = .ok (.iload 5, 2) := by decide +kernel
theorem d_Bc_nextRow_130 : decode b_Bc_nextRow 130 = .ok (.iadd, 1) := by decide +kernel
theorem d_Bc_nextRow_131 : decode b_Bc_nextRow 131 = .ok (.iload 9, 2) := by decide +kernel
theorem d_Bc_nextRow_133 : decode b_Bc_nextRow 133 = .ok (.iload 6, 2) := by decide +kernel
theorem d_Bc_nextRow_135 : decode b_Bc_nextRow 135 = .ok (.iadd, 1) := by decide +kernel
theorem d_Bc_nextRow_136 : decode b_Bc_nextRow 136 = .ok (.invokestatic 53, 3) := by decide +kernel
theorem d_Bc_nextRow_139 : decode b_Bc_nextRow 139 = .ok (.invokestatic 53, 3) := by decide +kernel
theorem d_Bc_nextRow_142 : decode b_Bc_nextRow 142 = .ok (.istore 10, 2) := by decide +kernel
theorem d_Bc_nextRow_144 : decode b_Bc_nextRow 144 = .ok (.aload_n 0, 1) := by decide +kernel
theorem d_Bc_nextRow_145 : decode b_Bc_nextRow 145 = .ok (.getfield 15, 3) := by decide +kernel
theorem d_Bc_nextRow_148 : decode b_Bc_nextRow 148 = .ok (.iload 11, 2) := by decide +kernel
theorem d_Bc_nextRow_150 : decode b_Bc_nextRow 150 = .ok (.iload 10, 2) := by decide +kernel
theorem d_Bc_nextRow_152 : decode b_Bc_nextRow 152 = .ok (.iastore, 1) := by decide +kernel
theorem d_Bc_nextRow_153 : decode b_Bc_nextRow 153 = .ok (.iinc 11 1, 3) := by decide +kernel
theorem d_Bc_nextRow_156 : decode b_Bc_nextRow 156 = .ok (.goto (-94), 3) := by decide +kernel
theorem d_Bc_nextRow_159 : decode b_Bc_nextRow 159 = .ok (.return_, 1) := by decide +kernel
theorem d_Bn_init_0 : decode b_Bn_init 0 = .ok (.aload_n 0, 1) := by decide +kernel
theorem d_Bn_init_1 : decode b_Bn_init 1 = .ok (.invokespecial 3, 3) := by decide +kernel
theorem d_Bn_init_4 : decode b_Bn_init 4 = .ok (.aload_n 0, 1) := by decide +kernel
theorem d_Bn_init_5 : decode b_Bn_init 5 = .ok (.aload_n 1, 1) := by decide +kernel
theorem d_Bn_init_6 : decode b_Bn_init 6 = .ok (.putfield 9, 3) := by decide +kernel
theorem d_Bn_init_9 : decode b_Bn_init 9 = .ok (.aload_n 0, 1) := by decide +kernel
theorem d_Bn_init_10 : decode b_Bn_init 10 = .ok (.bipush 26, 2) := by decide +kernel
theorem d_Bn_init_12 : decode b_Bn_init 12 = .ok (.newarray .int, 2) := by decide +kernel
theorem d_Bn_init_14 : decode b_Bn_init 14 = .ok (.putfield 15, 3) := by decide +kernel
theorem d_Bn_init_17 : decode b_Bn_init 17 = .ok (.return_, 1) := by decide +kernel
theorem d_Bn_between_0 : decode b_Bn_between 0 = .ok (.aload_n 0, 1) := by decide +kernel
theorem d_Bn_between_1 : decode b_Bn_between 1 = .ok (.aload_n 1, 1) := by decide +kernel
theorem d_Bn_between_2 : decode b_Bn_between 2 = .ok (.iload_n 2, 1) := by decide +kernel
theorem d_Bn_between_3 : decode b_Bn_between 3 = .ok (.aload_n 3, 1) := by decide +kernel
theorem d_Bn_between_4 : decode b_Bn_between 4 = .ok (.iload 4, 2) := by decide +kernel
theorem d_Bn_between_6 : decode b_Bn_between 6 = .ok (.invokevirtual 19, 3) := by decide +kernel
theorem d_Bn_between_9 : decode b_Bn_between 9 = .ok (.istore 5, 2) := by decide +kernel
theorem d_Bn_between_11 : decode b_Bn_between 11 = .ok (.aload_n 0, 1) := by decide +kernel
theorem d_Bn_between_12 : decode b_Bn_between 12 = .ok (.getfield 9, 3) := by decide +kernel
theorem d_Bn_between_15 : decode b_Bn_between 15 = .ok (.invokevirtual 23, 3) := by decide +kernel
