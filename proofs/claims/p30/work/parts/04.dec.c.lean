theorem dL_cell_0 : decode cL_cell 0 = .ok (.iload_n 1, 1) := by decide +kernel
theorem dL_cell_1 : decode cL_cell 1 = .ok (.aload_n 0, 1) := by decide +kernel
theorem dL_cell_2 : decode cL_cell 2 = .ok (.arraylength, 1) := by decide +kernel
theorem dL_cell_3 : decode cL_cell 3 = .ok (.if_icmp .ge 9, 3) := by decide +kernel
theorem dL_cell_6 : decode cL_cell 6 = .ok (.aload_n 0, 1) := by decide +kernel
theorem dL_cell_7 : decode cL_cell 7 = .ok (.iload_n 1, 1) := by decide +kernel
theorem dL_cell_8 : decode cL_cell 8 = .ok (.iaload, 1) := by decide +kernel
theorem dL_cell_9 : decode cL_cell 9 = .ok (.goto 9, 3) := by decide +kernel
theorem dL_cell_12 : decode cL_cell 12 = .ok (.ldc 7, 2) := by decide +kernel
theorem dL_cell_14 : decode cL_cell 14 = .ok (.iload_n 1, 1) := by decide +kernel
theorem dL_cell_15 : decode cL_cell 15 = .ok (.iconst 3, 1) := by decide +kernel
theorem dL_cell_16 : decode cL_cell 16 = .ok (.iadd, 1) := by decide +kernel
theorem dL_cell_17 : decode cL_cell 17 = .ok (.imul, 1) := by decide +kernel
theorem dL_cell_18 : decode cL_cell 18 = .ok (.istore_n 2, 1) := by decide +kernel
theorem dL_cell_19 : decode cL_cell 19 = .ok (.iload_n 2, 1) := by decide +kernel
theorem dL_cell_20 : decode cL_cell 20 = .ok (.iload_n 2, 1) := by decide +kernel
theorem dL_cell_21 : decode cL_cell 21 = .ok (.bipush 15, 2) := by decide +kernel
theorem dL_cell_23 : decode cL_cell 23 = .ok (.iushr, 1) := by decide +kernel
theorem dL_cell_24 : decode cL_cell 24 = .ok (.ixor, 1) := by decide +kernel
theorem dL_cell_25 : decode cL_cell 25 = .ok (.ireturn, 1) := by decide +kernel
theorem dL_low_0 : decode cL_low 0 = .ok (.iload_n 0, 1) := by decide +kernel
theorem dL_low_1 : decode cL_low 1 = .ok (.ldc 8, 2) := by decide +kernel
theorem dL_low_3 : decode cL_low 3 = .ok (.iand, 1) := by decide +kernel
theorem dL_low_4 : decode cL_low 4 = .ok (.iload_n 1, 1) := by decide +kernel
theorem dL_low_5 : decode cL_low 5 = .ok (.irem, 1) := by decide +kernel
theorem dL_low_6 : decode cL_low 6 = .ok (.ireturn, 1) := by decide +kernel
theorem dL_weight_0 : decode cL_weight 0 = .ok (.aload_n 0, 1) := by decide +kernel
theorem dL_weight_1 : decode cL_weight 1 = .ok (.iload_n 1, 1) := by decide +kernel
theorem dL_weight_2 : decode cL_weight 2 = .ok (.iload_n 2, 1) := by decide +kernel
theorem dL_weight_3 : decode cL_weight 3 = .ok (.invokevirtual 9, 3) := by decide +kernel
theorem dL_weight_6 : decode cL_weight 6 = .ok (.ireturn, 1) := by decide +kernel
theorem dL_weight_7 : decode cL_weight 7 = .ok (.astore_n 3, 1) := by decide +kernel
theorem dL_weight_8 : decode cL_weight 8 = .ok (.ldc 17, 2) := by decide +kernel
theorem dL_weight_10 : decode cL_weight 10 = .ok (.ireturn, 1) := by decide +kernel
theorem dL_weight_11 : decode cL_weight 11 = .ok (.astore_n 3, 1) := by decide +kernel
theorem dL_weight_12 : decode cL_weight 12 = .ok (.ldc 20, 2) := by decide +kernel
theorem dL_weight_14 : decode cL_weight 14 = .ok (.ireturn, 1) := by decide +kernel
theorem dL_friction_0 : decode cL_friction 0 = .ok (.aload_n 0, 1) := by decide +kernel
theorem dL_friction_1 : decode cL_friction 1 = .ok (.iload_n 1, 1) := by decide +kernel
theorem dL_friction_2 : decode cL_friction 2 = .ok (.invokevirtual 21, 3) := by decide +kernel
theorem dL_friction_5 : decode cL_friction 5 = .ok (.ireturn, 1) := by decide +kernel
theorem dL_friction_6 : decode cL_friction 6 = .ok (.astore_n 2, 1) := by decide +kernel
theorem dL_friction_7 : decode cL_friction 7 = .ok (.ldc 20, 2) := by decide +kernel
theorem dL_friction_9 : decode cL_friction 9 = .ok (.ireturn, 1) := by decide +kernel
theorem dL_longer_0 : decode cL_longer 0 = .ok (.aload_n 0, 1) := by decide +kernel
theorem dL_longer_1 : decode cL_longer 1 = .ok (.iload_n 1, 1) := by decide +kernel
theorem dL_longer_2 : decode cL_longer 2 = .ok (.invokevirtual 25, 3) := by decide +kernel
theorem dL_longer_5 : decode cL_longer 5 = .ok (.ireturn, 1) := by decide +kernel
theorem dL_longer_6 : decode cL_longer 6 = .ok (.astore_n 2, 1) := by decide +kernel
theorem dL_longer_7 : decode cL_longer 7 = .ok (.ldc 20, 2) := by decide +kernel
theorem dL_longer_9 : decode cL_longer 9 = .ok (.ireturn, 1) := by decide +kernel
theorem dL_longer_10 : decode cL_longer 10 = .ok (.astore_n 2, 1) := by decide +kernel
theorem dL_longer_11 : decode cL_longer 11 = .ok (.ldc 30, 2) := by decide +kernel
theorem dL_longer_13 : decode cL_longer 13 = .ok (.ireturn, 1) := by decide +kernel
theorem dL_more_0 : decode cL_more 0 = .ok (.aload_n 0, 1) := by decide +kernel
theorem dL_more_1 : decode cL_more 1 = .ok (.iload_n 1, 1) := by decide +kernel
theorem dL_more_2 : decode cL_more 2 = .ok (.invokevirtual 31, 3) := by decide +kernel
theorem dL_more_5 : decode cL_more 5 = .ok (.ireturn, 1) := by decide +kernel
theorem dL_more_6 : decode cL_more 6 = .ok (.astore_n 2, 1) := by decide +kernel
theorem dL_more_7 : decode cL_more 7 = .ok (.ldc 17, 2) := by decide +kernel
theorem dL_more_9 : decode cL_more 9 = .ok (.ireturn, 1) := by decide +kernel
theorem dL_more_10 : decode cL_more 10 = .ok (.astore_n 2, 1) := by decide +kernel
theorem dL_more_11 : decode cL_more 11 = .ok (.ldc 30, 2) := by decide +kernel
theorem dL_more_13 : decode cL_more 13 = .ok (.ireturn, 1) := by decide +kernel
theorem dL_less_0 : decode cL_less 0 = .ok (.aload_n 0, 1) := by decide +kernel
theorem dL_less_1 : decode cL_less 1 = .ok (.invokevirtual 34, 3) := by decide +kernel
theorem dL_less_4 : decode cL_less 4 = .ok (.ireturn, 1) := by decide +kernel
theorem dL_less_5 : decode cL_less 5 = .ok (.astore_n 1, 1) := by decide +kernel
theorem dL_less_6 : decode cL_less 6 = .ok (.ldc 30, 2) := by decide +kernel
theorem dL_less_8 : decode cL_less 8 = .ok (.ireturn, 1) := by decide +kernel
theorem dL_ends_0 : decode cL_ends 0 = .ok (.aload_n 0, 1) := by decide +kernel
theorem dL_ends_1 : decode cL_ends 1 = .ok (.iload_n 1, 1) := by decide +kernel
theorem dL_ends_2 : decode cL_ends 2 = .ok (.invokevirtual 38, 3) := by decide +kernel
theorem dL_ends_5 : decode cL_ends 5 = .ok (.ireturn, 1) := by decide +kernel
theorem dL_ends_6 : decode cL_ends 6 = .ok (.astore_n 2, 1) := by decide +kernel
theorem dL_ends_7 : decode cL_ends 7 = .ok (.ldc 17, 2) := by decide +kernel
theorem dL_ends_9 : decode cL_ends 9 = .ok (.ireturn, 1) := by decide +kernel
theorem dL_ends_10 : decode cL_ends 10 = .ok (.astore_n 2, 1) := by decide +kernel
theorem dL_ends_11 : decode cL_ends 11 = .ok (.ldc 30, 2) := by decide +kernel
theorem dL_ends_13 : decode cL_ends 13 = .ok (.ireturn, 1) := by decide +kernel
theorem dL_hauls_0 : decode cL_hauls 0 = .ok (.aload_n 0, 1) := by decide +kernel
theorem dL_hauls_1 : decode cL_hauls 1 = .ok (.iload_n 1, 1) := by decide +kernel
theorem dL_hauls_2 : decode cL_hauls 2 = .ok (.iload_n 2, 1) := by decide +kernel
theorem dL_hauls_3 : decode cL_hauls 3 = .ok (.invokevirtual 41, 3) := by decide +kernel
theorem dL_hauls_6 : decode cL_hauls 6 = .ok (.ireturn, 1) := by decide +kernel
theorem dL_hauls_7 : decode cL_hauls 7 = .ok (.astore_n 3, 1) := by decide +kernel
theorem dL_hauls_8 : decode cL_hauls 8 = .ok (.ldc 20, 2) := by decide +kernel
theorem dL_hauls_10 : decode cL_hauls 10 = .ok (.ireturn, 1) := by decide +kernel
theorem dL_lets_0 : decode cL_lets 0 = .ok (.aload_n 0, 1) := by decide +kernel
theorem dL_lets_1 : decode cL_lets 1 = .ok (.iload_n 1, 1) := by decide +kernel
theorem dL_lets_2 : decode cL_lets 2 = .ok (.iload_n 2, 1) := by decide +kernel
theorem dL_lets_3 : decode cL_lets 3 = .ok (.invokevirtual 44, 3) := by decide +kernel
theorem dL_lets_6 : decode cL_lets 6 = .ok (.ireturn, 1) := by decide +kernel
theorem dL_lets_7 : decode cL_lets 7 = .ok (.astore_n 3, 1) := by decide +kernel
theorem dL_lets_8 : decode cL_lets 8 = .ok (.ldc 20, 2) := by decide +kernel
theorem dL_lets_10 : decode cL_lets 10 = .ok (.ireturn, 1) := by decide +kernel
theorem dL_block_0 : decode cL_block 0 = .ok (.aload_n 0, 1) := by decide +kernel
theorem dL_block_1 : decode cL_block 1 = .ok (.iload_n 1, 1) := by decide +kernel
theorem dL_block_2 : decode cL_block 2 = .ok (.iload_n 2, 1) := by decide +kernel
theorem dL_block_3 : decode cL_block 3 = .ok (.invokevirtual 47, 3) := by decide +kernel
theorem dL_block_6 : decode cL_block 6 = .ok (.ireturn, 1) := by decide +kernel
theorem dL_block_7 : decode cL_block 7 = .ok (.astore_n 3, 1) := by decide +kernel
theorem dL_block_8 : decode cL_block 8 = .ok (.ldc 17, 2) := by decide +kernel
theorem dL_block_10 : decode cL_block 10 = .ok (.ireturn, 1) := by decide +kernel
theorem dL_block_11 : decode cL_block 11 = .ok (.astore_n 3, 1) := by decide +kernel
theorem dL_block_12 : decode cL_block 12 = .ok (.ldc 20, 2) := by decide +kernel
theorem dL_block_14 : decode cL_block 14 = .ok (.ireturn, 1) := by decide +kernel
theorem dL_pulley_0 : decode cL_pulley 0 = .ok (.aload_n 0, 1) := by decide +kernel
theorem dL_pulley_1 : decode cL_pulley 1 = .ok (.iload_n 1, 1) := by decide +kernel
theorem dL_pulley_2 : decode cL_pulley 2 = .ok (.invokevirtual 50, 3) := by decide +kernel
theorem dL_pulley_5 : decode cL_pulley 5 = .ok (.ireturn, 1) := by decide +kernel
theorem dL_pulley_6 : decode cL_pulley 6 = .ok (.astore_n 2, 1) := by decide +kernel
theorem dL_pulley_7 : decode cL_pulley 7 = .ok (.ldc 17, 2) := by decide +kernel
theorem dL_pulley_9 : decode cL_pulley 9 = .ok (.ireturn, 1) := by decide +kernel
theorem dL_force_0 : decode cL_force 0 = .ok (.aload_n 0, 1) := by decide +kernel
theorem dL_force_1 : decode cL_force 1 = .ok (.iload_n 1, 1) := by decide +kernel
theorem dL_force_2 : decode cL_force 2 = .ok (.iload_n 2, 1) := by decide +kernel
theorem dL_force_3 : decode cL_force 3 = .ok (.iload_n 3, 1) := by decide +kernel
theorem dL_force_4 : decode cL_force 4 = .ok (.invokevirtual 53, 3) := by decide +kernel
theorem dL_force_7 : decode cL_force 7 = .ok (.lreturn, 1) := by decide +kernel
theorem dL_force_8 : decode cL_force 8 = .ok (.astore 4, 2) := by decide +kernel
theorem dL_force_10 : decode cL_force 10 = .ok (.ldc2_w 57, 3) := by decide +kernel
theorem dL_force_13 : decode cL_force 13 = .ok (.lreturn, 1) := by decide +kernel
theorem dL_pull_0 : decode cL_pull 0 = .ok (.aload_n 0, 1) := by decide +kernel
theorem dL_pull_1 : decode cL_pull 1 = .ok (.iload_n 1, 1) := by decide +kernel
theorem dL_pull_2 : decode cL_pull 2 = .ok (.iload_n 2, 1) := by decide +kernel
theorem dL_pull_3 : decode cL_pull 3 = .ok (.iload_n 3, 1) := by decide +kernel
theorem dL_pull_4 : decode cL_pull 4 = .ok (.invokevirtual 59, 3) := by decide +kernel
theorem dL_pull_7 : decode cL_pull 7 = .ok (.lreturn, 1) := by decide +kernel
theorem dL_pull_8 : decode cL_pull 8 = .ok (.astore 4, 2) := by decide +kernel
theorem dL_pull_10 : decode cL_pull 10 = .ok (.ldc2_w 62, 3) := by decide +kernel
theorem dL_pull_13 : decode cL_pull 13 = .ok (.lreturn, 1) := by decide +kernel
theorem dL_pull_14 : decode cL_pull 14 = .ok (.astore 4, 2) := by decide +kernel
theorem dL_pull_16 : decode cL_pull 16 = .ok (.ldc2_w 57, 3) := by decide +kernel
theorem dL_pull_19 : decode cL_pull 19 = .ok (.lreturn, 1) := by decide +kernel
theorem dL_value_0 : decode cL_value 0 = .ok (.aload_n 0, 1) := by decide +kernel
theorem dL_value_1 : decode cL_value 1 = .ok (.iload_n 1, 1) := by decide +kernel
theorem dL_value_2 : decode cL_value 2 = .ok (.invokevirtual 64, 3) := by decide +kernel
theorem dL_value_5 : decode cL_value 5 = .ok (.ireturn, 1) := by decide +kernel
theorem dL_value_6 : decode cL_value 6 = .ok (.astore_n 2, 1) := by decide +kernel
theorem dL_value_7 : decode cL_value 7 = .ok (.ldc 20, 2) := by decide +kernel
theorem dL_value_9 : decode cL_value 9 = .ok (.ireturn, 1) := by decide +kernel
theorem dL_entry_0 : decode cL_entry 0 = .ok (.aload_n 0, 1) := by decide +kernel
theorem dL_entry_1 : decode cL_entry 1 = .ok (.iload_n 1, 1) := by decide +kernel
theorem dL_entry_2 : decode cL_entry 2 = .ok (.iload_n 2, 1) := by decide +kernel
theorem dL_entry_3 : decode cL_entry 3 = .ok (.invokevirtual 67, 3) := by decide +kernel
theorem dL_entry_6 : decode cL_entry 6 = .ok (.ireturn, 1) := by decide +kernel
theorem dL_entry_7 : decode cL_entry 7 = .ok (.astore_n 3, 1) := by decide +kernel
theorem dL_entry_8 : decode cL_entry 8 = .ok (.ldc 17, 2) := by decide +kernel
theorem dL_entry_10 : decode cL_entry 10 = .ok (.ireturn, 1) := by decide +kernel
theorem dL_entry_11 : decode cL_entry 11 = .ok (.astore_n 3, 1) := by decide +kernel
theorem dL_entry_12 : decode cL_entry 12 = .ok (.ldc 20, 2) := by decide +kernel
theorem dL_entry_14 : decode cL_entry 14 = .ok (.ireturn, 1) := by decide +kernel
theorem dL_need_0 : decode cL_need 0 = .ok (.aload_n 0, 1) := by decide +kernel
theorem dL_need_1 : decode cL_need 1 = .ok (.iload_n 1, 1) := by decide +kernel
theorem dL_need_2 : decode cL_need 2 = .ok (.iload_n 2, 1) := by decide +kernel
theorem dL_need_3 : decode cL_need 3 = .ok (.invokevirtual 70, 3) := by decide +kernel
theorem dL_need_6 : decode cL_need 6 = .ok (.ireturn, 1) := by decide +kernel
theorem dL_need_7 : decode cL_need 7 = .ok (.astore_n 3, 1) := by decide +kernel
theorem dL_need_8 : decode cL_need 8 = .ok (.ldc 17, 2) := by decide +kernel
theorem dL_need_10 : decode cL_need 10 = .ok (.ireturn, 1) := by decide +kernel
theorem dL_need_11 : decode cL_need 11 = .ok (.astore_n 3, 1) := by decide +kernel
theorem dL_need_12 : decode cL_need 12 = .ok (.ldc 20, 2) := by decide +kernel
theorem dL_need_14 : decode cL_need 14 = .ok (.ireturn, 1) := by decide +kernel
theorem dL_best_0 : decode cL_best 0 = .ok (.aload_n 0, 1) := by decide +kernel
theorem dL_best_1 : decode cL_best 1 = .ok (.iload_n 1, 1) := by decide +kernel
theorem dL_best_2 : decode cL_best 2 = .ok (.invokevirtual 73, 3) := by decide +kernel
theorem dL_best_5 : decode cL_best 5 = .ok (.ireturn, 1) := by decide +kernel
theorem dL_best_6 : decode cL_best 6 = .ok (.astore_n 2, 1) := by decide +kernel
theorem dL_best_7 : decode cL_best 7 = .ok (.ldc 17, 2) := by decide +kernel
theorem dL_best_9 : decode cL_best 9 = .ok (.ireturn, 1) := by decide +kernel
theorem dL_swapped_0 : decode cL_swapped 0 = .ok (.aload_n 0, 1) := by decide +kernel
theorem dL_swapped_1 : decode cL_swapped 1 = .ok (.iload_n 1, 1) := by decide +kernel
theorem dL_swapped_2 : decode cL_swapped 2 = .ok (.iload_n 2, 1) := by decide +kernel
theorem dL_swapped_3 : decode cL_swapped 3 = .ok (.iload_n 3, 1) := by decide +kernel
theorem dL_swapped_4 : decode cL_swapped 4 = .ok (.invokevirtual 76, 3) := by decide +kernel
theorem dL_swapped_7 : decode cL_swapped 7 = .ok (.ireturn, 1) := by decide +kernel
theorem dL_swapped_8 : decode cL_swapped 8 = .ok (.astore 4, 2) := by decide +kernel
theorem dL_swapped_10 : decode cL_swapped 10 = .ok (.ldc 17, 2) := by decide +kernel
theorem dL_swapped_12 : decode cL_swapped 12 = .ok (.ireturn, 1) := by decide +kernel
theorem dL_rise_0 : decode cL_rise 0 = .ok (.aload_n 0, 1) := by decide +kernel
theorem dL_rise_1 : decode cL_rise 1 = .ok (.iload_n 1, 1) := by decide +kernel
theorem dL_rise_2 : decode cL_rise 2 = .ok (.iload_n 2, 1) := by decide +kernel
theorem dL_rise_3 : decode cL_rise 3 = .ok (.iload_n 3, 1) := by decide +kernel
theorem dL_rise_4 : decode cL_rise 4 = .ok (.invokevirtual 80, 3) := by decide +kernel
theorem dL_rise_7 : decode cL_rise 7 = .ok (.ireturn, 1) := by decide +kernel
theorem dL_rise_8 : decode cL_rise 8 = .ok (.astore 4, 2) := by decide +kernel
theorem dL_rise_10 : decode cL_rise 10 = .ok (.ldc 17, 2) := by decide +kernel
theorem dL_rise_12 : decode cL_rise 12 = .ok (.ireturn, 1) := by decide +kernel
theorem dL_rise_13 : decode cL_rise 13 = .ok (.astore 4, 2) := by decide +kernel
theorem dL_rise_15 : decode cL_rise 15 = .ok (.ldc 20, 2) := by decide +kernel
theorem dL_rise_17 : decode cL_rise 17 = .ok (.ireturn, 1) := by decide +kernel
theorem dL_types_0 : decode cL_types 0 = .ok (.aload_n 0, 1) := by decide +kernel
theorem dL_types_1 : decode cL_types 1 = .ok (.iload_n 1, 1) := by decide +kernel
theorem dL_types_2 : decode cL_types 2 = .ok (.invokevirtual 83, 3) := by decide +kernel
theorem dL_types_5 : decode cL_types 5 = .ok (.ireturn, 1) := by decide +kernel
theorem dL_types_6 : decode cL_types 6 = .ok (.astore_n 2, 1) := by decide +kernel
theorem dL_types_7 : decode cL_types 7 = .ok (.ldc 20, 2) := by decide +kernel
theorem dL_types_9 : decode cL_types 9 = .ok (.ireturn, 1) := by decide +kernel
theorem dL_types_10 : decode cL_types 10 = .ok (.astore_n 2, 1) := by decide +kernel
theorem dL_types_11 : decode cL_types 11 = .ok (.ldc 30, 2) := by decide +kernel
theorem dL_types_13 : decode cL_types 13 = .ok (.ireturn, 1) := by decide +kernel
theorem dL_back_0 : decode cL_back 0 = .ok (.aload_n 0, 1) := by decide +kernel
theorem dL_back_1 : decode cL_back 1 = .ok (.invokevirtual 86, 3) := by decide +kernel
theorem dL_back_4 : decode cL_back 4 = .ok (.ireturn, 1) := by decide +kernel
theorem dL_back_5 : decode cL_back 5 = .ok (.astore_n 1, 1) := by decide +kernel
theorem dL_back_6 : decode cL_back 6 = .ok (.ldc 30, 2) := by decide +kernel
theorem dL_back_8 : decode cL_back 8 = .ok (.ireturn, 1) := by decide +kernel
theorem dL_sum_0 : decode cL_sum 0 = .ok (.ldc2_w 89, 3) := by decide +kernel
theorem dL_sum_3 : decode cL_sum 3 = .ok (.lstore_n 1, 1) := by decide +kernel
theorem dL_sum_4 : decode cL_sum 4 = .ok (.iconst 0, 1) := by decide +kernel
theorem dL_sum_5 : decode cL_sum 5 = .ok (.istore_n 3, 1) := by decide +kernel
theorem dL_sum_6 : decode cL_sum 6 = .ok (.iload_n 3, 1) := by decide +kernel
theorem dL_sum_7 : decode cL_sum 7 = .ok (.bipush 10, 2) := by decide +kernel
theorem dL_sum_9 : decode cL_sum 9 = .ok (.if_icmp .ge 22, 3) := by decide +kernel
theorem dL_sum_12 : decode cL_sum 12 = .ok (.ldc2_w 91, 3) := by decide +kernel
theorem dL_sum_15 : decode cL_sum 15 = .ok (.lload_n 1, 1) := by decide +kernel
theorem dL_sum_16 : decode cL_sum 16 = .ok (.lmul, 1) := by decide +kernel
theorem dL_sum_17 : decode cL_sum 17 = .ok (.aload_n 0, 1) := by decide +kernel
theorem dL_sum_18 : decode cL_sum 18 = .ok (.iload_n 3, 1) := by decide +kernel
theorem dL_sum_19 : decode cL_sum 19 = .ok (.invokestatic 93, 3) := by decide +kernel
theorem dL_sum_22 : decode cL_sum 22 = .ok (.i2l, 1) := by decide +kernel
theorem dL_sum_23 : decode cL_sum 23 = .ok (.ladd, 1) := by decide +kernel
theorem dL_sum_24 : decode cL_sum 24 = .ok (.lstore_n 1, 1) := by decide +kernel
theorem dL_sum_25 : decode cL_sum 25 = .ok (.iinc 3 1, 3) := by decide +kernel
theorem dL_sum_28 : decode cL_sum 28 = .ok (.goto (-22), 3) := by decide +kernel
theorem dL_sum_31 : decode cL_sum 31 = .ok (.iconst 0, 1) := by decide +kernel
theorem dL_sum_32 : decode cL_sum 32 = .ok (.istore_n 3, 1) := by decide +kernel
theorem dL_sum_33 : decode cL_sum 33 = .ok (.iload_n 3, 1) := by decide +kernel
theorem dL_sum_34 : decode cL_sum 34 = .ok (.bipush 28, 2) := by decide +kernel
theorem dL_sum_36 : decode cL_sum 36 = .ok (.if_icmp .ge 29, 3) := by decide +kernel
theorem dL_sum_39 : decode cL_sum 39 = .ok (.ldc2_w 91, 3) := by decide +kernel
theorem dL_sum_42 : decode cL_sum 42 = .ok (.lload_n 1, 1) := by decide +kernel
theorem dL_sum_43 : decode cL_sum 43 = .ok (.lmul, 1) := by decide +kernel
theorem dL_sum_44 : decode cL_sum 44 = .ok (.aload_n 0, 1) := by decide +kernel
theorem dL_sum_45 : decode cL_sum 45 = .ok (.iload_n 3, 1) := by decide +kernel
theorem dL_sum_46 : decode cL_sum 46 = .ok (.bipush 7, 2) := by decide +kernel
theorem dL_sum_48 : decode cL_sum 48 = .ok (.idiv, 1) := by decide +kernel
theorem dL_sum_49 : decode cL_sum 49 = .ok (.iload_n 3, 1) := by decide +kernel
theorem dL_sum_50 : decode cL_sum 50 = .ok (.bipush 7, 2) := by decide +kernel
theorem dL_sum_52 : decode cL_sum 52 = .ok (.irem, 1) := by decide +kernel
theorem dL_sum_53 : decode cL_sum 53 = .ok (.invokestatic 98, 3) := by decide +kernel
theorem dL_sum_56 : decode cL_sum 56 = .ok (.i2l, 1) := by decide +kernel
theorem dL_sum_57 : decode cL_sum 57 = .ok (.ladd, 1) := by decide +kernel
theorem dL_sum_58 : decode cL_sum 58 = .ok (.lstore_n 1, 1) := by decide +kernel
theorem dL_sum_59 : decode cL_sum 59 = .ok (.iinc 3 1, 3) := by decide +kernel
theorem dL_sum_62 : decode cL_sum 62 = .ok (.goto (-29), 3) := by decide +kernel
theorem dL_sum_65 : decode cL_sum 65 = .ok (.iconst 0, 1) := by decide +kernel
theorem dL_sum_66 : decode cL_sum 66 = .ok (.istore_n 3, 1) := by decide +kernel
theorem dL_sum_67 : decode cL_sum 67 = .ok (.iload_n 3, 1) := by decide +kernel
theorem dL_sum_68 : decode cL_sum 68 = .ok (.aload_n 0, 1) := by decide +kernel
theorem dL_sum_69 : decode cL_sum 69 = .ok (.iconst 3, 1) := by decide +kernel
theorem dL_sum_70 : decode cL_sum 70 = .ok (.invokestatic 93, 3) := by decide +kernel
theorem dL_sum_73 : decode cL_sum 73 = .ok (.if_icmp .ge 22, 3) := by decide +kernel
theorem dL_sum_76 : decode cL_sum 76 = .ok (.ldc2_w 91, 3) := by decide +kernel
theorem dL_sum_79 : decode cL_sum 79 = .ok (.lload_n 1, 1) := by decide +kernel
theorem dL_sum_80 : decode cL_sum 80 = .ok (.lmul, 1) := by decide +kernel
theorem dL_sum_81 : decode cL_sum 81 = .ok (.aload_n 0, 1) := by decide +kernel
theorem dL_sum_82 : decode cL_sum 82 = .ok (.iload_n 3, 1) := by decide +kernel
theorem dL_sum_83 : decode cL_sum 83 = .ok (.invokestatic 101, 3) := by decide +kernel
theorem dL_sum_86 : decode cL_sum 86 = .ok (.i2l, 1) := by decide +kernel
theorem dL_sum_87 : decode cL_sum 87 = .ok (.ladd, 1) := by decide +kernel
theorem dL_sum_88 : decode cL_sum 88 = .ok (.lstore_n 1, 1) := by decide +kernel
theorem dL_sum_89 : decode cL_sum 89 = .ok (.iinc 3 1, 3) := by decide +kernel
theorem dL_sum_92 : decode cL_sum 92 = .ok (.goto (-25), 3) := by decide +kernel
theorem dL_sum_95 : decode cL_sum 95 = .ok (.iconst 0, 1) := by decide +kernel
theorem dL_sum_96 : decode cL_sum 96 = .ok (.istore_n 3, 1) := by decide +kernel
theorem dL_sum_97 : decode cL_sum 97 = .ok (.iload_n 3, 1) := by decide +kernel
theorem dL_sum_98 : decode cL_sum 98 = .ok (.iconst 3, 1) := by decide +kernel
theorem dL_sum_99 : decode cL_sum 99 = .ok (.aload_n 0, 1) := by decide +kernel
theorem dL_sum_100 : decode cL_sum 100 = .ok (.bipush 9, 2) := by decide +kernel
theorem dL_sum_102 : decode cL_sum 102 = .ok (.invokestatic 93, 3) := by decide +kernel
theorem dL_sum_105 : decode cL_sum 105 = .ok (.imul, 1) := by decide +kernel
theorem dL_sum_106 : decode cL_sum 106 = .ok (.if_icmp .ge 27, 3) := by decide +kernel
theorem dL_sum_109 : decode cL_sum 109 = .ok (.ldc2_w 91, 3) := by decide +kernel
theorem dL_sum_112 : decode cL_sum 112 = .ok (.lload_n 1, 1) := by decide +kernel
theorem dL_sum_113 : decode cL_sum 113 = .ok (.lmul, 1) := by decide +kernel
theorem dL_sum_114 : decode cL_sum 114 = .ok (.aload_n 0, 1) := by decide +kernel
theorem dL_sum_115 : decode cL_sum 115 = .ok (.iload_n 3, 1) := by decide +kernel
theorem dL_sum_116 : decode cL_sum 116 = .ok (.iconst 3, 1) := by decide +kernel
theorem dL_sum_117 : decode cL_sum 117 = .ok (.idiv, 1) := by decide +kernel
theorem dL_sum_118 : decode cL_sum 118 = .ok (.iload_n 3, 1) := by decide +kernel
theorem dL_sum_119 : decode cL_sum 119 = .ok (.iconst 3, 1) := by decide +kernel
theorem dL_sum_120 : decode cL_sum 120 = .ok (.irem, 1) := by decide +kernel
theorem dL_sum_121 : decode cL_sum 121 = .ok (.invokestatic 103, 3) := by decide +kernel
theorem dL_sum_124 : decode cL_sum 124 = .ok (.i2l, 1) := by decide +kernel
theorem dL_sum_125 : decode cL_sum 125 = .ok (.ladd, 1) := by decide +kernel
theorem dL_sum_126 : decode cL_sum 126 = .ok (.lstore_n 1, 1) := by decide +kernel
theorem dL_sum_127 : decode cL_sum 127 = .ok (.iinc 3 1, 3) := by decide +kernel
theorem dL_sum_130 : decode cL_sum 130 = .ok (.goto (-33), 3) := by decide +kernel
theorem dL_sum_133 : decode cL_sum 133 = .ok (.ldc2_w 91, 3) := by decide +kernel
theorem dL_sum_136 : decode cL_sum 136 = .ok (.ldc2_w 91, 3) := by decide +kernel
theorem dL_sum_139 : decode cL_sum 139 = .ok (.lload_n 1, 1) := by decide +kernel
theorem dL_sum_140 : decode cL_sum 140 = .ok (.lmul, 1) := by decide +kernel
theorem dL_sum_141 : decode cL_sum 141 = .ok (.aload_n 0, 1) := by decide +kernel
theorem dL_sum_142 : decode cL_sum 142 = .ok (.iconst 0, 1) := by decide +kernel
theorem dL_sum_143 : decode cL_sum 143 = .ok (.invokevirtual 105, 3) := by decide +kernel
theorem dL_sum_146 : decode cL_sum 146 = .ok (.ladd, 1) := by decide +kernel
theorem dL_sum_147 : decode cL_sum 147 = .ok (.lmul, 1) := by decide +kernel
theorem dL_sum_148 : decode cL_sum 148 = .ok (.aload_n 0, 1) := by decide +kernel
theorem dL_sum_149 : decode cL_sum 149 = .ok (.iconst 1, 1) := by decide +kernel
theorem dL_sum_150 : decode cL_sum 150 = .ok (.invokevirtual 105, 3) := by decide +kernel
theorem dL_sum_153 : decode cL_sum 153 = .ok (.ladd, 1) := by decide +kernel
theorem dL_sum_154 : decode cL_sum 154 = .ok (.lreturn, 1) := by decide +kernel
theorem dL_refused_0 : decode cL_refused 0 = .ok (.aload_n 0, 1) := by decide +kernel
theorem dL_refused_1 : decode cL_refused 1 = .ok (.invokestatic 109, 3) := by decide +kernel
theorem dL_refused_4 : decode cL_refused 4 = .ok (.lstore_n 1, 1) := by decide +kernel
theorem dL_refused_5 : decode cL_refused 5 = .ok (.aload_n 0, 1) := by decide +kernel
theorem dL_refused_6 : decode cL_refused 6 = .ok (.iconst 4, 1) := by decide +kernel
theorem dL_refused_7 : decode cL_refused 7 = .ok (.iconst 0, 1) := by decide +kernel
theorem dL_refused_8 : decode cL_refused 8 = .ok (.invokestatic 113, 3) := by decide +kernel
theorem dL_refused_11 : decode cL_refused 11 = .ok (.ldc 17, 2) := by decide +kernel
theorem dL_refused_13 : decode cL_refused 13 = .ok (.if_icmp .ne 201, 3) := by decide +kernel
theorem dL_refused_16 : decode cL_refused 16 = .ok (.aload_n 0, 1) := by decide +kernel
theorem dL_refused_17 : decode cL_refused 17 = .ok (.iconst 0, 1) := by decide +kernel
theorem dL_refused_18 : decode cL_refused 18 = .ok (.iconst (-1), 1) := by decide +kernel
theorem dL_refused_19 : decode cL_refused 19 = .ok (.invokestatic 113, 3) := by decide +kernel
theorem dL_refused_22 : decode cL_refused 22 = .ok (.ldc 20, 2) := by decide +kernel
theorem dL_refused_24 : decode cL_refused 24 = .ok (.if_icmp .ne 190, 3) := by decide +kernel
theorem dL_refused_27 : decode cL_refused 27 = .ok (.aload_n 0, 1) := by decide +kernel
theorem dL_refused_28 : decode cL_refused 28 = .ok (.bipush 31, 2) := by decide +kernel
theorem dL_refused_30 : decode cL_refused 30 = .ok (.invokestatic 116, 3) := by decide +kernel
theorem dL_refused_33 : decode cL_refused 33 = .ok (.ldc 20, 2) := by decide +kernel
theorem dL_refused_35 : decode cL_refused 35 = .ok (.if_icmp .ne 179, 3) := by decide +kernel
theorem dL_refused_38 : decode cL_refused 38 = .ok (.aload_n 0, 1) := by decide +kernel
theorem dL_refused_39 : decode cL_refused 39 = .ok (.sipush 999, 3) := by decide +kernel
theorem dL_refused_42 : decode cL_refused 42 = .ok (.invokestatic 119, 3) := by decide +kernel
theorem dL_refused_45 : decode cL_refused 45 = .ok (.ldc 20, 2) := by decide +kernel
theorem dL_refused_47 : decode cL_refused 47 = .ok (.if_icmp .ne 167, 3) := by decide +kernel
theorem dL_refused_50 : decode cL_refused 50 = .ok (.aload_n 0, 1) := by decide +kernel
theorem dL_refused_51 : decode cL_refused 51 = .ok (.iconst 4, 1) := by decide +kernel
theorem dL_refused_52 : decode cL_refused 52 = .ok (.invokestatic 122, 3) := by decide +kernel
theorem dL_refused_55 : decode cL_refused 55 = .ok (.ldc 17, 2) := by decide +kernel
theorem dL_refused_57 : decode cL_refused 57 = .ok (.if_icmp .ne 157, 3) := by decide +kernel
theorem dL_refused_60 : decode cL_refused 60 = .ok (.aload_n 0, 1) := by decide +kernel
theorem dL_refused_61 : decode cL_refused 61 = .ok (.iconst 5, 1) := by decide +kernel
theorem dL_refused_62 : decode cL_refused 62 = .ok (.invokestatic 125, 3) := by decide +kernel
theorem dL_refused_65 : decode cL_refused 65 = .ok (.ldc 17, 2) := by decide +kernel
theorem dL_refused_67 : decode cL_refused 67 = .ok (.if_icmp .ne 147, 3) := by decide +kernel
theorem dL_refused_70 : decode cL_refused 70 = .ok (.aload_n 0, 1) := by decide +kernel
theorem dL_refused_71 : decode cL_refused 71 = .ok (.iconst (-1), 1) := by decide +kernel
theorem dL_refused_72 : decode cL_refused 72 = .ok (.iconst 0, 1) := by decide +kernel
theorem dL_refused_73 : decode cL_refused 73 = .ok (.invokestatic 128, 3) := by decide +kernel
theorem dL_refused_76 : decode cL_refused 76 = .ok (.ldc 20, 2) := by decide +kernel
theorem dL_refused_78 : decode cL_refused 78 = .ok (.if_icmp .ne 136, 3) := by decide +kernel
theorem dL_refused_81 : decode cL_refused 81 = .ok (.aload_n 0, 1) := by decide +kernel
theorem dL_refused_82 : decode cL_refused 82 = .ok (.iconst 0, 1) := by decide +kernel
theorem dL_refused_83 : decode cL_refused 83 = .ok (.ldc 131, 2) := by decide +kernel
theorem dL_refused_85 : decode cL_refused 85 = .ok (.invokestatic 132, 3) := by decide +kernel
theorem dL_refused_88 : decode cL_refused 88 = .ok (.ldc 20, 2) := by decide +kernel
theorem dL_refused_90 : decode cL_refused 90 = .ok (.if_icmp .ne 124, 3) := by decide +kernel
theorem dL_refused_93 : decode cL_refused 93 = .ok (.aload_n 0, 1) := by decide +kernel
theorem dL_refused_94 : decode cL_refused 94 = .ok (.iconst (-1), 1) := by decide +kernel
theorem dL_refused_95 : decode cL_refused 95 = .ok (.iconst 0, 1) := by decide +kernel
theorem dL_refused_96 : decode cL_refused 96 = .ok (.invokestatic 98, 3) := by decide +kernel
theorem dL_refused_99 : decode cL_refused 99 = .ok (.ldc 17, 2) := by decide +kernel
theorem dL_refused_101 : decode cL_refused 101 = .ok (.if_icmp .ne 113, 3) := by decide +kernel
theorem dL_refused_104 : decode cL_refused 104 = .ok (.aload_n 0, 1) := by decide +kernel
theorem dL_refused_105 : decode cL_refused 105 = .ok (.iconst 0, 1) := by decide +kernel
theorem dL_refused_106 : decode cL_refused 106 = .ok (.bipush 7, 2) := by decide +kernel
theorem dL_refused_108 : decode cL_refused 108 = .ok (.invokestatic 98, 3) := by decide +kernel
theorem dL_refused_111 : decode cL_refused 111 = .ok (.ldc 20, 2) := by decide +kernel
theorem dL_refused_113 : decode cL_refused 113 = .ok (.if_icmp .ne 101, 3) := by decide +kernel
theorem dL_refused_116 : decode cL_refused 116 = .ok (.aload_n 0, 1) := by decide +kernel
theorem dL_refused_117 : decode cL_refused 117 = .ok (.bipush 10, 2) := by decide +kernel
theorem dL_refused_119 : decode cL_refused 119 = .ok (.invokestatic 101, 3) := by decide +kernel
theorem dL_refused_122 : decode cL_refused 122 = .ok (.ldc 17, 2) := by decide +kernel
theorem dL_refused_124 : decode cL_refused 124 = .ok (.if_icmp .ne 90, 3) := by decide +kernel
theorem dL_refused_127 : decode cL_refused 127 = .ok (.aload_n 0, 1) := by decide +kernel
theorem dL_refused_128 : decode cL_refused 128 = .ok (.bipush 16, 2) := by decide +kernel
theorem dL_refused_130 : decode cL_refused 130 = .ok (.iconst 0, 1) := by decide +kernel
theorem dL_refused_131 : decode cL_refused 131 = .ok (.invokestatic 103, 3) := by decide +kernel
theorem dL_refused_134 : decode cL_refused 134 = .ok (.ldc 17, 2) := by decide +kernel
theorem dL_refused_136 : decode cL_refused 136 = .ok (.if_icmp .ne 78, 3) := by decide +kernel
theorem dL_refused_139 : decode cL_refused 139 = .ok (.aload_n 0, 1) := by decide +kernel
theorem dL_refused_140 : decode cL_refused 140 = .ok (.bipush 10, 2) := by decide +kernel
theorem dL_refused_142 : decode cL_refused 142 = .ok (.invokestatic 93, 3) := by decide +kernel
theorem dL_refused_145 : decode cL_refused 145 = .ok (.ldc 20, 2) := by decide +kernel
theorem dL_refused_147 : decode cL_refused 147 = .ok (.if_icmp .ne 67, 3) := by decide +kernel
theorem dL_refused_150 : decode cL_refused 150 = .ok (.aload_n 0, 1) := by decide +kernel
theorem dL_refused_151 : decode cL_refused 151 = .ok (.iconst 0, 1) := by decide +kernel
theorem dL_refused_152 : decode cL_refused 152 = .ok (.ldc 135, 2) := by decide +kernel
theorem dL_refused_154 : decode cL_refused 154 = .ok (.invokestatic 136, 3) := by decide +kernel
theorem dL_refused_157 : decode cL_refused 157 = .ok (.ldc 20, 2) := by decide +kernel
theorem dL_refused_159 : decode cL_refused 159 = .ok (.if_icmp .ne 55, 3) := by decide +kernel
theorem dL_refused_162 : decode cL_refused 162 = .ok (.aload_n 0, 1) := by decide +kernel
theorem dL_refused_163 : decode cL_refused 163 = .ok (.iconst 0, 1) := by decide +kernel
theorem dL_refused_164 : decode cL_refused 164 = .ok (.iconst 0, 1) := by decide +kernel
theorem dL_refused_165 : decode cL_refused 165 = .ok (.iconst (-1), 1) := by decide +kernel
theorem dL_refused_166 : decode cL_refused 166 = .ok (.invokestatic 139, 3) := by decide +kernel
theorem dL_refused_169 : decode cL_refused 169 = .ok (.ldc 20, 2) := by decide +kernel
theorem dL_refused_171 : decode cL_refused 171 = .ok (.if_icmp .ne 43, 3) := by decide +kernel
theorem dL_refused_174 : decode cL_refused 174 = .ok (.aload_n 0, 1) := by decide +kernel
theorem dL_refused_175 : decode cL_refused 175 = .ok (.sipush 200, 3) := by decide +kernel
theorem dL_refused_178 : decode cL_refused 178 = .ok (.invokestatic 143, 3) := by decide +kernel
theorem dL_refused_181 : decode cL_refused 181 = .ok (.ldc 20, 2) := by decide +kernel
theorem dL_refused_183 : decode cL_refused 183 = .ok (.if_icmp .ne 31, 3) := by decide +kernel
theorem dL_refused_186 : decode cL_refused 186 = .ok (.aload_n 0, 1) := by decide +kernel
theorem dL_refused_187 : decode cL_refused 187 = .ok (.bipush 9, 2) := by decide +kernel
theorem dL_refused_189 : decode cL_refused 189 = .ok (.invokestatic 146, 3) := by decide +kernel
theorem dL_refused_192 : decode cL_refused 192 = .ok (.ldc 17, 2) := by decide +kernel
theorem dL_refused_194 : decode cL_refused 194 = .ok (.if_icmp .ne 20, 3) := by decide +kernel
theorem dL_refused_197 : decode cL_refused 197 = .ok (.aload_n 0, 1) := by decide +kernel
theorem dL_refused_198 : decode cL_refused 198 = .ok (.iconst 0, 1) := by decide +kernel
theorem dL_refused_199 : decode cL_refused 199 = .ok (.iconst 0, 1) := by decide +kernel
theorem dL_refused_200 : decode cL_refused 200 = .ok (.bipush 10, 2) := by decide +kernel
theorem dL_refused_202 : decode cL_refused 202 = .ok (.invokestatic 149, 3) := by decide +kernel
theorem dL_refused_205 : decode cL_refused 205 = .ok (.ldc 17, 2) := by decide +kernel
theorem dL_refused_207 : decode cL_refused 207 = .ok (.if_icmp .ne 7, 3) := by decide +kernel
theorem dL_refused_210 : decode cL_refused 210 = .ok (.iconst 1, 1) := by decide +kernel
theorem dL_refused_211 : decode cL_refused 211 = .ok (.goto 4, 3) := by decide +kernel
theorem dL_refused_214 : decode cL_refused 214 = .ok (.iconst 0, 1) := by decide +kernel
theorem dL_refused_215 : decode cL_refused 215 = .ok (.istore_n 3, 1) := by decide +kernel
theorem dL_refused_216 : decode cL_refused 216 = .ok (.iload_n 3, 1) := by decide +kernel
theorem dL_refused_217 : decode cL_refused 217 = .ok (.ifCond .eq 93, 3) := by decide +kernel
theorem dL_refused_220 : decode cL_refused 220 = .ok (.aload_n 0, 1) := by decide +kernel
theorem dL_refused_221 : decode cL_refused 221 = .ok (.bipush 6, 2) := by decide +kernel
theorem dL_refused_223 : decode cL_refused 223 = .ok (.invokestatic 93, 3) := by decide +kernel
theorem dL_refused_226 : decode cL_refused 226 = .ok (.sipush 1001, 3) := by decide +kernel
theorem dL_refused_229 : decode cL_refused 229 = .ok (.if_icmp .lt 20, 3) := by decide +kernel
theorem dL_refused_232 : decode cL_refused 232 = .ok (.aload_n 0, 1) := by decide +kernel
theorem dL_refused_233 : decode cL_refused 233 = .ok (.aload_n 0, 1) := by decide +kernel
theorem dL_refused_234 : decode cL_refused 234 = .ok (.bipush 6, 2) := by decide +kernel
theorem dL_refused_236 : decode cL_refused 236 = .ok (.invokestatic 93, 3) := by decide +kernel
theorem dL_refused_239 : decode cL_refused 239 = .ok (.iconst 1, 1) := by decide +kernel
theorem dL_refused_240 : decode cL_refused 240 = .ok (.isub, 1) := by decide +kernel
theorem dL_refused_241 : decode cL_refused 241 = .ok (.invokestatic 119, 3) := by decide +kernel
theorem dL_refused_244 : decode cL_refused 244 = .ok (.ldc 30, 2) := by decide +kernel
theorem dL_refused_246 : decode cL_refused 246 = .ok (.if_icmp .ne 64, 3) := by decide +kernel
theorem dL_refused_249 : decode cL_refused 249 = .ok (.aload_n 0, 1) := by decide +kernel
theorem dL_refused_250 : decode cL_refused 250 = .ok (.iconst 3, 1) := by decide +kernel
theorem dL_refused_251 : decode cL_refused 251 = .ok (.invokestatic 93, 3) := by decide +kernel
theorem dL_refused_254 : decode cL_refused 254 = .ok (.ifCond .gt 12, 3) := by decide +kernel
theorem dL_refused_257 : decode cL_refused 257 = .ok (.aload_n 0, 1) := by decide +kernel
theorem dL_refused_258 : decode cL_refused 258 = .ok (.invokestatic 151, 3) := by decide +kernel
theorem dL_refused_261 : decode cL_refused 261 = .ok (.ldc 30, 2) := by decide +kernel
theorem dL_refused_263 : decode cL_refused 263 = .ok (.if_icmp .ne 47, 3) := by decide +kernel
theorem dL_refused_266 : decode cL_refused 266 = .ok (.aload_n 0, 1) := by decide +kernel
theorem dL_refused_267 : decode cL_refused 267 = .ok (.iconst 3, 1) := by decide +kernel
theorem dL_refused_268 : decode cL_refused 268 = .ok (.invokestatic 93, 3) := by decide +kernel
theorem dL_refused_271 : decode cL_refused 271 = .ok (.bipush 10, 2) := by decide +kernel
theorem dL_refused_273 : decode cL_refused 273 = .ok (.if_icmp .lt 13, 3) := by decide +kernel
theorem dL_refused_276 : decode cL_refused 276 = .ok (.aload_n 0, 1) := by decide +kernel
theorem dL_refused_277 : decode cL_refused 277 = .ok (.iconst 0, 1) := by decide +kernel
theorem dL_refused_278 : decode cL_refused 278 = .ok (.invokestatic 122, 3) := by decide +kernel
theorem dL_refused_281 : decode cL_refused 281 = .ok (.ldc 30, 2) := by decide +kernel
theorem dL_refused_283 : decode cL_refused 283 = .ok (.if_icmp .ne 27, 3) := by decide +kernel
theorem dL_refused_286 : decode cL_refused 286 = .ok (.aload_n 0, 1) := by decide +kernel
theorem dL_refused_287 : decode cL_refused 287 = .ok (.iconst 0, 1) := by decide +kernel
theorem dL_refused_288 : decode cL_refused 288 = .ok (.aload_n 0, 1) := by decide +kernel
theorem dL_refused_289 : decode cL_refused 289 = .ok (.iconst 5, 1) := by decide +kernel
theorem dL_refused_290 : decode cL_refused 290 = .ok (.invokestatic 93, 3) := by decide +kernel
theorem dL_refused_293 : decode cL_refused 293 = .ok (.iconst 1, 1) := by decide +kernel
theorem dL_refused_294 : decode cL_refused 294 = .ok (.iadd, 1) := by decide +kernel
theorem dL_refused_295 : decode cL_refused 295 = .ok (.iconst 1, 1) := by decide +kernel
theorem dL_refused_296 : decode cL_refused 296 = .ok (.invokestatic 155, 3) := by decide +kernel
theorem dL_refused_299 : decode cL_refused 299 = .ok (.ldc2_w 57, 3) := by decide +kernel
theorem dL_refused_302 : decode cL_refused 302 = .ok (.lcmp, 1) := by decide +kernel
theorem dL_refused_303 : decode cL_refused 303 = .ok (.ifCond .ne 7, 3) := by decide +kernel
theorem dL_refused_306 : decode cL_refused 306 = .ok (.iconst 1, 1) := by decide +kernel
theorem dL_refused_307 : decode cL_refused 307 = .ok (.goto 4, 3) := by decide +kernel
theorem dL_refused_310 : decode cL_refused 310 = .ok (.iconst 0, 1) := by decide +kernel
theorem dL_refused_311 : decode cL_refused 311 = .ok (.istore_n 3, 1) := by decide +kernel
theorem dL_refused_312 : decode cL_refused 312 = .ok (.iload_n 3, 1) := by decide +kernel
theorem dL_refused_313 : decode cL_refused 313 = .ok (.ifCond .eq 16, 3) := by decide +kernel
theorem dL_refused_316 : decode cL_refused 316 = .ok (.aload_n 0, 1) := by decide +kernel
theorem dL_refused_317 : decode cL_refused 317 = .ok (.invokestatic 109, 3) := by decide +kernel
theorem dL_refused_320 : decode cL_refused 320 = .ok (.lload_n 1, 1) := by decide +kernel
theorem dL_refused_321 : decode cL_refused 321 = .ok (.lcmp, 1) := by decide +kernel
theorem dL_refused_322 : decode cL_refused 322 = .ok (.ifCond .ne 7, 3) := by decide +kernel
theorem dL_refused_325 : decode cL_refused 325 = .ok (.iconst 1, 1) := by decide +kernel
theorem dL_refused_326 : decode cL_refused 326 = .ok (.goto 4, 3) := by decide +kernel
theorem dL_refused_329 : decode cL_refused 329 = .ok (.iconst 0, 1) := by decide +kernel
theorem dL_refused_330 : decode cL_refused 330 = .ok (.ireturn, 1) := by decide +kernel
theorem dL_fits_0 : decode cL_fits 0 = .ok (.aload_n 0, 1) := by decide +kernel
theorem dL_fits_1 : decode cL_fits 1 = .ok (.iconst 3, 1) := by decide +kernel
theorem dL_fits_2 : decode cL_fits 2 = .ok (.invokestatic 93, 3) := by decide +kernel
theorem dL_fits_5 : decode cL_fits 5 = .ok (.istore_n 2, 1) := by decide +kernel
theorem dL_fits_6 : decode cL_fits 6 = .ok (.aload_n 0, 1) := by decide +kernel
theorem dL_fits_7 : decode cL_fits 7 = .ok (.iconst 4, 1) := by decide +kernel
theorem dL_fits_8 : decode cL_fits 8 = .ok (.invokestatic 93, 3) := by decide +kernel
theorem dL_fits_11 : decode cL_fits 11 = .ok (.istore_n 3, 1) := by decide +kernel
theorem dL_fits_12 : decode cL_fits 12 = .ok (.iconst 0, 1) := by decide +kernel
theorem dL_fits_13 : decode cL_fits 13 = .ok (.istore 4, 2) := by decide +kernel
theorem dL_fits_15 : decode cL_fits 15 = .ok (.iconst 0, 1) := by decide +kernel
theorem dL_fits_16 : decode cL_fits 16 = .ok (.istore 5, 2) := by decide +kernel
theorem dL_fits_18 : decode cL_fits 18 = .ok (.iload_n 2, 1) := by decide +kernel
theorem dL_fits_19 : decode cL_fits 19 = .ok (.ifCond .lt 82, 3) := by decide +kernel
theorem dL_fits_22 : decode cL_fits 22 = .ok (.iload_n 2, 1) := by decide +kernel
theorem dL_fits_23 : decode cL_fits 23 = .ok (.bipush 11, 2) := by decide +kernel
theorem dL_fits_25 : decode cL_fits 25 = .ok (.if_icmp .ge 76, 3) := by decide +kernel
theorem dL_fits_28 : decode cL_fits 28 = .ok (.iload_n 3, 1) := by decide +kernel
theorem dL_fits_29 : decode cL_fits 29 = .ok (.ifCond .lt 72, 3) := by decide +kernel
theorem dL_fits_32 : decode cL_fits 32 = .ok (.iload_n 3, 1) := by decide +kernel
theorem dL_fits_33 : decode cL_fits 33 = .ok (.iconst 5, 1) := by decide +kernel
theorem dL_fits_34 : decode cL_fits 34 = .ok (.if_icmp .ge 67, 3) := by decide +kernel
theorem dL_fits_37 : decode cL_fits 37 = .ok (.aload_n 0, 1) := by decide +kernel
theorem dL_fits_38 : decode cL_fits 38 = .ok (.iconst 1, 1) := by decide +kernel
theorem dL_fits_39 : decode cL_fits 39 = .ok (.invokestatic 93, 3) := by decide +kernel
theorem dL_fits_42 : decode cL_fits 42 = .ok (.ifCond .lt 59, 3) := by decide +kernel
theorem dL_fits_45 : decode cL_fits 45 = .ok (.aload_n 0, 1) := by decide +kernel
theorem dL_fits_46 : decode cL_fits 46 = .ok (.iconst 5, 1) := by decide +kernel
theorem dL_fits_47 : decode cL_fits 47 = .ok (.invokestatic 93, 3) := by decide +kernel
theorem dL_fits_50 : decode cL_fits 50 = .ok (.iconst 2, 1) := by decide +kernel
theorem dL_fits_51 : decode cL_fits 51 = .ok (.iload_n 2, 1) := by decide +kernel
theorem dL_fits_52 : decode cL_fits 52 = .ok (.imul, 1) := by decide +kernel
theorem dL_fits_53 : decode cL_fits 53 = .ok (.iload_n 3, 1) := by decide +kernel
theorem dL_fits_54 : decode cL_fits 54 = .ok (.iconst 4, 1) := by decide +kernel
theorem dL_fits_55 : decode cL_fits 55 = .ok (.if_icmp .ge 7, 3) := by decide +kernel
theorem dL_fits_58 : decode cL_fits 58 = .ok (.iconst 1, 1) := by decide +kernel
theorem dL_fits_59 : decode cL_fits 59 = .ok (.goto 4, 3) := by decide +kernel
theorem dL_fits_62 : decode cL_fits 62 = .ok (.iconst 0, 1) := by decide +kernel
theorem dL_fits_63 : decode cL_fits 63 = .ok (.iadd, 1) := by decide +kernel
theorem dL_fits_64 : decode cL_fits 64 = .ok (.if_icmp .ne 37, 3) := by decide +kernel
theorem dL_fits_67 : decode cL_fits 67 = .ok (.aload_n 0, 1) := by decide +kernel
theorem dL_fits_68 : decode cL_fits 68 = .ok (.bipush 9, 2) := by decide +kernel
theorem dL_fits_70 : decode cL_fits 70 = .ok (.invokestatic 93, 3) := by decide +kernel
theorem dL_fits_73 : decode cL_fits 73 = .ok (.ifCond .lt 28, 3) := by decide +kernel
theorem dL_fits_76 : decode cL_fits 76 = .ok (.aload_n 0, 1) := by decide +kernel
theorem dL_fits_77 : decode cL_fits 77 = .ok (.bipush 9, 2) := by decide +kernel
theorem dL_fits_79 : decode cL_fits 79 = .ok (.invokestatic 93, 3) := by decide +kernel
theorem dL_fits_82 : decode cL_fits 82 = .ok (.bipush 17, 2) := by decide +kernel
theorem dL_fits_84 : decode cL_fits 84 = .ok (.if_icmp .ge 17, 3) := by decide +kernel
theorem dL_fits_87 : decode cL_fits 87 = .ok (.aload_n 0, 1) := by decide +kernel
theorem dL_fits_88 : decode cL_fits 88 = .ok (.iconst 0, 1) := by decide +kernel
theorem dL_fits_89 : decode cL_fits 89 = .ok (.invokevirtual 105, 3) := by decide +kernel
theorem dL_fits_92 : decode cL_fits 92 = .ok (.lconst 0, 1) := by decide +kernel
theorem dL_fits_93 : decode cL_fits 93 = .ok (.lcmp, 1) := by decide +kernel
theorem dL_fits_94 : decode cL_fits 94 = .ok (.ifCond .lt 7, 3) := by decide +kernel
theorem dL_fits_97 : decode cL_fits 97 = .ok (.iconst 1, 1) := by decide +kernel
theorem dL_fits_98 : decode cL_fits 98 = .ok (.goto 4, 3) := by decide +kernel
theorem dL_fits_101 : decode cL_fits 101 = .ok (.iconst 0, 1) := by decide +kernel
theorem dL_fits_102 : decode cL_fits 102 = .ok (.istore 6, 2) := by decide +kernel
theorem dL_fits_104 : decode cL_fits 104 = .ok (.iconst 0, 1) := by decide +kernel
theorem dL_fits_105 : decode cL_fits 105 = .ok (.istore 7, 2) := by decide +kernel
theorem dL_fits_107 : decode cL_fits 107 = .ok (.iload 7, 2) := by decide +kernel
theorem dL_fits_109 : decode cL_fits 109 = .ok (.iconst 4, 1) := by decide +kernel
theorem dL_fits_110 : decode cL_fits 110 = .ok (.if_icmp .ge 203, 3) := by decide +kernel
theorem dL_fits_113 : decode cL_fits 113 = .ok (.iload 6, 2) := by decide +kernel
theorem dL_fits_115 : decode cL_fits 115 = .ok (.ifCond .eq 198, 3) := by decide +kernel
theorem dL_fits_118 : decode cL_fits 118 = .ok (.iconst 0, 1) := by decide +kernel
theorem dL_fits_119 : decode cL_fits 119 = .ok (.istore 8, 2) := by decide +kernel
theorem dL_fits_121 : decode cL_fits 121 = .ok (.iconst 0, 1) := by decide +kernel
theorem dL_fits_122 : decode cL_fits 122 = .ok (.istore 9, 2) := by decide +kernel
theorem dL_fits_124 : decode cL_fits 124 = .ok (.iload 9, 2) := by decide +kernel
theorem dL_fits_126 : decode cL_fits 126 = .ok (.iload_n 2, 1) := by decide +kernel
theorem dL_fits_127 : decode cL_fits 127 = .ok (.if_icmp .ge 30, 3) := by decide +kernel
theorem dL_fits_130 : decode cL_fits 130 = .ok (.iload 8, 2) := by decide +kernel
theorem dL_fits_132 : decode cL_fits 132 = .ok (.aload_n 0, 1) := by decide +kernel
theorem dL_fits_133 : decode cL_fits 133 = .ok (.iload 9, 2) := by decide +kernel
theorem dL_fits_135 : decode cL_fits 135 = .ok (.invokestatic 101, 3) := by decide +kernel
theorem dL_fits_138 : decode cL_fits 138 = .ok (.iload 7, 2) := by decide +kernel
theorem dL_fits_140 : decode cL_fits 140 = .ok (.if_icmp .ne 7, 3) := by decide +kernel
theorem dL_fits_143 : decode cL_fits 143 = .ok (.iconst 1, 1) := by decide +kernel
theorem dL_fits_144 : decode cL_fits 144 = .ok (.goto 4, 3) := by decide +kernel
theorem dL_fits_147 : decode cL_fits 147 = .ok (.iconst 0, 1) := by decide +kernel
theorem dL_fits_148 : decode cL_fits 148 = .ok (.iadd, 1) := by decide +kernel
theorem dL_fits_149 : decode cL_fits 149 = .ok (.istore 8, 2) := by decide +kernel
theorem dL_fits_151 : decode cL_fits 151 = .ok (.iinc 9 1, 3) := by decide +kernel
theorem dL_fits_154 : decode cL_fits 154 = .ok (.goto (-30), 3) := by decide +kernel
theorem dL_fits_157 : decode cL_fits 157 = .ok (.aload_n 0, 1) := by decide +kernel
theorem dL_fits_158 : decode cL_fits 158 = .ok (.iload 7, 2) := by decide +kernel
theorem dL_fits_160 : decode cL_fits 160 = .ok (.iconst 2, 1) := by decide +kernel
theorem dL_fits_161 : decode cL_fits 161 = .ok (.invokestatic 98, 3) := by decide +kernel
theorem dL_fits_164 : decode cL_fits 164 = .ok (.istore 9, 2) := by decide +kernel
theorem dL_fits_166 : decode cL_fits 166 = .ok (.aload_n 0, 1) := by decide +kernel
theorem dL_fits_167 : decode cL_fits 167 = .ok (.iload 7, 2) := by decide +kernel
theorem dL_fits_169 : decode cL_fits 169 = .ok (.iconst 1, 1) := by decide +kernel
theorem dL_fits_170 : decode cL_fits 170 = .ok (.invokestatic 98, 3) := by decide +kernel
theorem dL_fits_173 : decode cL_fits 173 = .ok (.istore 10, 2) := by decide +kernel
theorem dL_fits_175 : decode cL_fits 175 = .ok (.aload_n 0, 1) := by decide +kernel
theorem dL_fits_176 : decode cL_fits 176 = .ok (.iload 7, 2) := by decide +kernel
theorem dL_fits_178 : decode cL_fits 178 = .ok (.iconst 3, 1) := by decide +kernel
theorem dL_fits_179 : decode cL_fits 179 = .ok (.invokestatic 98, 3) := by decide +kernel
theorem dL_fits_182 : decode cL_fits 182 = .ok (.iload 8, 2) := by decide +kernel
theorem dL_fits_184 : decode cL_fits 184 = .ok (.if_icmp .ne 99, 3) := by decide +kernel
theorem dL_fits_187 : decode cL_fits 187 = .ok (.iload 9, 2) := by decide +kernel
theorem dL_fits_189 : decode cL_fits 189 = .ok (.iconst 2, 1) := by decide +kernel
theorem dL_fits_190 : decode cL_fits 190 = .ok (.iload 8, 2) := by decide +kernel
theorem dL_fits_192 : decode cL_fits 192 = .ok (.imul, 1) := by decide +kernel
theorem dL_fits_193 : decode cL_fits 193 = .ok (.iload_n 3, 1) := by decide +kernel
theorem dL_fits_194 : decode cL_fits 194 = .ok (.iload 7, 2) := by decide +kernel
theorem dL_fits_196 : decode cL_fits 196 = .ok (.if_icmp .ne 7, 3) := by decide +kernel
theorem dL_fits_199 : decode cL_fits 199 = .ok (.iconst 1, 1) := by decide +kernel
theorem dL_fits_200 : decode cL_fits 200 = .ok (.goto 4, 3) := by decide +kernel
theorem dL_fits_203 : decode cL_fits 203 = .ok (.iconst 0, 1) := by decide +kernel
theorem dL_fits_204 : decode cL_fits 204 = .ok (.iadd, 1) := by decide +kernel
theorem dL_fits_205 : decode cL_fits 205 = .ok (.if_icmp .ne 78, 3) := by decide +kernel
theorem dL_fits_208 : decode cL_fits 208 = .ok (.iload 10, 2) := by decide +kernel
theorem dL_fits_210 : decode cL_fits 210 = .ok (.ifCond .lt 73, 3) := by decide +kernel
theorem dL_fits_213 : decode cL_fits 213 = .ok (.iload 10, 2) := by decide +kernel
theorem dL_fits_215 : decode cL_fits 215 = .ok (.sipush 9000, 3) := by decide +kernel
theorem dL_fits_218 : decode cL_fits 218 = .ok (.if_icmp .gt 65, 3) := by decide +kernel
theorem dL_fits_221 : decode cL_fits 221 = .ok (.aload_n 0, 1) := by decide +kernel
theorem dL_fits_222 : decode cL_fits 222 = .ok (.iload 7, 2) := by decide +kernel
theorem dL_fits_224 : decode cL_fits 224 = .ok (.bipush 6, 2) := by decide +kernel
theorem dL_fits_226 : decode cL_fits 226 = .ok (.invokestatic 98, 3) := by decide +kernel
theorem dL_fits_229 : decode cL_fits 229 = .ok (.iload 9, 2) := by decide +kernel
theorem dL_fits_231 : decode cL_fits 231 = .ok (.sipush 9000, 3) := by decide +kernel
theorem dL_fits_234 : decode cL_fits 234 = .ok (.iload 10, 2) := by decide +kernel
theorem dL_fits_236 : decode cL_fits 236 = .ok (.isub, 1) := by decide +kernel
theorem dL_fits_237 : decode cL_fits 237 = .ok (.imul, 1) := by decide +kernel
theorem dL_fits_238 : decode cL_fits 238 = .ok (.if_icmp .ne 45, 3) := by decide +kernel
theorem dL_fits_241 : decode cL_fits 241 = .ok (.aload_n 0, 1) := by decide +kernel
theorem dL_fits_242 : decode cL_fits 242 = .ok (.iload 7, 2) := by decide +kernel
theorem dL_fits_244 : decode cL_fits 244 = .ok (.iconst 1, 1) := by decide +kernel
theorem dL_fits_245 : decode cL_fits 245 = .ok (.invokestatic 158, 3) := by decide +kernel
theorem dL_fits_248 : decode cL_fits 248 = .ok (.ifCond .eq 35, 3) := by decide +kernel
theorem dL_fits_251 : decode cL_fits 251 = .ok (.aload_n 0, 1) := by decide +kernel
theorem dL_fits_252 : decode cL_fits 252 = .ok (.iload 7, 2) := by decide +kernel
theorem dL_fits_254 : decode cL_fits 254 = .ok (.iconst 0, 1) := by decide +kernel
theorem dL_fits_255 : decode cL_fits 255 = .ok (.invokestatic 158, 3) := by decide +kernel
theorem dL_fits_258 : decode cL_fits 258 = .ok (.ifCond .eq 25, 3) := by decide +kernel
theorem dL_fits_261 : decode cL_fits 261 = .ok (.iload 9, 2) := by decide +kernel
theorem dL_fits_263 : decode cL_fits 263 = .ok (.ifCond .gt 16, 3) := by decide +kernel
theorem dL_fits_266 : decode cL_fits 266 = .ok (.aload_n 0, 1) := by decide +kernel
theorem dL_fits_267 : decode cL_fits 267 = .ok (.iload 7, 2) := by decide +kernel
theorem dL_fits_269 : decode cL_fits 269 = .ok (.ldc 162, 2) := by decide +kernel
theorem dL_fits_271 : decode cL_fits 271 = .ok (.ldc 163, 2) := by decide +kernel
theorem dL_fits_273 : decode cL_fits 273 = .ok (.invokestatic 139, 3) := by decide +kernel
theorem dL_fits_276 : decode cL_fits 276 = .ok (.ifCond .ne 7, 3) := by decide +kernel
theorem dL_fits_279 : decode cL_fits 279 = .ok (.iconst 1, 1) := by decide +kernel
theorem dL_fits_280 : decode cL_fits 280 = .ok (.goto 4, 3) := by decide +kernel
theorem dL_fits_283 : decode cL_fits 283 = .ok (.iconst 0, 1) := by decide +kernel
theorem dL_fits_284 : decode cL_fits 284 = .ok (.istore 6, 2) := by decide +kernel
theorem dL_fits_286 : decode cL_fits 286 = .ok (.iload 4, 2) := by decide +kernel
theorem dL_fits_288 : decode cL_fits 288 = .ok (.iload 9, 2) := by decide +kernel
theorem dL_fits_290 : decode cL_fits 290 = .ok (.sipush 10000, 3) := by decide +kernel
theorem dL_fits_293 : decode cL_fits 293 = .ok (.iload 10, 2) := by decide +kernel
theorem dL_fits_295 : decode cL_fits 295 = .ok (.isub, 1) := by decide +kernel
theorem dL_fits_296 : decode cL_fits 296 = .ok (.imul, 1) := by decide +kernel
theorem dL_fits_297 : decode cL_fits 297 = .ok (.iadd, 1) := by decide +kernel
theorem dL_fits_298 : decode cL_fits 298 = .ok (.istore 4, 2) := by decide +kernel
theorem dL_fits_300 : decode cL_fits 300 = .ok (.iload 5, 2) := by decide +kernel
theorem dL_fits_302 : decode cL_fits 302 = .ok (.iload 9, 2) := by decide +kernel
theorem dL_fits_304 : decode cL_fits 304 = .ok (.iadd, 1) := by decide +kernel
theorem dL_fits_305 : decode cL_fits 305 = .ok (.istore 5, 2) := by decide +kernel
theorem dL_fits_307 : decode cL_fits 307 = .ok (.iinc 7 1, 3) := by decide +kernel
theorem dL_fits_310 : decode cL_fits 310 = .ok (.goto (-203), 3) := by decide +kernel
theorem dL_fits_313 : decode cL_fits 313 = .ok (.iload 6, 2) := by decide +kernel
theorem dL_fits_315 : decode cL_fits 315 = .ok (.ifCond .eq 44, 3) := by decide +kernel
theorem dL_fits_318 : decode cL_fits 318 = .ok (.aload_n 0, 1) := by decide +kernel
theorem dL_fits_319 : decode cL_fits 319 = .ok (.bipush 6, 2) := by decide +kernel
theorem dL_fits_321 : decode cL_fits 321 = .ok (.invokestatic 93, 3) := by decide +kernel
theorem dL_fits_324 : decode cL_fits 324 = .ok (.iload 4, 2) := by decide +kernel
theorem dL_fits_326 : decode cL_fits 326 = .ok (.if_icmp .ne 33, 3) := by decide +kernel
theorem dL_fits_329 : decode cL_fits 329 = .ok (.aload_n 0, 1) := by decide +kernel
theorem dL_fits_330 : decode cL_fits 330 = .ok (.iconst 1, 1) := by decide +kernel
theorem dL_fits_331 : decode cL_fits 331 = .ok (.invokestatic 93, 3) := by decide +kernel
theorem dL_fits_334 : decode cL_fits 334 = .ok (.iload 4, 2) := by decide +kernel
theorem dL_fits_336 : decode cL_fits 336 = .ok (.iadd, 1) := by decide +kernel
theorem dL_fits_337 : decode cL_fits 337 = .ok (.aload_n 0, 1) := by decide +kernel
theorem dL_fits_338 : decode cL_fits 338 = .ok (.iconst 0, 1) := by decide +kernel
theorem dL_fits_339 : decode cL_fits 339 = .ok (.invokestatic 93, 3) := by decide +kernel
theorem dL_fits_342 : decode cL_fits 342 = .ok (.if_icmp .ne 17, 3) := by decide +kernel
theorem dL_fits_345 : decode cL_fits 345 = .ok (.iload 5, 2) := by decide +kernel
theorem dL_fits_347 : decode cL_fits 347 = .ok (.aload_n 0, 1) := by decide +kernel
theorem dL_fits_348 : decode cL_fits 348 = .ok (.iconst 5, 1) := by decide +kernel
theorem dL_fits_349 : decode cL_fits 349 = .ok (.invokestatic 93, 3) := by decide +kernel
theorem dL_fits_352 : decode cL_fits 352 = .ok (.if_icmp .ne 7, 3) := by decide +kernel
theorem dL_fits_355 : decode cL_fits 355 = .ok (.iconst 1, 1) := by decide +kernel
theorem dL_fits_356 : decode cL_fits 356 = .ok (.goto 4, 3) := by decide +kernel
theorem dL_fits_359 : decode cL_fits 359 = .ok (.iconst 0, 1) := by decide +kernel
theorem dL_fits_360 : decode cL_fits 360 = .ok (.istore 6, 2) := by decide +kernel
theorem dL_fits_362 : decode cL_fits 362 = .ok (.iload 6, 2) := by decide +kernel
theorem dL_fits_364 : decode cL_fits 364 = .ok (.ifCond .eq 43, 3) := by decide +kernel
theorem dL_fits_367 : decode cL_fits 367 = .ok (.aload_n 0, 1) := by decide +kernel
theorem dL_fits_368 : decode cL_fits 368 = .ok (.iload_n 1, 1) := by decide +kernel
theorem dL_fits_369 : decode cL_fits 369 = .ok (.sipush 5000, 3) := by decide +kernel
theorem dL_fits_372 : decode cL_fits 372 = .ok (.invokestatic 164, 3) := by decide +kernel
theorem dL_fits_375 : decode cL_fits 375 = .ok (.iload_n 1, 1) := by decide +kernel
theorem dL_fits_376 : decode cL_fits 376 = .ok (.iconst 3, 1) := by decide +kernel
theorem dL_fits_377 : decode cL_fits 377 = .ok (.ishr, 1) := by decide +kernel
theorem dL_fits_378 : decode cL_fits 378 = .ok (.iconst 4, 1) := by decide +kernel
theorem dL_fits_379 : decode cL_fits 379 = .ok (.invokestatic 164, 3) := by decide +kernel
theorem dL_fits_382 : decode cL_fits 382 = .ok (.iload_n 1, 1) := by decide +kernel
theorem dL_fits_383 : decode cL_fits 383 = .ok (.iconst 5, 1) := by decide +kernel
theorem dL_fits_384 : decode cL_fits 384 = .ok (.ishr, 1) := by decide +kernel
theorem dL_fits_385 : decode cL_fits 385 = .ok (.iconst 2, 1) := by decide +kernel
theorem dL_fits_386 : decode cL_fits 386 = .ok (.invokestatic 164, 3) := by decide +kernel
theorem dL_fits_389 : decode cL_fits 389 = .ok (.ifCond .ne 7, 3) := by decide +kernel
theorem dL_fits_392 : decode cL_fits 392 = .ok (.iconst 1, 1) := by decide +kernel
theorem dL_fits_393 : decode cL_fits 393 = .ok (.goto 4, 3) := by decide +kernel
theorem dL_fits_396 : decode cL_fits 396 = .ok (.iconst 0, 1) := by decide +kernel
theorem dL_fits_397 : decode cL_fits 397 = .ok (.invokestatic 167, 3) := by decide +kernel
theorem dL_fits_400 : decode cL_fits 400 = .ok (.ifCond .eq 7, 3) := by decide +kernel
theorem dL_fits_403 : decode cL_fits 403 = .ok (.iconst 1, 1) := by decide +kernel
theorem dL_fits_404 : decode cL_fits 404 = .ok (.goto 4, 3) := by decide +kernel
theorem dL_fits_407 : decode cL_fits 407 = .ok (.iconst 0, 1) := by decide +kernel
theorem dL_fits_408 : decode cL_fits 408 = .ok (.ireturn, 1) := by decide +kernel
theorem dL_areLeast_0 : decode cL_areLeast 0 = .ok (.aload_n 0, 1) := by decide +kernel
theorem dL_areLeast_1 : decode cL_areLeast 1 = .ok (.iload_n 1, 1) := by decide +kernel
theorem dL_areLeast_2 : decode cL_areLeast 2 = .ok (.iload_n 2, 1) := by decide +kernel
theorem dL_areLeast_3 : decode cL_areLeast 3 = .ok (.ifCond .eq 7, 3) := by decide +kernel
theorem dL_areLeast_6 : decode cL_areLeast 6 = .ok (.iconst 4, 1) := by decide +kernel
theorem dL_areLeast_7 : decode cL_areLeast 7 = .ok (.goto 4, 3) := by decide +kernel
theorem dL_areLeast_10 : decode cL_areLeast 10 = .ok (.iconst 5, 1) := by decide +kernel
theorem dL_areLeast_11 : decode cL_areLeast 11 = .ok (.invokestatic 98, 3) := by decide +kernel
theorem dL_areLeast_14 : decode cL_areLeast 14 = .ok (.istore_n 3, 1) := by decide +kernel
theorem dL_areLeast_15 : decode cL_areLeast 15 = .ok (.aload_n 0, 1) := by decide +kernel
theorem dL_areLeast_16 : decode cL_areLeast 16 = .ok (.iload_n 1, 1) := by decide +kernel
theorem dL_areLeast_17 : decode cL_areLeast 17 = .ok (.iconst 0, 1) := by decide +kernel
theorem dL_areLeast_18 : decode cL_areLeast 18 = .ok (.invokestatic 98, 3) := by decide +kernel
theorem dL_areLeast_21 : decode cL_areLeast 21 = .ok (.istore 4, 2) := by decide +kernel
theorem dL_areLeast_23 : decode cL_areLeast 23 = .ok (.iload_n 3, 1) := by decide +kernel
theorem dL_areLeast_24 : decode cL_areLeast 24 = .ok (.iconst (-1), 1) := by decide +kernel
theorem dL_areLeast_25 : decode cL_areLeast 25 = .ok (.if_icmp .ne 54, 3) := by decide +kernel
theorem dL_areLeast_28 : decode cL_areLeast 28 = .ok (.aload_n 0, 1) := by decide +kernel
theorem dL_areLeast_29 : decode cL_areLeast 29 = .ok (.iload_n 1, 1) := by decide +kernel
theorem dL_areLeast_30 : decode cL_areLeast 30 = .ok (.iconst 2, 1) := by decide +kernel
theorem dL_areLeast_31 : decode cL_areLeast 31 = .ok (.invokestatic 98, 3) := by decide +kernel
theorem dL_areLeast_34 : decode cL_areLeast 34 = .ok (.ifCond .ne 24, 3) := by decide +kernel
theorem dL_areLeast_37 : decode cL_areLeast 37 = .ok (.aload_n 0, 1) := by decide +kernel
theorem dL_areLeast_38 : decode cL_areLeast 38 = .ok (.iload_n 1, 1) := by decide +kernel
theorem dL_areLeast_39 : decode cL_areLeast 39 = .ok (.ldc 162, 2) := by decide +kernel
theorem dL_areLeast_41 : decode cL_areLeast 41 = .ok (.iload_n 2, 1) := by decide +kernel
theorem dL_areLeast_42 : decode cL_areLeast 42 = .ok (.invokestatic 171, 3) := by decide +kernel
theorem dL_areLeast_45 : decode cL_areLeast 45 = .ok (.lconst 0, 1) := by decide +kernel
theorem dL_areLeast_46 : decode cL_areLeast 46 = .ok (.lcmp, 1) := by decide +kernel
theorem dL_areLeast_47 : decode cL_areLeast 47 = .ok (.ifCond .ne 7, 3) := by decide +kernel
theorem dL_areLeast_50 : decode cL_areLeast 50 = .ok (.iconst 1, 1) := by decide +kernel
theorem dL_areLeast_51 : decode cL_areLeast 51 = .ok (.goto 27, 3) := by decide +kernel
theorem dL_areLeast_54 : decode cL_areLeast 54 = .ok (.iconst 0, 1) := by decide +kernel
theorem dL_areLeast_55 : decode cL_areLeast 55 = .ok (.goto 23, 3) := by decide +kernel
theorem dL_areLeast_58 : decode cL_areLeast 58 = .ok (.aload_n 0, 1) := by decide +kernel
theorem dL_areLeast_59 : decode cL_areLeast 59 = .ok (.iload_n 1, 1) := by decide +kernel
theorem dL_areLeast_60 : decode cL_areLeast 60 = .ok (.ldc 162, 2) := by decide +kernel
theorem dL_areLeast_62 : decode cL_areLeast 62 = .ok (.iload_n 2, 1) := by decide +kernel
theorem dL_areLeast_63 : decode cL_areLeast 63 = .ok (.invokestatic 171, 3) := by decide +kernel
theorem dL_areLeast_66 : decode cL_areLeast 66 = .ok (.iload 4, 2) := by decide +kernel
theorem dL_areLeast_68 : decode cL_areLeast 68 = .ok (.i2l, 1) := by decide +kernel
theorem dL_areLeast_69 : decode cL_areLeast 69 = .ok (.lcmp, 1) := by decide +kernel
theorem dL_areLeast_70 : decode cL_areLeast 70 = .ok (.ifCond .ge 7, 3) := by decide +kernel
theorem dL_areLeast_73 : decode cL_areLeast 73 = .ok (.iconst 1, 1) := by decide +kernel
theorem dL_areLeast_74 : decode cL_areLeast 74 = .ok (.goto 4, 3) := by decide +kernel
theorem dL_areLeast_77 : decode cL_areLeast 77 = .ok (.iconst 0, 1) := by decide +kernel
theorem dL_areLeast_78 : decode cL_areLeast 78 = .ok (.ireturn, 1) := by decide +kernel
theorem dL_areLeast_79 : decode cL_areLeast 79 = .ok (.aload_n 0, 1) := by decide +kernel
theorem dL_areLeast_80 : decode cL_areLeast 80 = .ok (.iload_n 1, 1) := by decide +kernel
theorem dL_areLeast_81 : decode cL_areLeast 81 = .ok (.iconst 2, 1) := by decide +kernel
theorem dL_areLeast_82 : decode cL_areLeast 82 = .ok (.invokestatic 98, 3) := by decide +kernel
theorem dL_areLeast_85 : decode cL_areLeast 85 = .ok (.ifCond .le 41, 3) := by decide +kernel
theorem dL_areLeast_88 : decode cL_areLeast 88 = .ok (.aload_n 0, 1) := by decide +kernel
theorem dL_areLeast_89 : decode cL_areLeast 89 = .ok (.iload_n 1, 1) := by decide +kernel
theorem dL_areLeast_90 : decode cL_areLeast 90 = .ok (.iload_n 3, 1) := by decide +kernel
theorem dL_areLeast_91 : decode cL_areLeast 91 = .ok (.iload_n 2, 1) := by decide +kernel
theorem dL_areLeast_92 : decode cL_areLeast 92 = .ok (.invokestatic 171, 3) := by decide +kernel
theorem dL_areLeast_95 : decode cL_areLeast 95 = .ok (.iload 4, 2) := by decide +kernel
theorem dL_areLeast_97 : decode cL_areLeast 97 = .ok (.i2l, 1) := by decide +kernel
theorem dL_areLeast_98 : decode cL_areLeast 98 = .ok (.lcmp, 1) := by decide +kernel
theorem dL_areLeast_99 : decode cL_areLeast 99 = .ok (.ifCond .lt 27, 3) := by decide +kernel
theorem dL_areLeast_102 : decode cL_areLeast 102 = .ok (.iload_n 3, 1) := by decide +kernel
theorem dL_areLeast_103 : decode cL_areLeast 103 = .ok (.ifCond .eq 19, 3) := by decide +kernel
theorem dL_areLeast_106 : decode cL_areLeast 106 = .ok (.aload_n 0, 1) := by decide +kernel
theorem dL_areLeast_107 : decode cL_areLeast 107 = .ok (.iload_n 1, 1) := by decide +kernel
theorem dL_areLeast_108 : decode cL_areLeast 108 = .ok (.iload_n 3, 1) := by decide +kernel
theorem dL_areLeast_109 : decode cL_areLeast 109 = .ok (.iconst 1, 1) := by decide +kernel
theorem dL_areLeast_110 : decode cL_areLeast 110 = .ok (.isub, 1) := by decide +kernel
theorem dL_areLeast_111 : decode cL_areLeast 111 = .ok (.iload_n 2, 1) := by decide +kernel
theorem dL_areLeast_112 : decode cL_areLeast 112 = .ok (.invokestatic 171, 3) := by decide +kernel
theorem dL_areLeast_115 : decode cL_areLeast 115 = .ok (.iload 4, 2) := by decide +kernel
theorem dL_areLeast_117 : decode cL_areLeast 117 = .ok (.i2l, 1) := by decide +kernel
theorem dL_areLeast_118 : decode cL_areLeast 118 = .ok (.lcmp, 1) := by decide +kernel
theorem dL_areLeast_119 : decode cL_areLeast 119 = .ok (.ifCond .ge 7, 3) := by decide +kernel
theorem dL_areLeast_122 : decode cL_areLeast 122 = .ok (.iconst 1, 1) := by decide +kernel
theorem dL_areLeast_123 : decode cL_areLeast 123 = .ok (.goto 4, 3) := by decide +kernel
theorem dL_areLeast_126 : decode cL_areLeast 126 = .ok (.iconst 0, 1) := by decide +kernel
theorem dL_areLeast_127 : decode cL_areLeast 127 = .ok (.ireturn, 1) := by decide +kernel
theorem dL_arePulls_0 : decode cL_arePulls 0 = .ok (.aload_n 0, 1) := by decide +kernel
theorem dL_arePulls_1 : decode cL_arePulls 1 = .ok (.iconst 3, 1) := by decide +kernel
theorem dL_arePulls_2 : decode cL_arePulls 2 = .ok (.invokestatic 93, 3) := by decide +kernel
theorem dL_arePulls_5 : decode cL_arePulls 5 = .ok (.istore 4, 2) := by decide +kernel
theorem dL_arePulls_7 : decode cL_arePulls 7 = .ok (.aload_n 0, 1) := by decide +kernel
theorem dL_arePulls_8 : decode cL_arePulls 8 = .ok (.iconst 4, 1) := by decide +kernel
theorem dL_arePulls_9 : decode cL_arePulls 9 = .ok (.invokestatic 93, 3) := by decide +kernel
theorem dL_arePulls_12 : decode cL_arePulls 12 = .ok (.istore 5, 2) := by decide +kernel
theorem dL_arePulls_14 : decode cL_arePulls 14 = .ok (.aload_n 0, 1) := by decide +kernel
theorem dL_arePulls_15 : decode cL_arePulls 15 = .ok (.iconst 2, 1) := by decide +kernel
theorem dL_arePulls_16 : decode cL_arePulls 16 = .ok (.invokestatic 93, 3) := by decide +kernel
theorem dL_arePulls_19 : decode cL_arePulls 19 = .ok (.istore 6, 2) := by decide +kernel
theorem dL_arePulls_21 : decode cL_arePulls 21 = .ok (.aload_n 0, 1) := by decide +kernel
theorem dL_arePulls_22 : decode cL_arePulls 22 = .ok (.iload_n 1, 1) := by decide +kernel
theorem dL_arePulls_23 : decode cL_arePulls 23 = .ok (.iconst 0, 1) := by decide +kernel
theorem dL_arePulls_24 : decode cL_arePulls 24 = .ok (.iload_n 3, 1) := by decide +kernel
theorem dL_arePulls_25 : decode cL_arePulls 25 = .ok (.invokestatic 155, 3) := by decide +kernel
theorem dL_arePulls_28 : decode cL_arePulls 28 = .ok (.lstore 7, 2) := by decide +kernel
theorem dL_arePulls_30 : decode cL_arePulls 30 = .ok (.lload 7, 2) := by decide +kernel
theorem dL_arePulls_32 : decode cL_arePulls 32 = .ok (.iload_n 1, 1) := by decide +kernel
theorem dL_arePulls_33 : decode cL_arePulls 33 = .ok (.i2l, 1) := by decide +kernel
theorem dL_arePulls_34 : decode cL_arePulls 34 = .ok (.lcmp, 1) := by decide +kernel
theorem dL_arePulls_35 : decode cL_arePulls 35 = .ok (.ifCond .ne 7, 3) := by decide +kernel
theorem dL_arePulls_38 : decode cL_arePulls 38 = .ok (.iconst 1, 1) := by decide +kernel
theorem dL_arePulls_39 : decode cL_arePulls 39 = .ok (.goto 4, 3) := by decide +kernel
theorem dL_arePulls_42 : decode cL_arePulls 42 = .ok (.iconst 0, 1) := by decide +kernel
theorem dL_arePulls_43 : decode cL_arePulls 43 = .ok (.istore 9, 2) := by decide +kernel
theorem dL_arePulls_45 : decode cL_arePulls 45 = .ok (.lconst 0, 1) := by decide +kernel
theorem dL_arePulls_46 : decode cL_arePulls 46 = .ok (.lstore 10, 2) := by decide +kernel
theorem dL_arePulls_48 : decode cL_arePulls 48 = .ok (.iconst 1, 1) := by decide +kernel
theorem dL_arePulls_49 : decode cL_arePulls 49 = .ok (.istore 12, 2) := by decide +kernel
theorem dL_arePulls_51 : decode cL_arePulls 51 = .ok (.iload 12, 2) := by decide +kernel
theorem dL_arePulls_53 : decode cL_arePulls 53 = .ok (.aload_n 0, 1) := by decide +kernel
theorem dL_arePulls_54 : decode cL_arePulls 54 = .ok (.iconst 5, 1) := by decide +kernel
theorem dL_arePulls_55 : decode cL_arePulls 55 = .ok (.invokestatic 93, 3) := by decide +kernel
theorem dL_arePulls_58 : decode cL_arePulls 58 = .ok (.if_icmp .gt 134, 3) := by decide +kernel
theorem dL_arePulls_61 : decode cL_arePulls 61 = .ok (.iload 9, 2) := by decide +kernel
theorem dL_arePulls_63 : decode cL_arePulls 63 = .ok (.ifCond .eq 129, 3) := by decide +kernel
theorem dL_arePulls_66 : decode cL_arePulls 66 = .ok (.aload_n 0, 1) := by decide +kernel
theorem dL_arePulls_67 : decode cL_arePulls 67 = .ok (.iload_n 1, 1) := by decide +kernel
theorem dL_arePulls_68 : decode cL_arePulls 68 = .ok (.iload 12, 2) := by decide +kernel
theorem dL_arePulls_70 : decode cL_arePulls 70 = .ok (.iload_n 3, 1) := by decide +kernel
theorem dL_arePulls_71 : decode cL_arePulls 71 = .ok (.invokestatic 155, 3) := by decide +kernel
theorem dL_arePulls_74 : decode cL_arePulls 74 = .ok (.lstore 13, 2) := by decide +kernel
theorem dL_arePulls_76 : decode cL_arePulls 76 = .ok (.lload 13, 2) := by decide +kernel
theorem dL_arePulls_78 : decode cL_arePulls 78 = .ok (.iload_n 3, 1) := by decide +kernel
theorem dL_arePulls_79 : decode cL_arePulls 79 = .ok (.ifCond .eq 19, 3) := by decide +kernel
theorem dL_arePulls_82 : decode cL_arePulls 82 = .ok (.lload 7, 2) := by decide +kernel
theorem dL_arePulls_84 : decode cL_arePulls 84 = .ok (.lload 7, 2) := by decide +kernel
theorem dL_arePulls_86 : decode cL_arePulls 86 = .ok (.iload 6, 2) := by decide +kernel
theorem dL_arePulls_88 : decode cL_arePulls 88 = .ok (.i2l, 1) := by decide +kernel
theorem dL_arePulls_89 : decode cL_arePulls 89 = .ok (.lmul, 1) := by decide +kernel
theorem dL_arePulls_90 : decode cL_arePulls 90 = .ok (.ldc2_w 173, 3) := by decide +kernel
theorem dL_arePulls_93 : decode cL_arePulls 93 = .ok (.ldiv, 1) := by decide +kernel
theorem dL_arePulls_94 : decode cL_arePulls 94 = .ok (.lsub, 1) := by decide +kernel
theorem dL_arePulls_95 : decode cL_arePulls 95 = .ok (.goto 16, 3) := by decide +kernel
theorem dL_arePulls_98 : decode cL_arePulls 98 = .ok (.lload 7, 2) := by decide +kernel
theorem dL_arePulls_100 : decode cL_arePulls 100 = .ok (.lload 7, 2) := by decide +kernel
theorem dL_arePulls_102 : decode cL_arePulls 102 = .ok (.iload 6, 2) := by decide +kernel
theorem dL_arePulls_104 : decode cL_arePulls 104 = .ok (.i2l, 1) := by decide +kernel
theorem dL_arePulls_105 : decode cL_arePulls 105 = .ok (.lmul, 1) := by decide +kernel
theorem dL_arePulls_106 : decode cL_arePulls 106 = .ok (.ldc2_w 173, 3) := by decide +kernel
theorem dL_arePulls_109 : decode cL_arePulls 109 = .ok (.ldiv, 1) := by decide +kernel
theorem dL_arePulls_110 : decode cL_arePulls 110 = .ok (.ladd, 1) := by decide +kernel
theorem dL_arePulls_111 : decode cL_arePulls 111 = .ok (.lcmp, 1) := by decide +kernel
theorem dL_arePulls_112 : decode cL_arePulls 112 = .ok (.ifCond .ne 7, 3) := by decide +kernel
theorem dL_arePulls_115 : decode cL_arePulls 115 = .ok (.iconst 1, 1) := by decide +kernel
theorem dL_arePulls_116 : decode cL_arePulls 116 = .ok (.goto 4, 3) := by decide +kernel
theorem dL_arePulls_119 : decode cL_arePulls 119 = .ok (.iconst 0, 1) := by decide +kernel
theorem dL_arePulls_120 : decode cL_arePulls 120 = .ok (.istore 9, 2) := by decide +kernel
theorem dL_arePulls_122 : decode cL_arePulls 122 = .ok (.iload 12, 2) := by decide +kernel
theorem dL_arePulls_124 : decode cL_arePulls 124 = .ok (.iconst 2, 1) := by decide +kernel
theorem dL_arePulls_125 : decode cL_arePulls 125 = .ok (.iload 4, 2) := by decide +kernel
theorem dL_arePulls_127 : decode cL_arePulls 127 = .ok (.imul, 1) := by decide +kernel
theorem dL_arePulls_128 : decode cL_arePulls 128 = .ok (.if_icmp .gt 25, 3) := by decide +kernel
theorem dL_arePulls_131 : decode cL_arePulls 131 = .ok (.aload_n 0, 1) := by decide +kernel
theorem dL_arePulls_132 : decode cL_arePulls 132 = .ok (.iload 12, 2) := by decide +kernel
theorem dL_arePulls_134 : decode cL_arePulls 134 = .ok (.iconst 1, 1) := by decide +kernel
theorem dL_arePulls_135 : decode cL_arePulls 135 = .ok (.isub, 1) := by decide +kernel
theorem dL_arePulls_136 : decode cL_arePulls 136 = .ok (.iconst 2, 1) := by decide +kernel
theorem dL_arePulls_137 : decode cL_arePulls 137 = .ok (.idiv, 1) := by decide +kernel
theorem dL_arePulls_138 : decode cL_arePulls 138 = .ok (.invokestatic 101, 3) := by decide +kernel
theorem dL_arePulls_141 : decode cL_arePulls 141 = .ok (.iload_n 2, 1) := by decide +kernel
theorem dL_arePulls_142 : decode cL_arePulls 142 = .ok (.if_icmp .ne 7, 3) := by decide +kernel
theorem dL_arePulls_145 : decode cL_arePulls 145 = .ok (.iconst 1, 1) := by decide +kernel
theorem dL_arePulls_146 : decode cL_arePulls 146 = .ok (.goto 18, 3) := by decide +kernel
theorem dL_arePulls_149 : decode cL_arePulls 149 = .ok (.iconst 0, 1) := by decide +kernel
theorem dL_arePulls_150 : decode cL_arePulls 150 = .ok (.goto 14, 3) := by decide +kernel
theorem dL_arePulls_153 : decode cL_arePulls 153 = .ok (.iload 5, 2) := by decide +kernel
theorem dL_arePulls_155 : decode cL_arePulls 155 = .ok (.iload_n 2, 1) := by decide +kernel
theorem dL_arePulls_156 : decode cL_arePulls 156 = .ok (.if_icmp .ne 7, 3) := by decide +kernel
theorem dL_arePulls_159 : decode cL_arePulls 159 = .ok (.iconst 1, 1) := by decide +kernel
theorem dL_arePulls_160 : decode cL_arePulls 160 = .ok (.goto 4, 3) := by decide +kernel
theorem dL_arePulls_163 : decode cL_arePulls 163 = .ok (.iconst 0, 1) := by decide +kernel
theorem dL_arePulls_164 : decode cL_arePulls 164 = .ok (.istore 15, 2) := by decide +kernel
theorem dL_arePulls_166 : decode cL_arePulls 166 = .ok (.lload 10, 2) := by decide +kernel
theorem dL_arePulls_168 : decode cL_arePulls 168 = .ok (.iload 15, 2) := by decide +kernel
theorem dL_arePulls_170 : decode cL_arePulls 170 = .ok (.ifCond .eq 8, 3) := by decide +kernel
theorem dL_arePulls_173 : decode cL_arePulls 173 = .ok (.lload 13, 2) := by decide +kernel
theorem dL_arePulls_175 : decode cL_arePulls 175 = .ok (.goto 4, 3) := by decide +kernel
theorem dL_arePulls_178 : decode cL_arePulls 178 = .ok (.lconst 0, 1) := by decide +kernel
theorem dL_arePulls_179 : decode cL_arePulls 179 = .ok (.ladd, 1) := by decide +kernel
theorem dL_arePulls_180 : decode cL_arePulls 180 = .ok (.lstore 10, 2) := by decide +kernel
theorem dL_arePulls_182 : decode cL_arePulls 182 = .ok (.lload 13, 2) := by decide +kernel
theorem dL_arePulls_184 : decode cL_arePulls 184 = .ok (.lstore 7, 2) := by decide +kernel
theorem dL_arePulls_186 : decode cL_arePulls 186 = .ok (.iinc 12 1, 3) := by decide +kernel
theorem dL_arePulls_189 : decode cL_arePulls 189 = .ok (.goto (-138), 3) := by decide +kernel
theorem dL_arePulls_192 : decode cL_arePulls 192 = .ok (.iload 9, 2) := by decide +kernel
theorem dL_arePulls_194 : decode cL_arePulls 194 = .ok (.ifCond .eq 53, 3) := by decide +kernel
theorem dL_arePulls_197 : decode cL_arePulls 197 = .ok (.aload_n 0, 1) := by decide +kernel
theorem dL_arePulls_198 : decode cL_arePulls 198 = .ok (.iload_n 2, 1) := by decide +kernel
theorem dL_arePulls_199 : decode cL_arePulls 199 = .ok (.iload_n 1, 1) := by decide +kernel
theorem dL_arePulls_200 : decode cL_arePulls 200 = .ok (.iload_n 3, 1) := by decide +kernel
theorem dL_arePulls_201 : decode cL_arePulls 201 = .ok (.invokestatic 171, 3) := by decide +kernel
theorem dL_arePulls_204 : decode cL_arePulls 204 = .ok (.lload 10, 2) := by decide +kernel
theorem dL_arePulls_206 : decode cL_arePulls 206 = .ok (.lcmp, 1) := by decide +kernel
theorem dL_arePulls_207 : decode cL_arePulls 207 = .ok (.ifCond .ne 40, 3) := by decide +kernel
theorem dL_arePulls_210 : decode cL_arePulls 210 = .ok (.aload_n 0, 1) := by decide +kernel
theorem dL_arePulls_211 : decode cL_arePulls 211 = .ok (.iload_n 2, 1) := by decide +kernel
theorem dL_arePulls_212 : decode cL_arePulls 212 = .ok (.iload_n 1, 1) := by decide +kernel
theorem dL_arePulls_213 : decode cL_arePulls 213 = .ok (.iconst 1, 1) := by decide +kernel
theorem dL_arePulls_214 : decode cL_arePulls 214 = .ok (.iadd, 1) := by decide +kernel
theorem dL_arePulls_215 : decode cL_arePulls 215 = .ok (.iload_n 3, 1) := by decide +kernel
theorem dL_arePulls_216 : decode cL_arePulls 216 = .ok (.invokestatic 171, 3) := by decide +kernel
theorem dL_arePulls_219 : decode cL_arePulls 219 = .ok (.lload 10, 2) := by decide +kernel
theorem dL_arePulls_221 : decode cL_arePulls 221 = .ok (.lcmp, 1) := by decide +kernel
theorem dL_arePulls_222 : decode cL_arePulls 222 = .ok (.ifCond .lt 25, 3) := by decide +kernel
theorem dL_arePulls_225 : decode cL_arePulls 225 = .ok (.aload_n 0, 1) := by decide +kernel
theorem dL_arePulls_226 : decode cL_arePulls 226 = .ok (.iload_n 2, 1) := by decide +kernel
theorem dL_arePulls_227 : decode cL_arePulls 227 = .ok (.iload_n 1, 1) := by decide +kernel
theorem dL_arePulls_228 : decode cL_arePulls 228 = .ok (.iconst 0, 1) := by decide +kernel
theorem dL_arePulls_229 : decode cL_arePulls 229 = .ok (.invokestatic 171, 3) := by decide +kernel
theorem dL_arePulls_232 : decode cL_arePulls 232 = .ok (.aload_n 0, 1) := by decide +kernel
theorem dL_arePulls_233 : decode cL_arePulls 233 = .ok (.iload_n 2, 1) := by decide +kernel
theorem dL_arePulls_234 : decode cL_arePulls 234 = .ok (.iload_n 1, 1) := by decide +kernel
theorem dL_arePulls_235 : decode cL_arePulls 235 = .ok (.iconst 1, 1) := by decide +kernel
theorem dL_arePulls_236 : decode cL_arePulls 236 = .ok (.invokestatic 171, 3) := by decide +kernel
theorem dL_arePulls_239 : decode cL_arePulls 239 = .ok (.lcmp, 1) := by decide +kernel
theorem dL_arePulls_240 : decode cL_arePulls 240 = .ok (.ifCond .lt 7, 3) := by decide +kernel
theorem dL_arePulls_243 : decode cL_arePulls 243 = .ok (.iconst 1, 1) := by decide +kernel
theorem dL_arePulls_244 : decode cL_arePulls 244 = .ok (.goto 4, 3) := by decide +kernel
theorem dL_arePulls_247 : decode cL_arePulls 247 = .ok (.iconst 0, 1) := by decide +kernel
theorem dL_arePulls_248 : decode cL_arePulls 248 = .ok (.ireturn, 1) := by decide +kernel
