/-! what each instruction decodes to, printed by wip/tools/names.py -/
theorem d_La_cell_0 : decode c_La_cell 0 = .ok (.iload_n 1, 1) := by decide +kernel
theorem d_La_cell_1 : decode c_La_cell 1 = .ok (.aload_n 0, 1) := by decide +kernel
theorem d_La_cell_2 : decode c_La_cell 2 = .ok (.arraylength, 1) := by decide +kernel
theorem d_La_cell_3 : decode c_La_cell 3 = .ok (.if_icmp .ge 9, 3) := by decide +kernel
theorem d_La_cell_6 : decode c_La_cell 6 = .ok (.aload_n 0, 1) := by decide +kernel
theorem d_La_cell_7 : decode c_La_cell 7 = .ok (.iload_n 1, 1) := by decide +kernel
theorem d_La_cell_8 : decode c_La_cell 8 = .ok (.iaload, 1) := by decide +kernel
theorem d_La_cell_9 : decode c_La_cell 9 = .ok (.goto 4, 3) := by decide +kernel
theorem d_La_cell_12 : decode c_La_cell 12 = .ok (.iconst 0, 1) := by decide +kernel
theorem d_La_cell_13 : decode c_La_cell 13 = .ok (.ireturn, 1) := by decide +kernel
theorem d_La_index_0 : decode c_La_index 0 = .ok (.aload_n 3, 1) := by decide +kernel
theorem d_La_index_1 : decode c_La_index 1 = .ok (.iconst 0, 1) := by decide +kernel
theorem d_La_index_2 : decode c_La_index 2 = .ok (.aload_n 0, 1) := by decide +kernel
theorem d_La_index_3 : decode c_La_index 3 = .ok (.iload_n 1, 1) := by decide +kernel
theorem d_La_index_4 : decode c_La_index 4 = .ok (.iload_n 2, 1) := by decide +kernel
theorem d_La_index_5 : decode c_La_index 5 = .ok (.invokevirtual 7, 3) := by decide +kernel
theorem d_La_index_8 : decode c_La_index 8 = .ok (.i2l, 1) := by decide +kernel
theorem d_La_index_9 : decode c_La_index 9 = .ok (.lastore, 1) := by decide +kernel
theorem d_La_index_10 : decode c_La_index 10 = .ok (.goto 7, 3) := by decide +kernel
theorem d_La_index_13 : decode c_La_index 13 = .ok (.astore 4, 2) := by decide +kernel
theorem d_La_index_15 : decode c_La_index 15 = .ok (.iconst 1, 1) := by decide +kernel
theorem d_La_index_16 : decode c_La_index 16 = .ok (.ireturn, 1) := by decide +kernel
theorem d_La_index_17 : decode c_La_index 17 = .ok (.iconst 0, 1) := by decide +kernel
theorem d_La_index_18 : decode c_La_index 18 = .ok (.ireturn, 1) := by decide +kernel
theorem d_La_budget_0 : decode c_La_budget 0 = .ok (.aload_n 3, 1) := by decide +kernel
theorem d_La_budget_1 : decode c_La_budget 1 = .ok (.iconst 0, 1) := by decide +kernel
theorem d_La_budget_2 : decode c_La_budget 2 = .ok (.aload_n 0, 1) := by decide +kernel
theorem d_La_budget_3 : decode c_La_budget 3 = .ok (.iload_n 1, 1) := by decide +kernel
theorem d_La_budget_4 : decode c_La_budget 4 = .ok (.iload_n 2, 1) := by decide +kernel
theorem d_La_budget_5 : decode c_La_budget 5 = .ok (.invokevirtual 15, 3) := by decide +kernel
theorem d_La_budget_8 : decode c_La_budget 8 = .ok (.i2l, 1) := by decide +kernel
theorem d_La_budget_9 : decode c_La_budget 9 = .ok (.lastore, 1) := by decide +kernel
theorem d_La_budget_10 : decode c_La_budget 10 = .ok (.goto 7, 3) := by decide +kernel
theorem d_La_budget_13 : decode c_La_budget 13 = .ok (.astore 4, 2) := by decide +kernel
theorem d_La_budget_15 : decode c_La_budget 15 = .ok (.iconst 1, 1) := by decide +kernel
theorem d_La_budget_16 : decode c_La_budget 16 = .ok (.ireturn, 1) := by decide +kernel
theorem d_La_budget_17 : decode c_La_budget 17 = .ok (.iconst 0, 1) := by decide +kernel
theorem d_La_budget_18 : decode c_La_budget 18 = .ok (.ireturn, 1) := by decide +kernel
theorem d_La_part_0 : decode c_La_part 0 = .ok (.aload_n 3, 1) := by decide +kernel
theorem d_La_part_1 : decode c_La_part 1 = .ok (.iconst 0, 1) := by decide +kernel
theorem d_La_part_2 : decode c_La_part 2 = .ok (.aload_n 0, 1) := by decide +kernel
theorem d_La_part_3 : decode c_La_part 3 = .ok (.iload_n 1, 1) := by decide +kernel
theorem d_La_part_4 : decode c_La_part 4 = .ok (.iload_n 2, 1) := by decide +kernel
theorem d_La_part_5 : decode c_La_part 5 = .ok (.invokevirtual 18, 3) := by decide +kernel
theorem d_La_part_8 : decode c_La_part 8 = .ok (.i2l, 1) := by decide +kernel
theorem d_La_part_9 : decode c_La_part 9 = .ok (.lastore, 1) := by decide +kernel
theorem d_La_part_10 : decode c_La_part 10 = .ok (.goto 11, 3) := by decide +kernel
theorem d_La_part_13 : decode c_La_part 13 = .ok (.astore 4, 2) := by decide +kernel
theorem d_La_part_15 : decode c_La_part 15 = .ok (.iconst 1, 1) := by decide +kernel
theorem d_La_part_16 : decode c_La_part 16 = .ok (.ireturn, 1) := by decide +kernel
theorem d_La_part_17 : decode c_La_part 17 = .ok (.astore 4, 2) := by decide +kernel
theorem d_La_part_19 : decode c_La_part 19 = .ok (.iconst 2, 1) := by decide +kernel
theorem d_La_part_20 : decode c_La_part 20 = .ok (.ireturn, 1) := by decide +kernel
theorem d_La_part_21 : decode c_La_part 21 = .ok (.iconst 0, 1) := by decide +kernel
theorem d_La_part_22 : decode c_La_part 22 = .ok (.ireturn, 1) := by decide +kernel
theorem d_La_moves_0 : decode c_La_moves 0 = .ok (.aload 5, 2) := by decide +kernel
theorem d_La_moves_2 : decode c_La_moves 2 = .ok (.iconst 0, 1) := by decide +kernel
theorem d_La_moves_3 : decode c_La_moves 3 = .ok (.aload_n 0, 1) := by decide +kernel
theorem d_La_moves_4 : decode c_La_moves 4 = .ok (.iload_n 1, 1) := by decide +kernel
theorem d_La_moves_5 : decode c_La_moves 5 = .ok (.iload_n 2, 1) := by decide +kernel
theorem d_La_moves_6 : decode c_La_moves 6 = .ok (.iload_n 3, 1) := by decide +kernel
theorem d_La_moves_7 : decode c_La_moves 7 = .ok (.iload 4, 2) := by decide +kernel
theorem d_La_moves_9 : decode c_La_moves 9 = .ok (.invokevirtual 23, 3) := by decide +kernel
theorem d_La_moves_12 : decode c_La_moves 12 = .ok (.i2l, 1) := by decide +kernel
theorem d_La_moves_13 : decode c_La_moves 13 = .ok (.lastore, 1) := by decide +kernel
theorem d_La_moves_14 : decode c_La_moves 14 = .ok (.goto 7, 3) := by decide +kernel
theorem d_La_moves_17 : decode c_La_moves 17 = .ok (.astore 6, 2) := by decide +kernel
theorem d_La_moves_19 : decode c_La_moves 19 = .ok (.iconst 1, 1) := by decide +kernel
theorem d_La_moves_20 : decode c_La_moves 20 = .ok (.ireturn, 1) := by decide +kernel
theorem d_La_moves_21 : decode c_La_moves 21 = .ok (.iconst 0, 1) := by decide +kernel
theorem d_La_moves_22 : decode c_La_moves 22 = .ok (.ireturn, 1) := by decide +kernel
theorem d_La_care_0 : decode c_La_care 0 = .ok (.aload 4, 2) := by decide +kernel
theorem d_La_care_2 : decode c_La_care 2 = .ok (.iconst 0, 1) := by decide +kernel
theorem d_La_care_3 : decode c_La_care 3 = .ok (.aload_n 0, 1) := by decide +kernel
theorem d_La_care_4 : decode c_La_care 4 = .ok (.iload_n 1, 1) := by decide +kernel
theorem d_La_care_5 : decode c_La_care 5 = .ok (.iload_n 2, 1) := by decide +kernel
theorem d_La_care_6 : decode c_La_care 6 = .ok (.iload_n 3, 1) := by decide +kernel
theorem d_La_care_7 : decode c_La_care 7 = .ok (.invokevirtual 27, 3) := by decide +kernel
theorem d_La_care_10 : decode c_La_care 10 = .ok (.i2l, 1) := by decide +kernel
theorem d_La_care_11 : decode c_La_care 11 = .ok (.lastore, 1) := by decide +kernel
theorem d_La_care_12 : decode c_La_care 12 = .ok (.goto 7, 3) := by decide +kernel
theorem d_La_care_15 : decode c_La_care 15 = .ok (.astore 5, 2) := by decide +kernel
theorem d_La_care_17 : decode c_La_care 17 = .ok (.iconst 1, 1) := by decide +kernel
theorem d_La_care_18 : decode c_La_care 18 = .ok (.ireturn, 1) := by decide +kernel
theorem d_La_care_19 : decode c_La_care 19 = .ok (.iconst 0, 1) := by decide +kernel
theorem d_La_care_20 : decode c_La_care 20 = .ok (.ireturn, 1) := by decide +kernel
theorem d_La_share_0 : decode c_La_share 0 = .ok (.aload 4, 2) := by decide +kernel
theorem d_La_share_2 : decode c_La_share 2 = .ok (.iconst 0, 1) := by decide +kernel
theorem d_La_share_3 : decode c_La_share 3 = .ok (.aload_n 0, 1) := by decide +kernel
theorem d_La_share_4 : decode c_La_share 4 = .ok (.iload_n 1, 1) := by decide +kernel
theorem d_La_share_5 : decode c_La_share 5 = .ok (.iload_n 2, 1) := by decide +kernel
theorem d_La_share_6 : decode c_La_share 6 = .ok (.iload_n 3, 1) := by decide +kernel
theorem d_La_share_7 : decode c_La_share 7 = .ok (.invokevirtual 31, 3) := by decide +kernel
theorem d_La_share_10 : decode c_La_share 10 = .ok (.lastore, 1) := by decide +kernel
theorem d_La_share_11 : decode c_La_share 11 = .ok (.goto 7, 3) := by decide +kernel
theorem d_La_share_14 : decode c_La_share 14 = .ok (.astore 5, 2) := by decide +kernel
theorem d_La_share_16 : decode c_La_share 16 = .ok (.iconst 1, 1) := by decide +kernel
theorem d_La_share_17 : decode c_La_share 17 = .ok (.ireturn, 1) := by decide +kernel
theorem d_La_share_18 : decode c_La_share 18 = .ok (.iconst 0, 1) := by decide +kernel
theorem d_La_share_19 : decode c_La_share 19 = .ok (.ireturn, 1) := by decide +kernel
theorem d_La_cares_0 : decode c_La_cares 0 = .ok (.aload_n 3, 1) := by decide +kernel
theorem d_La_cares_1 : decode c_La_cares 1 = .ok (.iconst 0, 1) := by decide +kernel
theorem d_La_cares_2 : decode c_La_cares 2 = .ok (.aload_n 0, 1) := by decide +kernel
theorem d_La_cares_3 : decode c_La_cares 3 = .ok (.iload_n 1, 1) := by decide +kernel
theorem d_La_cares_4 : decode c_La_cares 4 = .ok (.iload_n 2, 1) := by decide +kernel
theorem d_La_cares_5 : decode c_La_cares 5 = .ok (.invokevirtual 35, 3) := by decide +kernel
theorem d_La_cares_8 : decode c_La_cares 8 = .ok (.i2l, 1) := by decide +kernel
theorem d_La_cares_9 : decode c_La_cares 9 = .ok (.lastore, 1) := by decide +kernel
theorem d_La_cares_10 : decode c_La_cares 10 = .ok (.goto 7, 3) := by decide +kernel
theorem d_La_cares_13 : decode c_La_cares 13 = .ok (.astore 4, 2) := by decide +kernel
theorem d_La_cares_15 : decode c_La_cares 15 = .ok (.iconst 1, 1) := by decide +kernel
theorem d_La_cares_16 : decode c_La_cares 16 = .ok (.ireturn, 1) := by decide +kernel
theorem d_La_cares_17 : decode c_La_cares 17 = .ok (.iconst 0, 1) := by decide +kernel
theorem d_La_cares_18 : decode c_La_cares 18 = .ok (.ireturn, 1) := by decide +kernel
theorem d_La_most_0 : decode c_La_most 0 = .ok (.aload_n 3, 1) := by decide +kernel
theorem d_La_most_1 : decode c_La_most 1 = .ok (.iconst 0, 1) := by decide +kernel
theorem d_La_most_2 : decode c_La_most 2 = .ok (.aload_n 0, 1) := by decide +kernel
theorem d_La_most_3 : decode c_La_most 3 = .ok (.iload_n 1, 1) := by decide +kernel
theorem d_La_most_4 : decode c_La_most 4 = .ok (.iload_n 2, 1) := by decide +kernel
theorem d_La_most_5 : decode c_La_most 5 = .ok (.invokevirtual 38, 3) := by decide +kernel
theorem d_La_most_8 : decode c_La_most 8 = .ok (.i2l, 1) := by decide +kernel
theorem d_La_most_9 : decode c_La_most 9 = .ok (.lastore, 1) := by decide +kernel
theorem d_La_most_10 : decode c_La_most 10 = .ok (.goto 7, 3) := by decide +kernel
theorem d_La_most_13 : decode c_La_most 13 = .ok (.astore 4, 2) := by decide +kernel
theorem d_La_most_15 : decode c_La_most 15 = .ok (.iconst 1, 1) := by decide +kernel
theorem d_La_most_16 : decode c_La_most 16 = .ok (.ireturn, 1) := by decide +kernel
theorem d_La_most_17 : decode c_La_most 17 = .ok (.iconst 0, 1) := by decide +kernel
theorem d_La_most_18 : decode c_La_most 18 = .ok (.ireturn, 1) := by decide +kernel
theorem d_La_work_0 : decode c_La_work 0 = .ok (.aload 5, 2) := by decide +kernel
theorem d_La_work_2 : decode c_La_work 2 = .ok (.iconst 0, 1) := by decide +kernel
theorem d_La_work_3 : decode c_La_work 3 = .ok (.aload_n 0, 1) := by decide +kernel
theorem d_La_work_4 : decode c_La_work 4 = .ok (.iload_n 1, 1) := by decide +kernel
theorem d_La_work_5 : decode c_La_work 5 = .ok (.iload_n 2, 1) := by decide +kernel
theorem d_La_work_6 : decode c_La_work 6 = .ok (.iload_n 3, 1) := by decide +kernel
theorem d_La_work_7 : decode c_La_work 7 = .ok (.iload 4, 2) := by decide +kernel
theorem d_La_work_9 : decode c_La_work 9 = .ok (.invokevirtual 41, 3) := by decide +kernel
theorem d_La_work_12 : decode c_La_work 12 = .ok (.i2l, 1) := by decide +kernel
theorem d_La_work_13 : decode c_La_work 13 = .ok (.lastore, 1) := by decide +kernel
theorem d_La_work_14 : decode c_La_work 14 = .ok (.goto 11, 3) := by decide +kernel
theorem d_La_work_17 : decode c_La_work 17 = .ok (.astore 6, 2) := by decide +kernel
theorem d_La_work_19 : decode c_La_work 19 = .ok (.iconst 1, 1) := by decide +kernel
theorem d_La_work_20 : decode c_La_work 20 = .ok (.ireturn, 1) := by decide +kernel
theorem d_La_work_21 : decode c_La_work 21 = .ok (.astore 6, 2) := by decide +kernel
theorem d_La_work_23 : decode c_La_work 23 = .ok (.iconst 2, 1) := by decide +kernel
theorem d_La_work_24 : decode c_La_work 24 = .ok (.ireturn, 1) := by decide +kernel
theorem d_La_work_25 : decode c_La_work 25 = .ok (.iconst 0, 1) := by decide +kernel
theorem d_La_work_26 : decode c_La_work 26 = .ok (.ireturn, 1) := by decide +kernel
theorem d_La_join_0 : decode c_La_join 0 = .ok (.aload 4, 2) := by decide +kernel
theorem d_La_join_2 : decode c_La_join 2 = .ok (.iconst 0, 1) := by decide +kernel
theorem d_La_join_3 : decode c_La_join 3 = .ok (.aload_n 0, 1) := by decide +kernel
theorem d_La_join_4 : decode c_La_join 4 = .ok (.iload_n 1, 1) := by decide +kernel
theorem d_La_join_5 : decode c_La_join 5 = .ok (.iload_n 2, 1) := by decide +kernel
theorem d_La_join_6 : decode c_La_join 6 = .ok (.iload_n 3, 1) := by decide +kernel
theorem d_La_join_7 : decode c_La_join 7 = .ok (.invokevirtual 44, 3) := by decide +kernel
theorem d_La_join_10 : decode c_La_join 10 = .ok (.i2l, 1) := by decide +kernel
theorem d_La_join_11 : decode c_La_join 11 = .ok (.lastore, 1) := by decide +kernel
theorem d_La_join_12 : decode c_La_join 12 = .ok (.goto 7, 3) := by decide +kernel
theorem d_La_join_15 : decode c_La_join 15 = .ok (.astore 5, 2) := by decide +kernel
theorem d_La_join_17 : decode c_La_join 17 = .ok (.iconst 1, 1) := by decide +kernel
theorem d_La_join_18 : decode c_La_join 18 = .ok (.ireturn, 1) := by decide +kernel
theorem d_La_join_19 : decode c_La_join 19 = .ok (.iconst 0, 1) := by decide +kernel
theorem d_La_join_20 : decode c_La_join 20 = .ok (.ireturn, 1) := by decide +kernel
theorem d_La_clash_0 : decode c_La_clash 0 = .ok (.aload 4, 2) := by decide +kernel
theorem d_La_clash_2 : decode c_La_clash 2 = .ok (.iconst 0, 1) := by decide +kernel
theorem d_La_clash_3 : decode c_La_clash 3 = .ok (.aload_n 0, 1) := by decide +kernel
theorem d_La_clash_4 : decode c_La_clash 4 = .ok (.iload_n 1, 1) := by decide +kernel
theorem d_La_clash_5 : decode c_La_clash 5 = .ok (.iload_n 2, 1) := by decide +kernel
theorem d_La_clash_6 : decode c_La_clash 6 = .ok (.iload_n 3, 1) := by decide +kernel
theorem d_La_clash_7 : decode c_La_clash 7 = .ok (.invokevirtual 47, 3) := by decide +kernel
theorem d_La_clash_10 : decode c_La_clash 10 = .ok (.ifCond .eq 7, 3) := by decide +kernel
theorem d_La_clash_13 : decode c_La_clash 13 = .ok (.lconst 1, 1) := by decide +kernel
theorem d_La_clash_14 : decode c_La_clash 14 = .ok (.goto 4, 3) := by decide +kernel
theorem d_La_clash_17 : decode c_La_clash 17 = .ok (.lconst 0, 1) := by decide +kernel
theorem d_La_clash_18 : decode c_La_clash 18 = .ok (.lastore, 1) := by decide +kernel
theorem d_La_clash_19 : decode c_La_clash 19 = .ok (.goto 7, 3) := by decide +kernel
theorem d_La_clash_22 : decode c_La_clash 22 = .ok (.astore 5, 2) := by decide +kernel
theorem d_La_clash_24 : decode c_La_clash 24 = .ok (.iconst 1, 1) := by decide +kernel
theorem d_La_clash_25 : decode c_La_clash 25 = .ok (.ireturn, 1) := by decide +kernel
theorem d_La_clash_26 : decode c_La_clash 26 = .ok (.iconst 0, 1) := by decide +kernel
theorem d_La_clash_27 : decode c_La_clash 27 = .ok (.ireturn, 1) := by decide +kernel
theorem d_La_needs_0 : decode c_La_needs 0 = .ok (.aload_n 3, 1) := by decide +kernel
theorem d_La_needs_1 : decode c_La_needs 1 = .ok (.iconst 0, 1) := by decide +kernel
theorem d_La_needs_2 : decode c_La_needs 2 = .ok (.aload_n 0, 1) := by decide +kernel
theorem d_La_needs_3 : decode c_La_needs 3 = .ok (.iload_n 1, 1) := by decide +kernel
theorem d_La_needs_4 : decode c_La_needs 4 = .ok (.iload_n 2, 1) := by decide +kernel
theorem d_La_needs_5 : decode c_La_needs 5 = .ok (.invokevirtual 51, 3) := by decide +kernel
theorem d_La_needs_8 : decode c_La_needs 8 = .ok (.i2l, 1) := by decide +kernel
theorem d_La_needs_9 : decode c_La_needs 9 = .ok (.lastore, 1) := by decide +kernel
theorem d_La_needs_10 : decode c_La_needs 10 = .ok (.goto 7, 3) := by decide +kernel
theorem d_La_needs_13 : decode c_La_needs 13 = .ok (.astore 4, 2) := by decide +kernel
theorem d_La_needs_15 : decode c_La_needs 15 = .ok (.iconst 1, 1) := by decide +kernel
theorem d_La_needs_16 : decode c_La_needs 16 = .ok (.ireturn, 1) := by decide +kernel
theorem d_La_needs_17 : decode c_La_needs 17 = .ok (.iconst 0, 1) := by decide +kernel
theorem d_La_needs_18 : decode c_La_needs 18 = .ok (.ireturn, 1) := by decide +kernel
theorem d_La_chosen_0 : decode c_La_chosen 0 = .ok (.aload_n 2, 1) := by decide +kernel
theorem d_La_chosen_1 : decode c_La_chosen 1 = .ok (.iconst 0, 1) := by decide +kernel
theorem d_La_chosen_2 : decode c_La_chosen 2 = .ok (.aload_n 0, 1) := by decide +kernel
theorem d_La_chosen_3 : decode c_La_chosen 3 = .ok (.iload_n 1, 1) := by decide +kernel
theorem d_La_chosen_4 : decode c_La_chosen 4 = .ok (.invokevirtual 54, 3) := by decide +kernel
theorem d_La_chosen_7 : decode c_La_chosen 7 = .ok (.ifCond .eq 7, 3) := by decide +kernel
theorem d_La_chosen_10 : decode c_La_chosen 10 = .ok (.lconst 1, 1) := by decide +kernel
theorem d_La_chosen_11 : decode c_La_chosen 11 = .ok (.goto 4, 3) := by decide +kernel
theorem d_La_chosen_14 : decode c_La_chosen 14 = .ok (.lconst 0, 1) := by decide +kernel
theorem d_La_chosen_15 : decode c_La_chosen 15 = .ok (.lastore, 1) := by decide +kernel
theorem d_La_chosen_16 : decode c_La_chosen 16 = .ok (.goto 6, 3) := by decide +kernel
theorem d_La_chosen_19 : decode c_La_chosen 19 = .ok (.astore_n 3, 1) := by decide +kernel
theorem d_La_chosen_20 : decode c_La_chosen 20 = .ok (.iconst 1, 1) := by decide +kernel
theorem d_La_chosen_21 : decode c_La_chosen 21 = .ok (.ireturn, 1) := by decide +kernel
theorem d_La_chosen_22 : decode c_La_chosen 22 = .ok (.iconst 0, 1) := by decide +kernel
theorem d_La_chosen_23 : decode c_La_chosen 23 = .ok (.ireturn, 1) := by decide +kernel
theorem d_La_costs_0 : decode c_La_costs 0 = .ok (.aload_n 2, 1) := by decide +kernel
theorem d_La_costs_1 : decode c_La_costs 1 = .ok (.iconst 0, 1) := by decide +kernel
theorem d_La_costs_2 : decode c_La_costs 2 = .ok (.aload_n 0, 1) := by decide +kernel
theorem d_La_costs_3 : decode c_La_costs 3 = .ok (.iload_n 1, 1) := by decide +kernel
theorem d_La_costs_4 : decode c_La_costs 4 = .ok (.invokevirtual 58, 3) := by decide +kernel
theorem d_La_costs_7 : decode c_La_costs 7 = .ok (.i2l, 1) := by decide +kernel
theorem d_La_costs_8 : decode c_La_costs 8 = .ok (.lastore, 1) := by decide +kernel
theorem d_La_costs_9 : decode c_La_costs 9 = .ok (.goto 6, 3) := by decide +kernel
theorem d_La_costs_12 : decode c_La_costs 12 = .ok (.astore_n 3, 1) := by decide +kernel
theorem d_La_costs_13 : decode c_La_costs 13 = .ok (.iconst 1, 1) := by decide +kernel
theorem d_La_costs_14 : decode c_La_costs 14 = .ok (.ireturn, 1) := by decide +kernel
theorem d_La_costs_15 : decode c_La_costs 15 = .ok (.iconst 0, 1) := by decide +kernel
theorem d_La_costs_16 : decode c_La_costs 16 = .ok (.ireturn, 1) := by decide +kernel
theorem d_La_money_0 : decode c_La_money 0 = .ok (.aload_n 0, 1) := by decide +kernel
theorem d_La_money_1 : decode c_La_money 1 = .ok (.iload_n 1, 1) := by decide +kernel
theorem d_La_money_2 : decode c_La_money 2 = .ok (.iload_n 2, 1) := by decide +kernel
theorem d_La_money_3 : decode c_La_money 3 = .ok (.invokevirtual 62, 3) := by decide +kernel
theorem d_La_money_6 : decode c_La_money 6 = .ok (.goto 6, 3) := by decide +kernel
theorem d_La_money_9 : decode c_La_money 9 = .ok (.astore_n 3, 1) := by decide +kernel
theorem d_La_money_10 : decode c_La_money 10 = .ok (.iconst 1, 1) := by decide +kernel
theorem d_La_money_11 : decode c_La_money 11 = .ok (.ireturn, 1) := by decide +kernel
theorem d_La_money_12 : decode c_La_money 12 = .ok (.iconst 0, 1) := by decide +kernel
theorem d_La_money_13 : decode c_La_money 13 = .ok (.ireturn, 1) := by decide +kernel
theorem d_La_reserve_0 : decode c_La_reserve 0 = .ok (.aload_n 2, 1) := by decide +kernel
theorem d_La_reserve_1 : decode c_La_reserve 1 = .ok (.iconst 0, 1) := by decide +kernel
theorem d_La_reserve_2 : decode c_La_reserve 2 = .ok (.aload_n 0, 1) := by decide +kernel
theorem d_La_reserve_3 : decode c_La_reserve 3 = .ok (.iload_n 1, 1) := by decide +kernel
theorem d_La_reserve_4 : decode c_La_reserve 4 = .ok (.invokevirtual 66, 3) := by decide +kernel
theorem d_La_reserve_7 : decode c_La_reserve 7 = .ok (.lastore, 1) := by decide +kernel
theorem d_La_reserve_8 : decode c_La_reserve 8 = .ok (.goto 6, 3) := by decide +kernel
theorem d_La_reserve_11 : decode c_La_reserve 11 = .ok (.astore_n 3, 1) := by decide +kernel
theorem d_La_reserve_12 : decode c_La_reserve 12 = .ok (.iconst 1, 1) := by decide +kernel
theorem d_La_reserve_13 : decode c_La_reserve 13 = .ok (.ireturn, 1) := by decide +kernel
theorem d_La_reserve_14 : decode c_La_reserve 14 = .ok (.iconst 0, 1) := by decide +kernel
theorem d_La_reserve_15 : decode c_La_reserve 15 = .ok (.ireturn, 1) := by decide +kernel
theorem d_La_payment_0 : decode c_La_payment 0 = .ok (.aload 4, 2) := by decide +kernel
theorem d_La_payment_2 : decode c_La_payment 2 = .ok (.iconst 0, 1) := by decide +kernel
theorem d_La_payment_3 : decode c_La_payment 3 = .ok (.aload_n 0, 1) := by decide +kernel
theorem d_La_payment_4 : decode c_La_payment 4 = .ok (.iload_n 1, 1) := by decide +kernel
theorem d_La_payment_5 : decode c_La_payment 5 = .ok (.iload_n 2, 1) := by decide +kernel
theorem d_La_payment_6 : decode c_La_payment 6 = .ok (.iload_n 3, 1) := by decide +kernel
theorem d_La_payment_7 : decode c_La_payment 7 = .ok (.invokevirtual 70, 3) := by decide +kernel
theorem d_La_payment_10 : decode c_La_payment 10 = .ok (.i2l, 1) := by decide +kernel
theorem d_La_payment_11 : decode c_La_payment 11 = .ok (.lastore, 1) := by decide +kernel
theorem d_La_payment_12 : decode c_La_payment 12 = .ok (.goto 7, 3) := by decide +kernel
theorem d_La_payment_15 : decode c_La_payment 15 = .ok (.astore 5, 2) := by decide +kernel
theorem d_La_payment_17 : decode c_La_payment 17 = .ok (.iconst 1, 1) := by decide +kernel
theorem d_La_payment_18 : decode c_La_payment 18 = .ok (.ireturn, 1) := by decide +kernel
theorem d_La_payment_19 : decode c_La_payment 19 = .ok (.iconst 0, 1) := by decide +kernel
theorem d_La_payment_20 : decode c_La_payment 20 = .ok (.ireturn, 1) := by decide +kernel
theorem d_La_rest_0 : decode c_La_rest 0 = .ok (.aload 5, 2) := by decide +kernel
theorem d_La_rest_2 : decode c_La_rest 2 = .ok (.iconst 0, 1) := by decide +kernel
theorem d_La_rest_3 : decode c_La_rest 3 = .ok (.aload_n 0, 1) := by decide +kernel
theorem d_La_rest_4 : decode c_La_rest 4 = .ok (.iload_n 1, 1) := by decide +kernel
theorem d_La_rest_5 : decode c_La_rest 5 = .ok (.iload_n 2, 1) := by decide +kernel
theorem d_La_rest_6 : decode c_La_rest 6 = .ok (.iload_n 3, 1) := by decide +kernel
theorem d_La_rest_7 : decode c_La_rest 7 = .ok (.iload 4, 2) := by decide +kernel
theorem d_La_rest_9 : decode c_La_rest 9 = .ok (.invokevirtual 73, 3) := by decide +kernel
theorem d_La_rest_12 : decode c_La_rest 12 = .ok (.i2l, 1) := by decide +kernel
theorem d_La_rest_13 : decode c_La_rest 13 = .ok (.lastore, 1) := by decide +kernel
theorem d_La_rest_14 : decode c_La_rest 14 = .ok (.goto 7, 3) := by decide +kernel
theorem d_La_rest_17 : decode c_La_rest 17 = .ok (.astore 6, 2) := by decide +kernel
theorem d_La_rest_19 : decode c_La_rest 19 = .ok (.iconst 1, 1) := by decide +kernel
theorem d_La_rest_20 : decode c_La_rest 20 = .ok (.ireturn, 1) := by decide +kernel
theorem d_La_rest_21 : decode c_La_rest 21 = .ok (.iconst 0, 1) := by decide +kernel
theorem d_La_rest_22 : decode c_La_rest 22 = .ok (.ireturn, 1) := by decide +kernel
