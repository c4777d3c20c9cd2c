theorem dL_cell_0 : decode cL_cell 0 = .ok (.iload_n 1, 1) := by decide +kernel
theorem dL_cell_1 : decode cL_cell 1 = .ok (.aload_n 0, 1) := by decide +kernel
theorem dL_cell_2 : decode cL_cell 2 = .ok (.arraylength, 1) := by decide +kernel
theorem dL_cell_3 : decode cL_cell 3 = .ok (.if_icmp .ge 9, 3) := by decide +kernel
theorem dL_cell_6 : decode cL_cell 6 = .ok (.aload_n 0, 1) := by decide +kernel
theorem dL_cell_7 : decode cL_cell 7 = .ok (.iload_n 1, 1) := by decide +kernel
theorem dL_cell_8 : decode cL_cell 8 = .ok (.iaload, 1) := by decide +kernel
theorem dL_cell_9 : decode cL_cell 9 = .ok (.goto 18, 3) := by decide +kernel
theorem dL_cell_12 : decode cL_cell 12 = .ok (.sipush 7919, 3) := by decide +kernel
theorem dL_cell_15 : decode cL_cell 15 = .ok (.iload_n 1, 1) := by decide +kernel
theorem dL_cell_16 : decode cL_cell 16 = .ok (.sipush 2969, 3) := by decide +kernel
theorem dL_cell_19 : decode cL_cell 19 = .ok (.iadd, 1) := by decide +kernel
theorem dL_cell_20 : decode cL_cell 20 = .ok (.imul, 1) := by decide +kernel
theorem dL_cell_21 : decode cL_cell 21 = .ok (.iload_n 1, 1) := by decide +kernel
theorem dL_cell_22 : decode cL_cell 22 = .ok (.sipush 661, 3) := by decide +kernel
theorem dL_cell_25 : decode cL_cell 25 = .ok (.iadd, 1) := by decide +kernel
theorem dL_cell_26 : decode cL_cell 26 = .ok (.imul, 1) := by decide +kernel
theorem dL_cell_27 : decode cL_cell 27 = .ok (.ireturn, 1) := by decide +kernel
theorem dL_low_0 : decode cL_low 0 = .ok (.iload_n 0, 1) := by decide +kernel
theorem dL_low_1 : decode cL_low 1 = .ok (.ldc 7, 2) := by decide +kernel
theorem dL_low_3 : decode cL_low 3 = .ok (.iand, 1) := by decide +kernel
theorem dL_low_4 : decode cL_low 4 = .ok (.iload_n 1, 1) := by decide +kernel
theorem dL_low_5 : decode cL_low 5 = .ok (.irem, 1) := by decide +kernel
theorem dL_low_6 : decode cL_low 6 = .ok (.ireturn, 1) := by decide +kernel
theorem dL_loss_0 : decode cL_loss 0 = .ok (.aload_n 0, 1) := by decide +kernel
theorem dL_loss_1 : decode cL_loss 1 = .ok (.iload_n 1, 1) := by decide +kernel
theorem dL_loss_2 : decode cL_loss 2 = .ok (.iload_n 2, 1) := by decide +kernel
theorem dL_loss_3 : decode cL_loss 3 = .ok (.iload_n 3, 1) := by decide +kernel
theorem dL_loss_4 : decode cL_loss 4 = .ok (.invokevirtual 8, 3) := by decide +kernel
theorem dL_loss_7 : decode cL_loss 7 = .ok (.ireturn, 1) := by decide +kernel
theorem dL_loss_8 : decode cL_loss 8 = .ok (.astore 4, 2) := by decide +kernel
theorem dL_loss_10 : decode cL_loss 10 = .ok (.ldc 16, 2) := by decide +kernel
theorem dL_loss_12 : decode cL_loss 12 = .ok (.ireturn, 1) := by decide +kernel
theorem dL_loss_13 : decode cL_loss 13 = .ok (.astore 4, 2) := by decide +kernel
theorem dL_loss_15 : decode cL_loss 15 = .ok (.ldc 16, 2) := by decide +kernel
theorem dL_loss_17 : decode cL_loss 17 = .ok (.ireturn, 1) := by decide +kernel
theorem dL_creep_0 : decode cL_creep 0 = .ok (.aload_n 0, 1) := by decide +kernel
theorem dL_creep_1 : decode cL_creep 1 = .ok (.iload_n 1, 1) := by decide +kernel
theorem dL_creep_2 : decode cL_creep 2 = .ok (.iload_n 2, 1) := by decide +kernel
theorem dL_creep_3 : decode cL_creep 3 = .ok (.invokevirtual 19, 3) := by decide +kernel
theorem dL_creep_6 : decode cL_creep 6 = .ok (.ireturn, 1) := by decide +kernel
theorem dL_creep_7 : decode cL_creep 7 = .ok (.astore_n 3, 1) := by decide +kernel
theorem dL_creep_8 : decode cL_creep 8 = .ok (.ldc 16, 2) := by decide +kernel
theorem dL_creep_10 : decode cL_creep 10 = .ok (.ireturn, 1) := by decide +kernel
theorem dL_creep_11 : decode cL_creep 11 = .ok (.astore_n 3, 1) := by decide +kernel
theorem dL_creep_12 : decode cL_creep 12 = .ok (.ldc 16, 2) := by decide +kernel
theorem dL_creep_14 : decode cL_creep 14 = .ok (.ireturn, 1) := by decide +kernel
theorem dL_choose_0 : decode cL_choose 0 = .ok (.aload_n 0, 1) := by decide +kernel
theorem dL_choose_1 : decode cL_choose 1 = .ok (.iload_n 1, 1) := by decide +kernel
theorem dL_choose_2 : decode cL_choose 2 = .ok (.iload_n 2, 1) := by decide +kernel
theorem dL_choose_3 : decode cL_choose 3 = .ok (.iload_n 3, 1) := by decide +kernel
theorem dL_choose_4 : decode cL_choose 4 = .ok (.invokevirtual 25, 3) := by decide +kernel
theorem dL_choose_7 : decode cL_choose 7 = .ok (.ireturn, 1) := by decide +kernel
theorem dL_choose_8 : decode cL_choose 8 = .ok (.astore 4, 2) := by decide +kernel
theorem dL_choose_10 : decode cL_choose 10 = .ok (.ldc 16, 2) := by decide +kernel
theorem dL_choose_12 : decode cL_choose 12 = .ok (.ireturn, 1) := by decide +kernel
theorem dL_choose_13 : decode cL_choose 13 = .ok (.astore 4, 2) := by decide +kernel
theorem dL_choose_15 : decode cL_choose 15 = .ok (.ldc 16, 2) := by decide +kernel
theorem dL_choose_17 : decode cL_choose 17 = .ok (.ireturn, 1) := by decide +kernel
theorem dL_unchoose_0 : decode cL_unchoose 0 = .ok (.aload_n 0, 1) := by decide +kernel
theorem dL_unchoose_1 : decode cL_unchoose 1 = .ok (.invokevirtual 28, 3) := by decide +kernel
theorem dL_unchoose_4 : decode cL_unchoose 4 = .ok (.ireturn, 1) := by decide +kernel
theorem dL_unchoose_5 : decode cL_unchoose 5 = .ok (.astore_n 1, 1) := by decide +kernel
theorem dL_unchoose_6 : decode cL_unchoose 6 = .ok (.ldc 16, 2) := by decide +kernel
theorem dL_unchoose_8 : decode cL_unchoose 8 = .ok (.ireturn, 1) := by decide +kernel
theorem dL_quota_0 : decode cL_quota 0 = .ok (.aload_n 0, 1) := by decide +kernel
theorem dL_quota_1 : decode cL_quota 1 = .ok (.iload_n 1, 1) := by decide +kernel
theorem dL_quota_2 : decode cL_quota 2 = .ok (.invokevirtual 32, 3) := by decide +kernel
theorem dL_quota_5 : decode cL_quota 5 = .ok (.ireturn, 1) := by decide +kernel
theorem dL_quota_6 : decode cL_quota 6 = .ok (.astore_n 2, 1) := by decide +kernel
theorem dL_quota_7 : decode cL_quota 7 = .ok (.ldc 16, 2) := by decide +kernel
theorem dL_quota_9 : decode cL_quota 9 = .ok (.ireturn, 1) := by decide +kernel
theorem dL_layer_0 : decode cL_layer 0 = .ok (.aload_n 0, 1) := by decide +kernel
theorem dL_layer_1 : decode cL_layer 1 = .ok (.iload_n 1, 1) := by decide +kernel
theorem dL_layer_2 : decode cL_layer 2 = .ok (.iload_n 2, 1) := by decide +kernel
theorem dL_layer_3 : decode cL_layer 3 = .ok (.iload_n 3, 1) := by decide +kernel
theorem dL_layer_4 : decode cL_layer 4 = .ok (.iload 4, 2) := by decide +kernel
theorem dL_layer_6 : decode cL_layer 6 = .ok (.iload 5, 2) := by decide +kernel
theorem dL_layer_8 : decode cL_layer 8 = .ok (.iload 6, 2) := by decide +kernel
theorem dL_layer_10 : decode cL_layer 10 = .ok (.invokevirtual 36, 3) := by decide +kernel
theorem dL_layer_13 : decode cL_layer 13 = .ok (.ireturn, 1) := by decide +kernel
theorem dL_layer_14 : decode cL_layer 14 = .ok (.astore 7, 2) := by decide +kernel
theorem dL_layer_16 : decode cL_layer 16 = .ok (.ldc 16, 2) := by decide +kernel
theorem dL_layer_18 : decode cL_layer 18 = .ok (.ireturn, 1) := by decide +kernel
theorem dL_layer_19 : decode cL_layer 19 = .ok (.astore 7, 2) := by decide +kernel
theorem dL_layer_21 : decode cL_layer 21 = .ok (.ldc 16, 2) := by decide +kernel
theorem dL_layer_23 : decode cL_layer 23 = .ok (.ireturn, 1) := by decide +kernel
theorem dL_part_0 : decode cL_part 0 = .ok (.aload_n 0, 1) := by decide +kernel
theorem dL_part_1 : decode cL_part 1 = .ok (.iload_n 1, 1) := by decide +kernel
theorem dL_part_2 : decode cL_part 2 = .ok (.iload_n 2, 1) := by decide +kernel
theorem dL_part_3 : decode cL_part 3 = .ok (.iload_n 3, 1) := by decide +kernel
theorem dL_part_4 : decode cL_part 4 = .ok (.invokevirtual 40, 3) := by decide +kernel
theorem dL_part_7 : decode cL_part 7 = .ok (.ireturn, 1) := by decide +kernel
theorem dL_part_8 : decode cL_part 8 = .ok (.astore 4, 2) := by decide +kernel
theorem dL_part_10 : decode cL_part 10 = .ok (.ldc 16, 2) := by decide +kernel
theorem dL_part_12 : decode cL_part 12 = .ok (.ireturn, 1) := by decide +kernel
theorem dL_part_13 : decode cL_part 13 = .ok (.astore 4, 2) := by decide +kernel
theorem dL_part_15 : decode cL_part 15 = .ok (.ldc 16, 2) := by decide +kernel
theorem dL_part_17 : decode cL_part 17 = .ok (.ireturn, 1) := by decide +kernel
theorem dL_part_18 : decode cL_part 18 = .ok (.astore 4, 2) := by decide +kernel
theorem dL_part_20 : decode cL_part 20 = .ok (.ldc 16, 2) := by decide +kernel
theorem dL_part_22 : decode cL_part 22 = .ok (.ireturn, 1) := by decide +kernel
theorem dL_retro_0 : decode cL_retro 0 = .ok (.aload_n 0, 1) := by decide +kernel
theorem dL_retro_1 : decode cL_retro 1 = .ok (.iload_n 1, 1) := by decide +kernel
theorem dL_retro_2 : decode cL_retro 2 = .ok (.iload_n 2, 1) := by decide +kernel
theorem dL_retro_3 : decode cL_retro 3 = .ok (.iload_n 3, 1) := by decide +kernel
theorem dL_retro_4 : decode cL_retro 4 = .ok (.iload 4, 2) := by decide +kernel
theorem dL_retro_6 : decode cL_retro 6 = .ok (.invokevirtual 43, 3) := by decide +kernel
theorem dL_retro_9 : decode cL_retro 9 = .ok (.ireturn, 1) := by decide +kernel
theorem dL_retro_10 : decode cL_retro 10 = .ok (.astore 5, 2) := by decide +kernel
theorem dL_retro_12 : decode cL_retro 12 = .ok (.ldc 16, 2) := by decide +kernel
theorem dL_retro_14 : decode cL_retro 14 = .ok (.ireturn, 1) := by decide +kernel
theorem dL_retro_15 : decode cL_retro 15 = .ok (.astore 5, 2) := by decide +kernel
theorem dL_retro_17 : decode cL_retro 17 = .ok (.ldc 16, 2) := by decide +kernel
theorem dL_retro_19 : decode cL_retro 19 = .ok (.ireturn, 1) := by decide +kernel
theorem dL_station_0 : decode cL_station 0 = .ok (.aload_n 0, 1) := by decide +kernel
theorem dL_station_1 : decode cL_station 1 = .ok (.iload_n 1, 1) := by decide +kernel
theorem dL_station_2 : decode cL_station 2 = .ok (.invokevirtual 47, 3) := by decide +kernel
theorem dL_station_5 : decode cL_station 5 = .ok (.ireturn, 1) := by decide +kernel
theorem dL_station_6 : decode cL_station 6 = .ok (.astore_n 2, 1) := by decide +kernel
theorem dL_station_7 : decode cL_station 7 = .ok (.ldc 16, 2) := by decide +kernel
theorem dL_station_9 : decode cL_station 9 = .ok (.ireturn, 1) := by decide +kernel
theorem dL_station_10 : decode cL_station 10 = .ok (.astore_n 2, 1) := by decide +kernel
theorem dL_station_11 : decode cL_station 11 = .ok (.ldc 16, 2) := by decide +kernel
theorem dL_station_13 : decode cL_station 13 = .ok (.ireturn, 1) := by decide +kernel
theorem dL_reading_0 : decode cL_reading 0 = .ok (.aload_n 0, 1) := by decide +kernel
theorem dL_reading_1 : decode cL_reading 1 = .ok (.iload_n 1, 1) := by decide +kernel
theorem dL_reading_2 : decode cL_reading 2 = .ok (.iload_n 2, 1) := by decide +kernel
theorem dL_reading_3 : decode cL_reading 3 = .ok (.iload_n 3, 1) := by decide +kernel
theorem dL_reading_4 : decode cL_reading 4 = .ok (.iload 4, 2) := by decide +kernel
theorem dL_reading_6 : decode cL_reading 6 = .ok (.invokevirtual 50, 3) := by decide +kernel
theorem dL_reading_9 : decode cL_reading 9 = .ok (.ireturn, 1) := by decide +kernel
theorem dL_reading_10 : decode cL_reading 10 = .ok (.astore 5, 2) := by decide +kernel
theorem dL_reading_12 : decode cL_reading 12 = .ok (.ldc 16, 2) := by decide +kernel
theorem dL_reading_14 : decode cL_reading 14 = .ok (.ireturn, 1) := by decide +kernel
theorem dL_reading_15 : decode cL_reading 15 = .ok (.astore 5, 2) := by decide +kernel
theorem dL_reading_17 : decode cL_reading 17 = .ok (.ldc 16, 2) := by decide +kernel
theorem dL_reading_19 : decode cL_reading 19 = .ok (.ireturn, 1) := by decide +kernel
theorem dL_reading_20 : decode cL_reading 20 = .ok (.astore 5, 2) := by decide +kernel
theorem dL_reading_22 : decode cL_reading 22 = .ok (.ldc 16, 2) := by decide +kernel
theorem dL_reading_24 : decode cL_reading 24 = .ok (.ireturn, 1) := by decide +kernel
theorem dL_fails_0 : decode cL_fails 0 = .ok (.aload_n 0, 1) := by decide +kernel
theorem dL_fails_1 : decode cL_fails 1 = .ok (.iload_n 1, 1) := by decide +kernel
theorem dL_fails_2 : decode cL_fails 2 = .ok (.iload_n 2, 1) := by decide +kernel
theorem dL_fails_3 : decode cL_fails 3 = .ok (.invokevirtual 53, 3) := by decide +kernel
theorem dL_fails_6 : decode cL_fails 6 = .ok (.ireturn, 1) := by decide +kernel
theorem dL_fails_7 : decode cL_fails 7 = .ok (.astore_n 3, 1) := by decide +kernel
theorem dL_fails_8 : decode cL_fails 8 = .ok (.ldc 16, 2) := by decide +kernel
theorem dL_fails_10 : decode cL_fails 10 = .ok (.ireturn, 1) := by decide +kernel
theorem dL_fails_11 : decode cL_fails 11 = .ok (.astore_n 3, 1) := by decide +kernel
theorem dL_fails_12 : decode cL_fails 12 = .ok (.ldc 16, 2) := by decide +kernel
theorem dL_fails_14 : decode cL_fails 14 = .ok (.ireturn, 1) := by decide +kernel
theorem dL_fails_15 : decode cL_fails 15 = .ok (.astore_n 3, 1) := by decide +kernel
theorem dL_fails_16 : decode cL_fails 16 = .ok (.ldc 16, 2) := by decide +kernel
theorem dL_fails_18 : decode cL_fails 18 = .ok (.ireturn, 1) := by decide +kernel
theorem dL_bond_0 : decode cL_bond 0 = .ok (.aload_n 0, 1) := by decide +kernel
theorem dL_bond_1 : decode cL_bond 1 = .ok (.iload_n 1, 1) := by decide +kernel
theorem dL_bond_2 : decode cL_bond 2 = .ok (.iload_n 2, 1) := by decide +kernel
theorem dL_bond_3 : decode cL_bond 3 = .ok (.iload_n 3, 1) := by decide +kernel
theorem dL_bond_4 : decode cL_bond 4 = .ok (.iload 4, 2) := by decide +kernel
theorem dL_bond_6 : decode cL_bond 6 = .ok (.iload 5, 2) := by decide +kernel
theorem dL_bond_8 : decode cL_bond 8 = .ok (.iload 6, 2) := by decide +kernel
theorem dL_bond_10 : decode cL_bond 10 = .ok (.iload 7, 2) := by decide +kernel
theorem dL_bond_12 : decode cL_bond 12 = .ok (.invokevirtual 56, 3) := by decide +kernel
theorem dL_bond_15 : decode cL_bond 15 = .ok (.ireturn, 1) := by decide +kernel
theorem dL_bond_16 : decode cL_bond 16 = .ok (.astore 8, 2) := by decide +kernel
theorem dL_bond_18 : decode cL_bond 18 = .ok (.ldc 16, 2) := by decide +kernel
theorem dL_bond_20 : decode cL_bond 20 = .ok (.ireturn, 1) := by decide +kernel
theorem dL_bond_21 : decode cL_bond 21 = .ok (.astore 8, 2) := by decide +kernel
theorem dL_bond_23 : decode cL_bond 23 = .ok (.ldc 16, 2) := by decide +kernel
theorem dL_bond_25 : decode cL_bond 25 = .ok (.ireturn, 1) := by decide +kernel
theorem dL_extend_0 : decode cL_extend 0 = .ok (.aload_n 0, 1) := by decide +kernel
theorem dL_extend_1 : decode cL_extend 1 = .ok (.iload_n 1, 1) := by decide +kernel
theorem dL_extend_2 : decode cL_extend 2 = .ok (.iload_n 2, 1) := by decide +kernel
theorem dL_extend_3 : decode cL_extend 3 = .ok (.invokevirtual 60, 3) := by decide +kernel
theorem dL_extend_6 : decode cL_extend 6 = .ok (.ireturn, 1) := by decide +kernel
theorem dL_extend_7 : decode cL_extend 7 = .ok (.astore_n 3, 1) := by decide +kernel
theorem dL_extend_8 : decode cL_extend 8 = .ok (.ldc 16, 2) := by decide +kernel
theorem dL_extend_10 : decode cL_extend 10 = .ok (.ireturn, 1) := by decide +kernel
theorem dL_extend_11 : decode cL_extend 11 = .ok (.astore_n 3, 1) := by decide +kernel
theorem dL_extend_12 : decode cL_extend 12 = .ok (.ldc 16, 2) := by decide +kernel
theorem dL_extend_14 : decode cL_extend 14 = .ok (.ireturn, 1) := by decide +kernel
theorem dL_extend_15 : decode cL_extend 15 = .ok (.astore_n 3, 1) := by decide +kernel
theorem dL_extend_16 : decode cL_extend 16 = .ok (.ldc 16, 2) := by decide +kernel
theorem dL_extend_18 : decode cL_extend 18 = .ok (.ireturn, 1) := by decide +kernel
theorem dL_pass_0 : decode cL_pass 0 = .ok (.aload_n 0, 1) := by decide +kernel
theorem dL_pass_1 : decode cL_pass 1 = .ok (.iload_n 1, 1) := by decide +kernel
theorem dL_pass_2 : decode cL_pass 2 = .ok (.invokevirtual 63, 3) := by decide +kernel
theorem dL_pass_5 : decode cL_pass 5 = .ok (.ireturn, 1) := by decide +kernel
theorem dL_pass_6 : decode cL_pass 6 = .ok (.astore_n 2, 1) := by decide +kernel
theorem dL_pass_7 : decode cL_pass 7 = .ok (.ldc 16, 2) := by decide +kernel
theorem dL_pass_9 : decode cL_pass 9 = .ok (.ireturn, 1) := by decide +kernel
theorem dL_pass_10 : decode cL_pass 10 = .ok (.astore_n 2, 1) := by decide +kernel
theorem dL_pass_11 : decode cL_pass 11 = .ok (.ldc 16, 2) := by decide +kernel
theorem dL_pass_13 : decode cL_pass 13 = .ok (.ireturn, 1) := by decide +kernel
theorem dL_scenario_0 : decode cL_scenario 0 = .ok (.aload_n 0, 1) := by decide +kernel
theorem dL_scenario_1 : decode cL_scenario 1 = .ok (.iload_n 1, 1) := by decide +kernel
theorem dL_scenario_2 : decode cL_scenario 2 = .ok (.iload_n 2, 1) := by decide +kernel
theorem dL_scenario_3 : decode cL_scenario 3 = .ok (.iload_n 3, 1) := by decide +kernel
theorem dL_scenario_4 : decode cL_scenario 4 = .ok (.invokevirtual 66, 3) := by decide +kernel
theorem dL_scenario_7 : decode cL_scenario 7 = .ok (.ireturn, 1) := by decide +kernel
theorem dL_scenario_8 : decode cL_scenario 8 = .ok (.astore 4, 2) := by decide +kernel
theorem dL_scenario_10 : decode cL_scenario 10 = .ok (.ldc 16, 2) := by decide +kernel
theorem dL_scenario_12 : decode cL_scenario 12 = .ok (.ireturn, 1) := by decide +kernel
theorem dL_scenario_13 : decode cL_scenario 13 = .ok (.astore 4, 2) := by decide +kernel
theorem dL_scenario_15 : decode cL_scenario 15 = .ok (.ldc 16, 2) := by decide +kernel
theorem dL_scenario_17 : decode cL_scenario 17 = .ok (.ireturn, 1) := by decide +kernel
theorem dL_scenario_18 : decode cL_scenario 18 = .ok (.astore 4, 2) := by decide +kernel
theorem dL_scenario_20 : decode cL_scenario 20 = .ok (.ldc 16, 2) := by decide +kernel
theorem dL_scenario_22 : decode cL_scenario 22 = .ok (.ireturn, 1) := by decide +kernel
theorem dL_occurrence_0 : decode cL_occurrence 0 = .ok (.aload_n 0, 1) := by decide +kernel
theorem dL_occurrence_1 : decode cL_occurrence 1 = .ok (.iload_n 1, 1) := by decide +kernel
theorem dL_occurrence_2 : decode cL_occurrence 2 = .ok (.iload_n 2, 1) := by decide +kernel
theorem dL_occurrence_3 : decode cL_occurrence 3 = .ok (.invokevirtual 69, 3) := by decide +kernel
theorem dL_occurrence_6 : decode cL_occurrence 6 = .ok (.ireturn, 1) := by decide +kernel
theorem dL_occurrence_7 : decode cL_occurrence 7 = .ok (.astore_n 3, 1) := by decide +kernel
theorem dL_occurrence_8 : decode cL_occurrence 8 = .ok (.ldc 16, 2) := by decide +kernel
theorem dL_occurrence_10 : decode cL_occurrence 10 = .ok (.ireturn, 1) := by decide +kernel
theorem dL_occurrence_11 : decode cL_occurrence 11 = .ok (.astore_n 3, 1) := by decide +kernel
theorem dL_occurrence_12 : decode cL_occurrence 12 = .ok (.ldc 16, 2) := by decide +kernel
theorem dL_occurrence_14 : decode cL_occurrence 14 = .ok (.ireturn, 1) := by decide +kernel
theorem dL_hit_0 : decode cL_hit 0 = .ok (.aload_n 0, 1) := by decide +kernel
theorem dL_hit_1 : decode cL_hit 1 = .ok (.iload_n 1, 1) := by decide +kernel
theorem dL_hit_2 : decode cL_hit 2 = .ok (.iload_n 2, 1) := by decide +kernel
theorem dL_hit_3 : decode cL_hit 3 = .ok (.iload_n 3, 1) := by decide +kernel
theorem dL_hit_4 : decode cL_hit 4 = .ok (.invokevirtual 72, 3) := by decide +kernel
theorem dL_hit_7 : decode cL_hit 7 = .ok (.ireturn, 1) := by decide +kernel
theorem dL_hit_8 : decode cL_hit 8 = .ok (.astore 4, 2) := by decide +kernel
theorem dL_hit_10 : decode cL_hit 10 = .ok (.ldc 16, 2) := by decide +kernel
theorem dL_hit_12 : decode cL_hit 12 = .ok (.ireturn, 1) := by decide +kernel
theorem dL_hit_13 : decode cL_hit 13 = .ok (.astore 4, 2) := by decide +kernel
theorem dL_hit_15 : decode cL_hit 15 = .ok (.ldc 16, 2) := by decide +kernel
theorem dL_hit_17 : decode cL_hit 17 = .ok (.ireturn, 1) := by decide +kernel
theorem dL_sum_0 : decode cL_sum 0 = .ok (.aload_n 0, 1) := by decide +kernel
theorem dL_sum_1 : decode cL_sum 1 = .ok (.iload_n 1, 1) := by decide +kernel
theorem dL_sum_2 : decode cL_sum 2 = .ok (.invokevirtual 75, 3) := by decide +kernel
theorem dL_sum_5 : decode cL_sum 5 = .ok (.ireturn, 1) := by decide +kernel
theorem dL_sum_6 : decode cL_sum 6 = .ok (.astore_n 2, 1) := by decide +kernel
theorem dL_sum_7 : decode cL_sum 7 = .ok (.ldc 16, 2) := by decide +kernel
theorem dL_sum_9 : decode cL_sum 9 = .ok (.ireturn, 1) := by decide +kernel
theorem dL_reinsurer_0 : decode cL_reinsurer 0 = .ok (.aload_n 0, 1) := by decide +kernel
theorem dL_reinsurer_1 : decode cL_reinsurer 1 = .ok (.iload_n 1, 1) := by decide +kernel
theorem dL_reinsurer_2 : decode cL_reinsurer 2 = .ok (.iload_n 2, 1) := by decide +kernel
theorem dL_reinsurer_3 : decode cL_reinsurer 3 = .ok (.invokevirtual 78, 3) := by decide +kernel
theorem dL_reinsurer_6 : decode cL_reinsurer 6 = .ok (.ireturn, 1) := by decide +kernel
theorem dL_reinsurer_7 : decode cL_reinsurer 7 = .ok (.astore_n 3, 1) := by decide +kernel
theorem dL_reinsurer_8 : decode cL_reinsurer 8 = .ok (.ldc 16, 2) := by decide +kernel
theorem dL_reinsurer_10 : decode cL_reinsurer 10 = .ok (.ireturn, 1) := by decide +kernel
theorem dL_reinsurer_11 : decode cL_reinsurer 11 = .ok (.astore_n 3, 1) := by decide +kernel
theorem dL_reinsurer_12 : decode cL_reinsurer 12 = .ok (.ldc 16, 2) := by decide +kernel
theorem dL_reinsurer_14 : decode cL_reinsurer 14 = .ok (.ireturn, 1) := by decide +kernel
theorem dL_best_0 : decode cL_best 0 = .ok (.aload_n 0, 1) := by decide +kernel
theorem dL_best_1 : decode cL_best 1 = .ok (.iload_n 1, 1) := by decide +kernel
theorem dL_best_2 : decode cL_best 2 = .ok (.invokevirtual 81, 3) := by decide +kernel
theorem dL_best_5 : decode cL_best 5 = .ok (.ireturn, 1) := by decide +kernel
theorem dL_best_6 : decode cL_best 6 = .ok (.astore_n 2, 1) := by decide +kernel
theorem dL_best_7 : decode cL_best 7 = .ok (.ldc 16, 2) := by decide +kernel
theorem dL_best_9 : decode cL_best 9 = .ok (.ireturn, 1) := by decide +kernel
theorem dL_bestAnew_0 : decode cL_bestAnew 0 = .ok (.aload_n 0, 1) := by decide +kernel
theorem dL_bestAnew_1 : decode cL_bestAnew 1 = .ok (.iload_n 1, 1) := by decide +kernel
theorem dL_bestAnew_2 : decode cL_bestAnew 2 = .ok (.invokevirtual 84, 3) := by decide +kernel
theorem dL_bestAnew_5 : decode cL_bestAnew 5 = .ok (.ireturn, 1) := by decide +kernel
theorem dL_bestAnew_6 : decode cL_bestAnew 6 = .ok (.astore_n 2, 1) := by decide +kernel
theorem dL_bestAnew_7 : decode cL_bestAnew 7 = .ok (.ldc 16, 2) := by decide +kernel
theorem dL_bestAnew_9 : decode cL_bestAnew 9 = .ok (.ireturn, 1) := by decide +kernel
theorem dL_bestAnew_10 : decode cL_bestAnew 10 = .ok (.astore_n 2, 1) := by decide +kernel
theorem dL_bestAnew_11 : decode cL_bestAnew 11 = .ok (.ldc 16, 2) := by decide +kernel
theorem dL_bestAnew_13 : decode cL_bestAnew 13 = .ok (.ireturn, 1) := by decide +kernel
theorem dL_ofBond_0 : decode cL_ofBond 0 = .ok (.aload_n 0, 1) := by decide +kernel
theorem dL_ofBond_1 : decode cL_ofBond 1 = .ok (.iload_n 1, 1) := by decide +kernel
theorem dL_ofBond_2 : decode cL_ofBond 2 = .ok (.iload_n 2, 1) := by decide +kernel
theorem dL_ofBond_3 : decode cL_ofBond 3 = .ok (.invokevirtual 87, 3) := by decide +kernel
theorem dL_ofBond_6 : decode cL_ofBond 6 = .ok (.ireturn, 1) := by decide +kernel
theorem dL_ofBond_7 : decode cL_ofBond 7 = .ok (.astore_n 3, 1) := by decide +kernel
theorem dL_ofBond_8 : decode cL_ofBond 8 = .ok (.ldc 16, 2) := by decide +kernel
theorem dL_ofBond_10 : decode cL_ofBond 10 = .ok (.ireturn, 1) := by decide +kernel
theorem dL_ofBond_11 : decode cL_ofBond 11 = .ok (.astore_n 3, 1) := by decide +kernel
theorem dL_ofBond_12 : decode cL_ofBond 12 = .ok (.ldc 16, 2) := by decide +kernel
theorem dL_ofBond_14 : decode cL_ofBond 14 = .ok (.ireturn, 1) := by decide +kernel
theorem dL_price_0 : decode cL_price 0 = .ok (.aload_n 0, 1) := by decide +kernel
theorem dL_price_1 : decode cL_price 1 = .ok (.iload_n 1, 1) := by decide +kernel
theorem dL_price_2 : decode cL_price 2 = .ok (.iload_n 2, 1) := by decide +kernel
theorem dL_price_3 : decode cL_price 3 = .ok (.invokevirtual 90, 3) := by decide +kernel
theorem dL_price_6 : decode cL_price 6 = .ok (.lreturn, 1) := by decide +kernel
theorem dL_price_7 : decode cL_price 7 = .ok (.astore_n 3, 1) := by decide +kernel
theorem dL_price_8 : decode cL_price 8 = .ok (.ldc2_w 94, 3) := by decide +kernel
theorem dL_price_11 : decode cL_price 11 = .ok (.lreturn, 1) := by decide +kernel
theorem dL_price_12 : decode cL_price 12 = .ok (.astore_n 3, 1) := by decide +kernel
theorem dL_price_13 : decode cL_price 13 = .ok (.ldc2_w 94, 3) := by decide +kernel
theorem dL_price_16 : decode cL_price 16 = .ok (.lreturn, 1) := by decide +kernel
theorem dL_tail_0 : decode cL_tail 0 = .ok (.aload_n 0, 1) := by decide +kernel
theorem dL_tail_1 : decode cL_tail 1 = .ok (.iload_n 1, 1) := by decide +kernel
theorem dL_tail_2 : decode cL_tail 2 = .ok (.iload_n 2, 1) := by decide +kernel
theorem dL_tail_3 : decode cL_tail 3 = .ok (.iload_n 3, 1) := by decide +kernel
theorem dL_tail_4 : decode cL_tail 4 = .ok (.invokevirtual 96, 3) := by decide +kernel
theorem dL_tail_7 : decode cL_tail 7 = .ok (.ireturn, 1) := by decide +kernel
theorem dL_tail_8 : decode cL_tail 8 = .ok (.astore 4, 2) := by decide +kernel
theorem dL_tail_10 : decode cL_tail 10 = .ok (.ldc 16, 2) := by decide +kernel
theorem dL_tail_12 : decode cL_tail 12 = .ok (.ireturn, 1) := by decide +kernel
theorem dL_tail_13 : decode cL_tail 13 = .ok (.astore 4, 2) := by decide +kernel
theorem dL_tail_15 : decode cL_tail 15 = .ok (.ldc 16, 2) := by decide +kernel
theorem dL_tail_17 : decode cL_tail 17 = .ok (.ireturn, 1) := by decide +kernel
theorem dL_tail_18 : decode cL_tail 18 = .ok (.astore 4, 2) := by decide +kernel
theorem dL_tail_20 : decode cL_tail 20 = .ok (.ldc 16, 2) := by decide +kernel
theorem dL_tail_22 : decode cL_tail 22 = .ok (.ireturn, 1) := by decide +kernel
theorem dL_dearest_0 : decode cL_dearest 0 = .ok (.aload_n 0, 1) := by decide +kernel
theorem dL_dearest_1 : decode cL_dearest 1 = .ok (.iload_n 1, 1) := by decide +kernel
theorem dL_dearest_2 : decode cL_dearest 2 = .ok (.iload_n 2, 1) := by decide +kernel
theorem dL_dearest_3 : decode cL_dearest 3 = .ok (.invokevirtual 99, 3) := by decide +kernel
theorem dL_dearest_6 : decode cL_dearest 6 = .ok (.lreturn, 1) := by decide +kernel
theorem dL_dearest_7 : decode cL_dearest 7 = .ok (.astore_n 3, 1) := by decide +kernel
theorem dL_dearest_8 : decode cL_dearest 8 = .ok (.ldc2_w 94, 3) := by decide +kernel
theorem dL_dearest_11 : decode cL_dearest 11 = .ok (.lreturn, 1) := by decide +kernel
theorem dL_act_0 : decode cL_act 0 = .ok (.iload_n 1, 1) := by decide +kernel
theorem dL_act_1 : decode cL_act 1 = .ok (.bipush 26, 2) := by decide +kernel
theorem dL_act_3 : decode cL_act 3 = .ok (.ishr, 1) := by decide +kernel
theorem dL_act_4 : decode cL_act 4 = .ok (.bipush 14, 2) := by decide +kernel
theorem dL_act_6 : decode cL_act 6 = .ok (.invokestatic 103, 3) := by decide +kernel
theorem dL_act_9 : decode cL_act 9 = .ok (.ifCond .ne 7, 3) := by decide +kernel
theorem dL_act_12 : decode cL_act 12 = .ok (.iconst 1, 1) := by decide +kernel
theorem dL_act_13 : decode cL_act 13 = .ok (.goto 4, 3) := by decide +kernel
theorem dL_act_16 : decode cL_act 16 = .ok (.iconst 0, 1) := by decide +kernel
theorem dL_act_17 : decode cL_act 17 = .ok (.istore_n 2, 1) := by decide +kernel
theorem dL_act_18 : decode cL_act 18 = .ok (.iload_n 2, 1) := by decide +kernel
theorem dL_act_19 : decode cL_act 19 = .ok (.ifCond .eq 16, 3) := by decide +kernel
theorem dL_act_22 : decode cL_act 22 = .ok (.iload_n 1, 1) := by decide +kernel
theorem dL_act_23 : decode cL_act 23 = .ok (.iconst 4, 1) := by decide +kernel
theorem dL_act_24 : decode cL_act 24 = .ok (.ishr, 1) := by decide +kernel
theorem dL_act_25 : decode cL_act 25 = .ok (.bipush 6, 2) := by decide +kernel
theorem dL_act_27 : decode cL_act 27 = .ok (.invokestatic 103, 3) := by decide +kernel
theorem dL_act_30 : decode cL_act 30 = .ok (.iconst 1, 1) := by decide +kernel
theorem dL_act_31 : decode cL_act 31 = .ok (.isub, 1) := by decide +kernel
theorem dL_act_32 : decode cL_act 32 = .ok (.goto 10, 3) := by decide +kernel
theorem dL_act_35 : decode cL_act 35 = .ok (.iload_n 1, 1) := by decide +kernel
theorem dL_act_36 : decode cL_act 36 = .ok (.iconst 4, 1) := by decide +kernel
theorem dL_act_37 : decode cL_act 37 = .ok (.ishr, 1) := by decide +kernel
theorem dL_act_38 : decode cL_act 38 = .ok (.iconst 3, 1) := by decide +kernel
theorem dL_act_39 : decode cL_act 39 = .ok (.invokestatic 103, 3) := by decide +kernel
theorem dL_act_42 : decode cL_act 42 = .ok (.istore_n 3, 1) := by decide +kernel
theorem dL_act_43 : decode cL_act 43 = .ok (.iload_n 2, 1) := by decide +kernel
theorem dL_act_44 : decode cL_act 44 = .ok (.ifCond .eq 10, 3) := by decide +kernel
theorem dL_act_47 : decode cL_act 47 = .ok (.iload_n 1, 1) := by decide +kernel
theorem dL_act_48 : decode cL_act 48 = .ok (.bipush 6, 2) := by decide +kernel
theorem dL_act_50 : decode cL_act 50 = .ok (.ishr, 1) := by decide +kernel
theorem dL_act_51 : decode cL_act 51 = .ok (.goto 25, 3) := by decide +kernel
theorem dL_act_54 : decode cL_act 54 = .ok (.bipush 40, 2) := by decide +kernel
theorem dL_act_56 : decode cL_act 56 = .ok (.iload_n 1, 1) := by decide +kernel
theorem dL_act_57 : decode cL_act 57 = .ok (.bipush 6, 2) := by decide +kernel
theorem dL_act_59 : decode cL_act 59 = .ok (.ishr, 1) := by decide +kernel
theorem dL_act_60 : decode cL_act 60 = .ok (.bipush 12, 2) := by decide +kernel
theorem dL_act_62 : decode cL_act 62 = .ok (.invokestatic 103, 3) := by decide +kernel
theorem dL_act_65 : decode cL_act 65 = .ok (.imul, 1) := by decide +kernel
theorem dL_act_66 : decode cL_act 66 = .ok (.iload_n 1, 1) := by decide +kernel
theorem dL_act_67 : decode cL_act 67 = .ok (.bipush 9, 2) := by decide +kernel
theorem dL_act_69 : decode cL_act 69 = .ok (.ishr, 1) := by decide +kernel
theorem dL_act_70 : decode cL_act 70 = .ok (.bipush 40, 2) := by decide +kernel
theorem dL_act_72 : decode cL_act 72 = .ok (.invokestatic 103, 3) := by decide +kernel
theorem dL_act_75 : decode cL_act 75 = .ok (.iadd, 1) := by decide +kernel
theorem dL_act_76 : decode cL_act 76 = .ok (.istore 4, 2) := by decide +kernel
theorem dL_act_78 : decode cL_act 78 = .ok (.iload_n 2, 1) := by decide +kernel
theorem dL_act_79 : decode cL_act 79 = .ok (.ifCond .eq 17, 3) := by decide +kernel
theorem dL_act_82 : decode cL_act 82 = .ok (.iload_n 1, 1) := by decide +kernel
theorem dL_act_83 : decode cL_act 83 = .ok (.bipush 7, 2) := by decide +kernel
theorem dL_act_85 : decode cL_act 85 = .ok (.ishr, 1) := by decide +kernel
theorem dL_act_86 : decode cL_act 86 = .ok (.bipush 8, 2) := by decide +kernel
theorem dL_act_88 : decode cL_act 88 = .ok (.invokestatic 103, 3) := by decide +kernel
theorem dL_act_91 : decode cL_act 91 = .ok (.iconst 1, 1) := by decide +kernel
theorem dL_act_92 : decode cL_act 92 = .ok (.isub, 1) := by decide +kernel
theorem dL_act_93 : decode cL_act 93 = .ok (.goto 11, 3) := by decide +kernel
theorem dL_act_96 : decode cL_act 96 = .ok (.iload_n 1, 1) := by decide +kernel
theorem dL_act_97 : decode cL_act 97 = .ok (.bipush 7, 2) := by decide +kernel
theorem dL_act_99 : decode cL_act 99 = .ok (.ishr, 1) := by decide +kernel
theorem dL_act_100 : decode cL_act 100 = .ok (.iconst 3, 1) := by decide +kernel
theorem dL_act_101 : decode cL_act 101 = .ok (.invokestatic 103, 3) := by decide +kernel
theorem dL_act_104 : decode cL_act 104 = .ok (.istore 5, 2) := by decide +kernel
theorem dL_act_106 : decode cL_act 106 = .ok (.iload_n 2, 1) := by decide +kernel
theorem dL_act_107 : decode cL_act 107 = .ok (.ifCond .eq 17, 3) := by decide +kernel
theorem dL_act_110 : decode cL_act 110 = .ok (.iload_n 1, 1) := by decide +kernel
theorem dL_act_111 : decode cL_act 111 = .ok (.bipush 10, 2) := by decide +kernel
theorem dL_act_113 : decode cL_act 113 = .ok (.ishr, 1) := by decide +kernel
theorem dL_act_114 : decode cL_act 114 = .ok (.bipush 9, 2) := by decide +kernel
theorem dL_act_116 : decode cL_act 116 = .ok (.invokestatic 103, 3) := by decide +kernel
theorem dL_act_119 : decode cL_act 119 = .ok (.iconst 1, 1) := by decide +kernel
theorem dL_act_120 : decode cL_act 120 = .ok (.isub, 1) := by decide +kernel
theorem dL_act_121 : decode cL_act 121 = .ok (.goto 11, 3) := by decide +kernel
theorem dL_act_124 : decode cL_act 124 = .ok (.iload_n 1, 1) := by decide +kernel
theorem dL_act_125 : decode cL_act 125 = .ok (.bipush 10, 2) := by decide +kernel
theorem dL_act_127 : decode cL_act 127 = .ok (.ishr, 1) := by decide +kernel
theorem dL_act_128 : decode cL_act 128 = .ok (.iconst 4, 1) := by decide +kernel
theorem dL_act_129 : decode cL_act 129 = .ok (.invokestatic 103, 3) := by decide +kernel
theorem dL_act_132 : decode cL_act 132 = .ok (.istore 6, 2) := by decide +kernel
theorem dL_act_134 : decode cL_act 134 = .ok (.iload_n 2, 1) := by decide +kernel
theorem dL_act_135 : decode cL_act 135 = .ok (.ifCond .eq 17, 3) := by decide +kernel
theorem dL_act_138 : decode cL_act 138 = .ok (.iload_n 1, 1) := by decide +kernel
theorem dL_act_139 : decode cL_act 139 = .ok (.bipush 13, 2) := by decide +kernel
theorem dL_act_141 : decode cL_act 141 = .ok (.ishr, 1) := by decide +kernel
theorem dL_act_142 : decode cL_act 142 = .ok (.bipush 9, 2) := by decide +kernel
theorem dL_act_144 : decode cL_act 144 = .ok (.invokestatic 103, 3) := by decide +kernel
theorem dL_act_147 : decode cL_act 147 = .ok (.iconst 1, 1) := by decide +kernel
theorem dL_act_148 : decode cL_act 148 = .ok (.isub, 1) := by decide +kernel
theorem dL_act_149 : decode cL_act 149 = .ok (.goto 11, 3) := by decide +kernel
theorem dL_act_152 : decode cL_act 152 = .ok (.iload_n 1, 1) := by decide +kernel
theorem dL_act_153 : decode cL_act 153 = .ok (.bipush 13, 2) := by decide +kernel
theorem dL_act_155 : decode cL_act 155 = .ok (.ishr, 1) := by decide +kernel
theorem dL_act_156 : decode cL_act 156 = .ok (.iconst 5, 1) := by decide +kernel
theorem dL_act_157 : decode cL_act 157 = .ok (.invokestatic 103, 3) := by decide +kernel
theorem dL_act_160 : decode cL_act 160 = .ok (.istore 7, 2) := by decide +kernel
theorem dL_act_162 : decode cL_act 162 = .ok (.iload_n 2, 1) := by decide +kernel
theorem dL_act_163 : decode cL_act 163 = .ok (.ifCond .eq 9, 3) := by decide +kernel
theorem dL_act_166 : decode cL_act 166 = .ok (.iload_n 1, 1) := by decide +kernel
theorem dL_act_167 : decode cL_act 167 = .ok (.iconst 5, 1) := by decide +kernel
theorem dL_act_168 : decode cL_act 168 = .ok (.ishr, 1) := by decide +kernel
theorem dL_act_169 : decode cL_act 169 = .ok (.goto 12, 3) := by decide +kernel
theorem dL_act_172 : decode cL_act 172 = .ok (.iload_n 1, 1) := by decide +kernel
theorem dL_act_173 : decode cL_act 173 = .ok (.iconst 5, 1) := by decide +kernel
theorem dL_act_174 : decode cL_act 174 = .ok (.ishr, 1) := by decide +kernel
theorem dL_act_175 : decode cL_act 175 = .ok (.sipush 4000, 3) := by decide +kernel
theorem dL_act_178 : decode cL_act 178 = .ok (.invokestatic 103, 3) := by decide +kernel
theorem dL_act_181 : decode cL_act 181 = .ok (.istore 8, 2) := by decide +kernel
theorem dL_act_183 : decode cL_act 183 = .ok (.iload_n 2, 1) := by decide +kernel
theorem dL_act_184 : decode cL_act 184 = .ok (.ifCond .eq 17, 3) := by decide +kernel
theorem dL_act_187 : decode cL_act 187 = .ok (.iload_n 1, 1) := by decide +kernel
theorem dL_act_188 : decode cL_act 188 = .ok (.bipush 12, 2) := by decide +kernel
theorem dL_act_190 : decode cL_act 190 = .ok (.ishr, 1) := by decide +kernel
theorem dL_act_191 : decode cL_act 191 = .ok (.bipush 14, 2) := by decide +kernel
theorem dL_act_193 : decode cL_act 193 = .ok (.invokestatic 103, 3) := by decide +kernel
theorem dL_act_196 : decode cL_act 196 = .ok (.iconst 2, 1) := by decide +kernel
theorem dL_act_197 : decode cL_act 197 = .ok (.isub, 1) := by decide +kernel
theorem dL_act_198 : decode cL_act 198 = .ok (.goto 11, 3) := by decide +kernel
theorem dL_act_201 : decode cL_act 201 = .ok (.iload_n 1, 1) := by decide +kernel
theorem dL_act_202 : decode cL_act 202 = .ok (.bipush 12, 2) := by decide +kernel
theorem dL_act_204 : decode cL_act 204 = .ok (.ishr, 1) := by decide +kernel
theorem dL_act_205 : decode cL_act 205 = .ok (.iconst 4, 1) := by decide +kernel
theorem dL_act_206 : decode cL_act 206 = .ok (.invokestatic 103, 3) := by decide +kernel
theorem dL_act_209 : decode cL_act 209 = .ok (.istore 9, 2) := by decide +kernel
theorem dL_act_211 : decode cL_act 211 = .ok (.iload_n 1, 1) := by decide +kernel
theorem dL_act_212 : decode cL_act 212 = .ok (.bipush 56, 2) := by decide +kernel
theorem dL_act_214 : decode cL_act 214 = .ok (.invokestatic 103, 3) := by decide +kernel
theorem dL_act_217 : decode cL_act 217 = .ok (.tableswitch 1046 0 54 #[235, 235, 235, 235, 235, 235, 235, 246, 281, 281, 281, 281, 281, 310, 353, 353, 353, 457, 457, 457, 457, 484, 484, 484, 531, 531, 555, 555, 555, 555, 583, 593, 593, 686, 713, 738, 738, 738, 797, 797, 822, 822, 848, 848, 848, 871, 871, 911, 917, 924, 950, 950, 975, 981, 1004], 235) := by decide +kernel
theorem dL_act_452 : decode cL_act 452 = .ok (.aload_n 0, 1) := by decide +kernel
theorem dL_act_453 : decode cL_act 453 = .ok (.iload_n 3, 1) := by decide +kernel
theorem dL_act_454 : decode cL_act 454 = .ok (.iload 4, 2) := by decide +kernel
theorem dL_act_456 : decode cL_act 456 = .ok (.iload 8, 2) := by decide +kernel
theorem dL_act_458 : decode cL_act 458 = .ok (.invokestatic 108, 3) := by decide +kernel
theorem dL_act_461 : decode cL_act 461 = .ok (.i2l, 1) := by decide +kernel
theorem dL_act_462 : decode cL_act 462 = .ok (.lreturn, 1) := by decide +kernel
theorem dL_act_463 : decode cL_act 463 = .ok (.aload_n 0, 1) := by decide +kernel
theorem dL_act_464 : decode cL_act 464 = .ok (.iload_n 2, 1) := by decide +kernel
theorem dL_act_465 : decode cL_act 465 = .ok (.ifCond .eq 8, 3) := by decide +kernel
theorem dL_act_468 : decode cL_act 468 = .ok (.iload 8, 2) := by decide +kernel
theorem dL_act_470 : decode cL_act 470 = .ok (.goto 5, 3) := by decide +kernel
theorem dL_act_473 : decode cL_act 473 = .ok (.iload 6, 2) := by decide +kernel
theorem dL_act_475 : decode cL_act 475 = .ok (.iload_n 2, 1) := by decide +kernel
theorem dL_act_476 : decode cL_act 476 = .ok (.ifCond .eq 7, 3) := by decide +kernel
theorem dL_act_479 : decode cL_act 479 = .ok (.iload_n 1, 1) := by decide +kernel
theorem dL_act_480 : decode cL_act 480 = .ok (.goto 13, 3) := by decide +kernel
theorem dL_act_483 : decode cL_act 483 = .ok (.iload_n 1, 1) := by decide +kernel
theorem dL_act_484 : decode cL_act 484 = .ok (.bipush 9, 2) := by decide +kernel
theorem dL_act_486 : decode cL_act 486 = .ok (.ishr, 1) := by decide +kernel
theorem dL_act_487 : decode cL_act 487 = .ok (.sipush 9000, 3) := by decide +kernel
theorem dL_act_490 : decode cL_act 490 = .ok (.invokestatic 103, 3) := by decide +kernel
theorem dL_act_493 : decode cL_act 493 = .ok (.invokestatic 111, 3) := by decide +kernel
theorem dL_act_496 : decode cL_act 496 = .ok (.i2l, 1) := by decide +kernel
theorem dL_act_497 : decode cL_act 497 = .ok (.lreturn, 1) := by decide +kernel
theorem dL_act_498 : decode cL_act 498 = .ok (.aload_n 0, 1) := by decide +kernel
theorem dL_act_499 : decode cL_act 499 = .ok (.iload_n 3, 1) := by decide +kernel
theorem dL_act_500 : decode cL_act 500 = .ok (.iload 4, 2) := by decide +kernel
theorem dL_act_502 : decode cL_act 502 = .ok (.iload 4, 2) := by decide +kernel
theorem dL_act_504 : decode cL_act 504 = .ok (.iload_n 2, 1) := by decide +kernel
theorem dL_act_505 : decode cL_act 505 = .ok (.ifCond .eq 8, 3) := by decide +kernel
theorem dL_act_508 : decode cL_act 508 = .ok (.iload 9, 2) := by decide +kernel
theorem dL_act_510 : decode cL_act 510 = .ok (.goto 11, 3) := by decide +kernel
theorem dL_act_513 : decode cL_act 513 = .ok (.iload_n 1, 1) := by decide +kernel
theorem dL_act_514 : decode cL_act 514 = .ok (.iconst 3, 1) := by decide +kernel
theorem dL_act_515 : decode cL_act 515 = .ok (.ishr, 1) := by decide +kernel
theorem dL_act_516 : decode cL_act 516 = .ok (.bipush 73, 2) := by decide +kernel
theorem dL_act_518 : decode cL_act 518 = .ok (.invokestatic 103, 3) := by decide +kernel
theorem dL_act_521 : decode cL_act 521 = .ok (.iadd, 1) := by decide +kernel
theorem dL_act_522 : decode cL_act 522 = .ok (.invokestatic 114, 3) := by decide +kernel
theorem dL_act_525 : decode cL_act 525 = .ok (.i2l, 1) := by decide +kernel
theorem dL_act_526 : decode cL_act 526 = .ok (.lreturn, 1) := by decide +kernel
theorem dL_act_527 : decode cL_act 527 = .ok (.iload_n 1, 1) := by decide +kernel
theorem dL_act_528 : decode cL_act 528 = .ok (.bipush 9, 2) := by decide +kernel
theorem dL_act_530 : decode cL_act 530 = .ok (.ishr, 1) := by decide +kernel
theorem dL_act_531 : decode cL_act 531 = .ok (.iconst 2, 1) := by decide +kernel
theorem dL_act_532 : decode cL_act 532 = .ok (.invokestatic 103, 3) := by decide +kernel
theorem dL_act_535 : decode cL_act 535 = .ok (.ifCond .ne 11, 3) := by decide +kernel
theorem dL_act_538 : decode cL_act 538 = .ok (.aload_n 0, 1) := by decide +kernel
theorem dL_act_539 : decode cL_act 539 = .ok (.invokestatic 116, 3) := by decide +kernel
theorem dL_act_542 : decode cL_act 542 = .ok (.i2l, 1) := by decide +kernel
theorem dL_act_543 : decode cL_act 543 = .ok (.goto 26, 3) := by decide +kernel
theorem dL_act_546 : decode cL_act 546 = .ok (.aload_n 0, 1) := by decide +kernel
theorem dL_act_547 : decode cL_act 547 = .ok (.iload_n 2, 1) := by decide +kernel
theorem dL_act_548 : decode cL_act 548 = .ok (.ifCond .eq 8, 3) := by decide +kernel
theorem dL_act_551 : decode cL_act 551 = .ok (.iload 8, 2) := by decide +kernel
theorem dL_act_553 : decode cL_act 553 = .ok (.goto 12, 3) := by decide +kernel
theorem dL_act_556 : decode cL_act 556 = .ok (.iload_n 1, 1) := by decide +kernel
theorem dL_act_557 : decode cL_act 557 = .ok (.bipush 9, 2) := by decide +kernel
theorem dL_act_559 : decode cL_act 559 = .ok (.ishr, 1) := by decide +kernel
theorem dL_act_560 : decode cL_act 560 = .ok (.bipush 91, 2) := by decide +kernel
theorem dL_act_562 : decode cL_act 562 = .ok (.invokestatic 103, 3) := by decide +kernel
theorem dL_act_565 : decode cL_act 565 = .ok (.invokestatic 119, 3) := by decide +kernel
theorem dL_act_568 : decode cL_act 568 = .ok (.i2l, 1) := by decide +kernel
theorem dL_act_569 : decode cL_act 569 = .ok (.lreturn, 1) := by decide +kernel
theorem dL_act_570 : decode cL_act 570 = .ok (.aload_n 0, 1) := by decide +kernel
theorem dL_act_571 : decode cL_act 571 = .ok (.iload_n 2, 1) := by decide +kernel
theorem dL_act_572 : decode cL_act 572 = .ok (.ifCond .eq 7, 3) := by decide +kernel
theorem dL_act_575 : decode cL_act 575 = .ok (.iload_n 1, 1) := by decide +kernel
theorem dL_act_576 : decode cL_act 576 = .ok (.goto 12, 3) := by decide +kernel
theorem dL_act_579 : decode cL_act 579 = .ok (.iload_n 1, 1) := by decide +kernel
theorem dL_act_580 : decode cL_act 580 = .ok (.iconst 5, 1) := by decide +kernel
theorem dL_act_581 : decode cL_act 581 = .ok (.ishr, 1) := by decide +kernel
theorem dL_act_582 : decode cL_act 582 = .ok (.sipush 3000, 3) := by decide +kernel
theorem dL_act_585 : decode cL_act 585 = .ok (.invokestatic 103, 3) := by decide +kernel
theorem dL_act_588 : decode cL_act 588 = .ok (.iload_n 2, 1) := by decide +kernel
theorem dL_act_589 : decode cL_act 589 = .ok (.ifCond .eq 9, 3) := by decide +kernel
theorem dL_act_592 : decode cL_act 592 = .ok (.iload_n 1, 1) := by decide +kernel
theorem dL_act_593 : decode cL_act 593 = .ok (.iconst 3, 1) := by decide +kernel
theorem dL_act_594 : decode cL_act 594 = .ok (.ishr, 1) := by decide +kernel
theorem dL_act_595 : decode cL_act 595 = .ok (.goto 15, 3) := by decide +kernel
theorem dL_act_598 : decode cL_act 598 = .ok (.iconst 1, 1) := by decide +kernel
theorem dL_act_599 : decode cL_act 599 = .ok (.iload_n 1, 1) := by decide +kernel
theorem dL_act_600 : decode cL_act 600 = .ok (.bipush 8, 2) := by decide +kernel
theorem dL_act_602 : decode cL_act 602 = .ok (.ishr, 1) := by decide +kernel
theorem dL_act_603 : decode cL_act 603 = .ok (.sipush 3000, 3) := by decide +kernel
theorem dL_act_606 : decode cL_act 606 = .ok (.invokestatic 103, 3) := by decide +kernel
theorem dL_act_609 : decode cL_act 609 = .ok (.iadd, 1) := by decide +kernel
theorem dL_act_610 : decode cL_act 610 = .ok (.iload_n 2, 1) := by decide +kernel
theorem dL_act_611 : decode cL_act 611 = .ok (.ifCond .eq 8, 3) := by decide +kernel
theorem dL_act_614 : decode cL_act 614 = .ok (.iload 8, 2) := by decide +kernel
theorem dL_act_616 : decode cL_act 616 = .ok (.goto 13, 3) := by decide +kernel
theorem dL_act_619 : decode cL_act 619 = .ok (.iconst 1, 1) := by decide +kernel
theorem dL_act_620 : decode cL_act 620 = .ok (.iload_n 1, 1) := by decide +kernel
theorem dL_act_621 : decode cL_act 621 = .ok (.iconst 3, 1) := by decide +kernel
theorem dL_act_622 : decode cL_act 622 = .ok (.ishr, 1) := by decide +kernel
theorem dL_act_623 : decode cL_act 623 = .ok (.bipush 100, 2) := by decide +kernel
theorem dL_act_625 : decode cL_act 625 = .ok (.invokestatic 103, 3) := by decide +kernel
theorem dL_act_628 : decode cL_act 628 = .ok (.iadd, 1) := by decide +kernel
theorem dL_act_629 : decode cL_act 629 = .ok (.iload 9, 2) := by decide +kernel
theorem dL_act_631 : decode cL_act 631 = .ok (.iload_n 2, 1) := by decide +kernel
theorem dL_act_632 : decode cL_act 632 = .ok (.ifCond .eq 8, 3) := by decide +kernel
theorem dL_act_635 : decode cL_act 635 = .ok (.iload 8, 2) := by decide +kernel
theorem dL_act_637 : decode cL_act 637 = .ok (.goto 13, 3) := by decide +kernel
theorem dL_act_640 : decode cL_act 640 = .ok (.iload_n 1, 1) := by decide +kernel
theorem dL_act_641 : decode cL_act 641 = .ok (.bipush 6, 2) := by decide +kernel
theorem dL_act_643 : decode cL_act 643 = .ok (.ishr, 1) := by decide +kernel
theorem dL_act_644 : decode cL_act 644 = .ok (.sipush 2000, 3) := by decide +kernel
theorem dL_act_647 : decode cL_act 647 = .ok (.invokestatic 103, 3) := by decide +kernel
theorem dL_act_650 : decode cL_act 650 = .ok (.iload_n 2, 1) := by decide +kernel
theorem dL_act_651 : decode cL_act 651 = .ok (.ifCond .eq 8, 3) := by decide +kernel
theorem dL_act_654 : decode cL_act 654 = .ok (.iload 8, 2) := by decide +kernel
theorem dL_act_656 : decode cL_act 656 = .ok (.goto 13, 3) := by decide +kernel
theorem dL_act_659 : decode cL_act 659 = .ok (.iload_n 1, 1) := by decide +kernel
theorem dL_act_660 : decode cL_act 660 = .ok (.bipush 11, 2) := by decide +kernel
theorem dL_act_662 : decode cL_act 662 = .ok (.ishr, 1) := by decide +kernel
theorem dL_act_663 : decode cL_act 663 = .ok (.sipush 151, 3) := by decide +kernel
theorem dL_act_666 : decode cL_act 666 = .ok (.invokestatic 103, 3) := by decide +kernel
theorem dL_act_669 : decode cL_act 669 = .ok (.invokestatic 122, 3) := by decide +kernel
theorem dL_act_672 : decode cL_act 672 = .ok (.i2l, 1) := by decide +kernel
theorem dL_act_673 : decode cL_act 673 = .ok (.lreturn, 1) := by decide +kernel
theorem dL_act_674 : decode cL_act 674 = .ok (.aload_n 0, 1) := by decide +kernel
theorem dL_act_675 : decode cL_act 675 = .ok (.iload 5, 2) := by decide +kernel
theorem dL_act_677 : decode cL_act 677 = .ok (.iload 6, 2) := by decide +kernel
theorem dL_act_679 : decode cL_act 679 = .ok (.iload_n 2, 1) := by decide +kernel
theorem dL_act_680 : decode cL_act 680 = .ok (.ifCond .eq 8, 3) := by decide +kernel
theorem dL_act_683 : decode cL_act 683 = .ok (.iload 8, 2) := by decide +kernel
theorem dL_act_685 : decode cL_act 685 = .ok (.goto 11, 3) := by decide +kernel
theorem dL_act_688 : decode cL_act 688 = .ok (.iload_n 1, 1) := by decide +kernel
theorem dL_act_689 : decode cL_act 689 = .ok (.iconst 3, 1) := by decide +kernel
theorem dL_act_690 : decode cL_act 690 = .ok (.ishr, 1) := by decide +kernel
theorem dL_act_691 : decode cL_act 691 = .ok (.bipush 60, 2) := by decide +kernel
theorem dL_act_693 : decode cL_act 693 = .ok (.invokestatic 103, 3) := by decide +kernel
theorem dL_act_696 : decode cL_act 696 = .ok (.invokestatic 125, 3) := by decide +kernel
theorem dL_act_699 : decode cL_act 699 = .ok (.i2l, 1) := by decide +kernel
theorem dL_act_700 : decode cL_act 700 = .ok (.lreturn, 1) := by decide +kernel
theorem dL_act_701 : decode cL_act 701 = .ok (.aload_n 0, 1) := by decide +kernel
theorem dL_act_702 : decode cL_act 702 = .ok (.iload 6, 2) := by decide +kernel
theorem dL_act_704 : decode cL_act 704 = .ok (.iload 7, 2) := by decide +kernel
theorem dL_act_706 : decode cL_act 706 = .ok (.iload_n 2, 1) := by decide +kernel
theorem dL_act_707 : decode cL_act 707 = .ok (.ifCond .eq 7, 3) := by decide +kernel
theorem dL_act_710 : decode cL_act 710 = .ok (.iload_n 1, 1) := by decide +kernel
theorem dL_act_711 : decode cL_act 711 = .ok (.goto 12, 3) := by decide +kernel
theorem dL_act_714 : decode cL_act 714 = .ok (.iload_n 1, 1) := by decide +kernel
theorem dL_act_715 : decode cL_act 715 = .ok (.iconst 5, 1) := by decide +kernel
theorem dL_act_716 : decode cL_act 716 = .ok (.ishr, 1) := by decide +kernel
theorem dL_act_717 : decode cL_act 717 = .ok (.sipush 300, 3) := by decide +kernel
theorem dL_act_720 : decode cL_act 720 = .ok (.invokestatic 103, 3) := by decide +kernel
theorem dL_act_723 : decode cL_act 723 = .ok (.iload_n 2, 1) := by decide +kernel
theorem dL_act_724 : decode cL_act 724 = .ok (.ifCond .eq 9, 3) := by decide +kernel
theorem dL_act_727 : decode cL_act 727 = .ok (.iload_n 1, 1) := by decide +kernel
theorem dL_act_728 : decode cL_act 728 = .ok (.iconst 3, 1) := by decide +kernel
theorem dL_act_729 : decode cL_act 729 = .ok (.ishr, 1) := by decide +kernel
theorem dL_act_730 : decode cL_act 730 = .ok (.goto 13, 3) := by decide +kernel
theorem dL_act_733 : decode cL_act 733 = .ok (.iload_n 1, 1) := by decide +kernel
theorem dL_act_734 : decode cL_act 734 = .ok (.bipush 8, 2) := by decide +kernel
theorem dL_act_736 : decode cL_act 736 = .ok (.ishr, 1) := by decide +kernel
theorem dL_act_737 : decode cL_act 737 = .ok (.sipush 900, 3) := by decide +kernel
theorem dL_act_740 : decode cL_act 740 = .ok (.invokestatic 103, 3) := by decide +kernel
theorem dL_act_743 : decode cL_act 743 = .ok (.invokestatic 127, 3) := by decide +kernel
theorem dL_act_746 : decode cL_act 746 = .ok (.i2l, 1) := by decide +kernel
theorem dL_act_747 : decode cL_act 747 = .ok (.lreturn, 1) := by decide +kernel
theorem dL_act_748 : decode cL_act 748 = .ok (.aload_n 0, 1) := by decide +kernel
theorem dL_act_749 : decode cL_act 749 = .ok (.iload_n 2, 1) := by decide +kernel
theorem dL_act_750 : decode cL_act 750 = .ok (.ifCond .eq 8, 3) := by decide +kernel
theorem dL_act_753 : decode cL_act 753 = .ok (.iload 8, 2) := by decide +kernel
theorem dL_act_755 : decode cL_act 755 = .ok (.goto 12, 3) := by decide +kernel
theorem dL_act_758 : decode cL_act 758 = .ok (.iload_n 1, 1) := by decide +kernel
theorem dL_act_759 : decode cL_act 759 = .ok (.bipush 9, 2) := by decide +kernel
theorem dL_act_761 : decode cL_act 761 = .ok (.ishr, 1) := by decide +kernel
theorem dL_act_762 : decode cL_act 762 = .ok (.bipush 16, 2) := by decide +kernel
theorem dL_act_764 : decode cL_act 764 = .ok (.invokestatic 103, 3) := by decide +kernel
theorem dL_act_767 : decode cL_act 767 = .ok (.invokestatic 130, 3) := by decide +kernel
theorem dL_act_770 : decode cL_act 770 = .ok (.i2l, 1) := by decide +kernel
theorem dL_act_771 : decode cL_act 771 = .ok (.lreturn, 1) := by decide +kernel
theorem dL_act_772 : decode cL_act 772 = .ok (.aload_n 0, 1) := by decide +kernel
theorem dL_act_773 : decode cL_act 773 = .ok (.iload 6, 2) := by decide +kernel
theorem dL_act_775 : decode cL_act 775 = .ok (.iload 4, 2) := by decide +kernel
theorem dL_act_777 : decode cL_act 777 = .ok (.iload_n 3, 1) := by decide +kernel
theorem dL_act_778 : decode cL_act 778 = .ok (.iload_n 2, 1) := by decide +kernel
theorem dL_act_779 : decode cL_act 779 = .ok (.ifCond .eq 8, 3) := by decide +kernel
theorem dL_act_782 : decode cL_act 782 = .ok (.iload 8, 2) := by decide +kernel
theorem dL_act_784 : decode cL_act 784 = .ok (.goto 11, 3) := by decide +kernel
theorem dL_act_787 : decode cL_act 787 = .ok (.iload_n 1, 1) := by decide +kernel
theorem dL_act_788 : decode cL_act 788 = .ok (.iconst 3, 1) := by decide +kernel
theorem dL_act_789 : decode cL_act 789 = .ok (.ishr, 1) := by decide +kernel
theorem dL_act_790 : decode cL_act 790 = .ok (.bipush 10, 2) := by decide +kernel
theorem dL_act_792 : decode cL_act 792 = .ok (.invokestatic 103, 3) := by decide +kernel
theorem dL_act_795 : decode cL_act 795 = .ok (.invokestatic 132, 3) := by decide +kernel
theorem dL_act_798 : decode cL_act 798 = .ok (.i2l, 1) := by decide +kernel
theorem dL_act_799 : decode cL_act 799 = .ok (.lreturn, 1) := by decide +kernel
theorem dL_act_800 : decode cL_act 800 = .ok (.aload_n 0, 1) := by decide +kernel
theorem dL_act_801 : decode cL_act 801 = .ok (.iload 6, 2) := by decide +kernel
theorem dL_act_803 : decode cL_act 803 = .ok (.iload 4, 2) := by decide +kernel
theorem dL_act_805 : decode cL_act 805 = .ok (.invokestatic 134, 3) := by decide +kernel
theorem dL_act_808 : decode cL_act 808 = .ok (.i2l, 1) := by decide +kernel
theorem dL_act_809 : decode cL_act 809 = .ok (.lreturn, 1) := by decide +kernel
theorem dL_act_810 : decode cL_act 810 = .ok (.aload_n 0, 1) := by decide +kernel
theorem dL_act_811 : decode cL_act 811 = .ok (.iload_n 2, 1) := by decide +kernel
theorem dL_act_812 : decode cL_act 812 = .ok (.ifCond .eq 7, 3) := by decide +kernel
theorem dL_act_815 : decode cL_act 815 = .ok (.iload_n 1, 1) := by decide +kernel
theorem dL_act_816 : decode cL_act 816 = .ok (.goto 7, 3) := by decide +kernel
theorem dL_act_819 : decode cL_act 819 = .ok (.iconst 1, 1) := by decide +kernel
theorem dL_act_820 : decode cL_act 820 = .ok (.iload 8, 2) := by decide +kernel
theorem dL_act_822 : decode cL_act 822 = .ok (.iadd, 1) := by decide +kernel
theorem dL_act_823 : decode cL_act 823 = .ok (.iload_n 3, 1) := by decide +kernel
theorem dL_act_824 : decode cL_act 824 = .ok (.iload_n 2, 1) := by decide +kernel
theorem dL_act_825 : decode cL_act 825 = .ok (.ifCond .eq 8, 3) := by decide +kernel
theorem dL_act_828 : decode cL_act 828 = .ok (.iload 8, 2) := by decide +kernel
theorem dL_act_830 : decode cL_act 830 = .ok (.goto 13, 3) := by decide +kernel
theorem dL_act_833 : decode cL_act 833 = .ok (.iconst 1, 1) := by decide +kernel
theorem dL_act_834 : decode cL_act 834 = .ok (.iload_n 1, 1) := by decide +kernel
theorem dL_act_835 : decode cL_act 835 = .ok (.iconst 3, 1) := by decide +kernel
theorem dL_act_836 : decode cL_act 836 = .ok (.ishr, 1) := by decide +kernel
theorem dL_act_837 : decode cL_act 837 = .ok (.ldc 136, 2) := by decide +kernel
theorem dL_act_839 : decode cL_act 839 = .ok (.invokestatic 103, 3) := by decide +kernel
theorem dL_act_842 : decode cL_act 842 = .ok (.iadd, 1) := by decide +kernel
theorem dL_act_843 : decode cL_act 843 = .ok (.iload_n 2, 1) := by decide +kernel
theorem dL_act_844 : decode cL_act 844 = .ok (.ifCond .eq 8, 3) := by decide +kernel
theorem dL_act_847 : decode cL_act 847 = .ok (.iload 9, 2) := by decide +kernel
theorem dL_act_849 : decode cL_act 849 = .ok (.goto 7, 3) := by decide +kernel
theorem dL_act_852 : decode cL_act 852 = .ok (.iload 4, 2) := by decide +kernel
theorem dL_act_854 : decode cL_act 854 = .ok (.iconst 2, 1) := by decide +kernel
theorem dL_act_855 : decode cL_act 855 = .ok (.idiv, 1) := by decide +kernel
theorem dL_act_856 : decode cL_act 856 = .ok (.iload 4, 2) := by decide +kernel
theorem dL_act_858 : decode cL_act 858 = .ok (.iload_n 2, 1) := by decide +kernel
theorem dL_act_859 : decode cL_act 859 = .ok (.ifCond .eq 8, 3) := by decide +kernel
theorem dL_act_862 : decode cL_act 862 = .ok (.iload 8, 2) := by decide +kernel
theorem dL_act_864 : decode cL_act 864 = .ok (.goto 14, 3) := by decide +kernel
theorem dL_act_867 : decode cL_act 867 = .ok (.iconst 1, 1) := by decide +kernel
theorem dL_act_868 : decode cL_act 868 = .ok (.iload_n 1, 1) := by decide +kernel
theorem dL_act_869 : decode cL_act 869 = .ok (.bipush 12, 2) := by decide +kernel
theorem dL_act_871 : decode cL_act 871 = .ok (.ishr, 1) := by decide +kernel
theorem dL_act_872 : decode cL_act 872 = .ok (.bipush 9, 2) := by decide +kernel
theorem dL_act_874 : decode cL_act 874 = .ok (.invokestatic 103, 3) := by decide +kernel
theorem dL_act_877 : decode cL_act 877 = .ok (.iadd, 1) := by decide +kernel
theorem dL_act_878 : decode cL_act 878 = .ok (.iload_n 2, 1) := by decide +kernel
theorem dL_act_879 : decode cL_act 879 = .ok (.ifCond .eq 8, 3) := by decide +kernel
theorem dL_act_882 : decode cL_act 882 = .ok (.iload 8, 2) := by decide +kernel
theorem dL_act_884 : decode cL_act 884 = .ok (.goto 14, 3) := by decide +kernel
theorem dL_act_887 : decode cL_act 887 = .ok (.iconst 1, 1) := by decide +kernel
theorem dL_act_888 : decode cL_act 888 = .ok (.iload_n 1, 1) := by decide +kernel
theorem dL_act_889 : decode cL_act 889 = .ok (.bipush 10, 2) := by decide +kernel
theorem dL_act_891 : decode cL_act 891 = .ok (.ishr, 1) := by decide +kernel
theorem dL_act_892 : decode cL_act 892 = .ok (.bipush 100, 2) := by decide +kernel
theorem dL_act_894 : decode cL_act 894 = .ok (.invokestatic 103, 3) := by decide +kernel
theorem dL_act_897 : decode cL_act 897 = .ok (.iadd, 1) := by decide +kernel
theorem dL_act_898 : decode cL_act 898 = .ok (.invokestatic 137, 3) := by decide +kernel
theorem dL_act_901 : decode cL_act 901 = .ok (.i2l, 1) := by decide +kernel
theorem dL_act_902 : decode cL_act 902 = .ok (.lreturn, 1) := by decide +kernel
theorem dL_act_903 : decode cL_act 903 = .ok (.aload_n 0, 1) := by decide +kernel
theorem dL_act_904 : decode cL_act 904 = .ok (.iload 9, 2) := by decide +kernel
theorem dL_act_906 : decode cL_act 906 = .ok (.iload_n 2, 1) := by decide +kernel
theorem dL_act_907 : decode cL_act 907 = .ok (.ifCond .eq 8, 3) := by decide +kernel
theorem dL_act_910 : decode cL_act 910 = .ok (.iload 8, 2) := by decide +kernel
theorem dL_act_912 : decode cL_act 912 = .ok (.goto 13, 3) := by decide +kernel
theorem dL_act_915 : decode cL_act 915 = .ok (.iconst 1, 1) := by decide +kernel
theorem dL_act_916 : decode cL_act 916 = .ok (.iload_n 1, 1) := by decide +kernel
theorem dL_act_917 : decode cL_act 917 = .ok (.iconst 3, 1) := by decide +kernel
theorem dL_act_918 : decode cL_act 918 = .ok (.ishr, 1) := by decide +kernel
theorem dL_act_919 : decode cL_act 919 = .ok (.bipush 90, 2) := by decide +kernel
theorem dL_act_921 : decode cL_act 921 = .ok (.invokestatic 103, 3) := by decide +kernel
theorem dL_act_924 : decode cL_act 924 = .ok (.iadd, 1) := by decide +kernel
theorem dL_act_925 : decode cL_act 925 = .ok (.invokestatic 140, 3) := by decide +kernel
theorem dL_act_928 : decode cL_act 928 = .ok (.i2l, 1) := by decide +kernel
theorem dL_act_929 : decode cL_act 929 = .ok (.lreturn, 1) := by decide +kernel
theorem dL_act_930 : decode cL_act 930 = .ok (.aload_n 0, 1) := by decide +kernel
theorem dL_act_931 : decode cL_act 931 = .ok (.iload_n 2, 1) := by decide +kernel
theorem dL_act_932 : decode cL_act 932 = .ok (.ifCond .eq 8, 3) := by decide +kernel
theorem dL_act_935 : decode cL_act 935 = .ok (.iload 8, 2) := by decide +kernel
theorem dL_act_937 : decode cL_act 937 = .ok (.goto 13, 3) := by decide +kernel
theorem dL_act_940 : decode cL_act 940 = .ok (.iconst 1, 1) := by decide +kernel
theorem dL_act_941 : decode cL_act 941 = .ok (.iload_n 1, 1) := by decide +kernel
theorem dL_act_942 : decode cL_act 942 = .ok (.iconst 3, 1) := by decide +kernel
theorem dL_act_943 : decode cL_act 943 = .ok (.ishr, 1) := by decide +kernel
theorem dL_act_944 : decode cL_act 944 = .ok (.bipush 60, 2) := by decide +kernel
theorem dL_act_946 : decode cL_act 946 = .ok (.invokestatic 103, 3) := by decide +kernel
theorem dL_act_949 : decode cL_act 949 = .ok (.iadd, 1) := by decide +kernel
theorem dL_act_950 : decode cL_act 950 = .ok (.invokestatic 142, 3) := by decide +kernel
theorem dL_act_953 : decode cL_act 953 = .ok (.i2l, 1) := by decide +kernel
theorem dL_act_954 : decode cL_act 954 = .ok (.lreturn, 1) := by decide +kernel
theorem dL_act_955 : decode cL_act 955 = .ok (.aload_n 0, 1) := by decide +kernel
theorem dL_act_956 : decode cL_act 956 = .ok (.iload_n 2, 1) := by decide +kernel
theorem dL_act_957 : decode cL_act 957 = .ok (.ifCond .eq 8, 3) := by decide +kernel
theorem dL_act_960 : decode cL_act 960 = .ok (.iload 9, 2) := by decide +kernel
theorem dL_act_962 : decode cL_act 962 = .ok (.goto 10, 3) := by decide +kernel
theorem dL_act_965 : decode cL_act 965 = .ok (.iload_n 1, 1) := by decide +kernel
theorem dL_act_966 : decode cL_act 966 = .ok (.iconst 3, 1) := by decide +kernel
theorem dL_act_967 : decode cL_act 967 = .ok (.ishr, 1) := by decide +kernel
theorem dL_act_968 : decode cL_act 968 = .ok (.iconst 3, 1) := by decide +kernel
theorem dL_act_969 : decode cL_act 969 = .ok (.invokestatic 103, 3) := by decide +kernel
theorem dL_act_972 : decode cL_act 972 = .ok (.iload_n 2, 1) := by decide +kernel
theorem dL_act_973 : decode cL_act 973 = .ok (.ifCond .eq 8, 3) := by decide +kernel
theorem dL_act_976 : decode cL_act 976 = .ok (.iload 8, 2) := by decide +kernel
theorem dL_act_978 : decode cL_act 978 = .ok (.goto 14, 3) := by decide +kernel
theorem dL_act_981 : decode cL_act 981 = .ok (.iconst 1, 1) := by decide +kernel
theorem dL_act_982 : decode cL_act 982 = .ok (.iload_n 1, 1) := by decide +kernel
theorem dL_act_983 : decode cL_act 983 = .ok (.bipush 9, 2) := by decide +kernel
theorem dL_act_985 : decode cL_act 985 = .ok (.ishr, 1) := by decide +kernel
theorem dL_act_986 : decode cL_act 986 = .ok (.bipush 99, 2) := by decide +kernel
theorem dL_act_988 : decode cL_act 988 = .ok (.invokestatic 103, 3) := by decide +kernel
theorem dL_act_991 : decode cL_act 991 = .ok (.iadd, 1) := by decide +kernel
theorem dL_act_992 : decode cL_act 992 = .ok (.iload_n 2, 1) := by decide +kernel
theorem dL_act_993 : decode cL_act 993 = .ok (.ifCond .eq 7, 3) := by decide +kernel
theorem dL_act_996 : decode cL_act 996 = .ok (.iload_n 1, 1) := by decide +kernel
theorem dL_act_997 : decode cL_act 997 = .ok (.goto 12, 3) := by decide +kernel
theorem dL_act_1000 : decode cL_act 1000 = .ok (.iload_n 1, 1) := by decide +kernel
theorem dL_act_1001 : decode cL_act 1001 = .ok (.iconst 5, 1) := by decide +kernel
theorem dL_act_1002 : decode cL_act 1002 = .ok (.ishr, 1) := by decide +kernel
theorem dL_act_1003 : decode cL_act 1003 = .ok (.sipush 9000, 3) := by decide +kernel
theorem dL_act_1006 : decode cL_act 1006 = .ok (.invokestatic 103, 3) := by decide +kernel
theorem dL_act_1009 : decode cL_act 1009 = .ok (.invokestatic 144, 3) := by decide +kernel
theorem dL_act_1012 : decode cL_act 1012 = .ok (.i2l, 1) := by decide +kernel
theorem dL_act_1013 : decode cL_act 1013 = .ok (.lreturn, 1) := by decide +kernel
theorem dL_act_1014 : decode cL_act 1014 = .ok (.aload_n 0, 1) := by decide +kernel
theorem dL_act_1015 : decode cL_act 1015 = .ok (.iload 6, 2) := by decide +kernel
theorem dL_act_1017 : decode cL_act 1017 = .ok (.iload_n 2, 1) := by decide +kernel
theorem dL_act_1018 : decode cL_act 1018 = .ok (.ifCond .eq 8, 3) := by decide +kernel
theorem dL_act_1021 : decode cL_act 1021 = .ok (.iload 9, 2) := by decide +kernel
theorem dL_act_1023 : decode cL_act 1023 = .ok (.goto 11, 3) := by decide +kernel
theorem dL_act_1026 : decode cL_act 1026 = .ok (.iload_n 1, 1) := by decide +kernel
theorem dL_act_1027 : decode cL_act 1027 = .ok (.iconst 3, 1) := by decide +kernel
theorem dL_act_1028 : decode cL_act 1028 = .ok (.ishr, 1) := by decide +kernel
theorem dL_act_1029 : decode cL_act 1029 = .ok (.bipush 6, 2) := by decide +kernel
theorem dL_act_1031 : decode cL_act 1031 = .ok (.invokestatic 103, 3) := by decide +kernel
theorem dL_act_1034 : decode cL_act 1034 = .ok (.invokestatic 146, 3) := by decide +kernel
theorem dL_act_1037 : decode cL_act 1037 = .ok (.i2l, 1) := by decide +kernel
theorem dL_act_1038 : decode cL_act 1038 = .ok (.lreturn, 1) := by decide +kernel
theorem dL_act_1039 : decode cL_act 1039 = .ok (.aload_n 0, 1) := by decide +kernel
theorem dL_act_1040 : decode cL_act 1040 = .ok (.iload 5, 2) := by decide +kernel
theorem dL_act_1042 : decode cL_act 1042 = .ok (.iload 6, 2) := by decide +kernel
theorem dL_act_1044 : decode cL_act 1044 = .ok (.iload_n 2, 1) := by decide +kernel
theorem dL_act_1045 : decode cL_act 1045 = .ok (.ifCond .eq 8, 3) := by decide +kernel
theorem dL_act_1048 : decode cL_act 1048 = .ok (.iload 9, 2) := by decide +kernel
theorem dL_act_1050 : decode cL_act 1050 = .ok (.goto 10, 3) := by decide +kernel
theorem dL_act_1053 : decode cL_act 1053 = .ok (.iload_n 1, 1) := by decide +kernel
theorem dL_act_1054 : decode cL_act 1054 = .ok (.iconst 3, 1) := by decide +kernel
theorem dL_act_1055 : decode cL_act 1055 = .ok (.ishr, 1) := by decide +kernel
theorem dL_act_1056 : decode cL_act 1056 = .ok (.iconst 5, 1) := by decide +kernel
theorem dL_act_1057 : decode cL_act 1057 = .ok (.invokestatic 103, 3) := by decide +kernel
theorem dL_act_1060 : decode cL_act 1060 = .ok (.invokestatic 148, 3) := by decide +kernel
theorem dL_act_1063 : decode cL_act 1063 = .ok (.i2l, 1) := by decide +kernel
theorem dL_act_1064 : decode cL_act 1064 = .ok (.lreturn, 1) := by decide +kernel
theorem dL_act_1065 : decode cL_act 1065 = .ok (.aload_n 0, 1) := by decide +kernel
theorem dL_act_1066 : decode cL_act 1066 = .ok (.iload_n 2, 1) := by decide +kernel
theorem dL_act_1067 : decode cL_act 1067 = .ok (.ifCond .eq 8, 3) := by decide +kernel
theorem dL_act_1070 : decode cL_act 1070 = .ok (.iload 9, 2) := by decide +kernel
theorem dL_act_1072 : decode cL_act 1072 = .ok (.goto 11, 3) := by decide +kernel
theorem dL_act_1075 : decode cL_act 1075 = .ok (.iload_n 1, 1) := by decide +kernel
theorem dL_act_1076 : decode cL_act 1076 = .ok (.iconst 3, 1) := by decide +kernel
theorem dL_act_1077 : decode cL_act 1077 = .ok (.ishr, 1) := by decide +kernel
theorem dL_act_1078 : decode cL_act 1078 = .ok (.bipush 8, 2) := by decide +kernel
theorem dL_act_1080 : decode cL_act 1080 = .ok (.invokestatic 103, 3) := by decide +kernel
theorem dL_act_1083 : decode cL_act 1083 = .ok (.invokestatic 150, 3) := by decide +kernel
theorem dL_act_1086 : decode cL_act 1086 = .ok (.i2l, 1) := by decide +kernel
theorem dL_act_1087 : decode cL_act 1087 = .ok (.lreturn, 1) := by decide +kernel
theorem dL_act_1088 : decode cL_act 1088 = .ok (.aload_n 0, 1) := by decide +kernel
theorem dL_act_1089 : decode cL_act 1089 = .ok (.iload_n 2, 1) := by decide +kernel
theorem dL_act_1090 : decode cL_act 1090 = .ok (.ifCond .eq 8, 3) := by decide +kernel
theorem dL_act_1093 : decode cL_act 1093 = .ok (.iload 7, 2) := by decide +kernel
theorem dL_act_1095 : decode cL_act 1095 = .ok (.goto 11, 3) := by decide +kernel
theorem dL_act_1098 : decode cL_act 1098 = .ok (.iload_n 1, 1) := by decide +kernel
theorem dL_act_1099 : decode cL_act 1099 = .ok (.iconst 3, 1) := by decide +kernel
theorem dL_act_1100 : decode cL_act 1100 = .ok (.ishr, 1) := by decide +kernel
theorem dL_act_1101 : decode cL_act 1101 = .ok (.bipush 6, 2) := by decide +kernel
theorem dL_act_1103 : decode cL_act 1103 = .ok (.invokestatic 103, 3) := by decide +kernel
theorem dL_act_1106 : decode cL_act 1106 = .ok (.iload_n 2, 1) := by decide +kernel
theorem dL_act_1107 : decode cL_act 1107 = .ok (.ifCond .eq 8, 3) := by decide +kernel
theorem dL_act_1110 : decode cL_act 1110 = .ok (.iload 9, 2) := by decide +kernel
theorem dL_act_1112 : decode cL_act 1112 = .ok (.goto 11, 3) := by decide +kernel
theorem dL_act_1115 : decode cL_act 1115 = .ok (.iload_n 1, 1) := by decide +kernel
theorem dL_act_1116 : decode cL_act 1116 = .ok (.bipush 12, 2) := by decide +kernel
theorem dL_act_1118 : decode cL_act 1118 = .ok (.ishr, 1) := by decide +kernel
theorem dL_act_1119 : decode cL_act 1119 = .ok (.iconst 3, 1) := by decide +kernel
theorem dL_act_1120 : decode cL_act 1120 = .ok (.invokestatic 103, 3) := by decide +kernel
theorem dL_act_1123 : decode cL_act 1123 = .ok (.invokestatic 152, 3) := by decide +kernel
theorem dL_act_1126 : decode cL_act 1126 = .ok (.i2l, 1) := by decide +kernel
theorem dL_act_1127 : decode cL_act 1127 = .ok (.lreturn, 1) := by decide +kernel
theorem dL_act_1128 : decode cL_act 1128 = .ok (.aload_n 0, 1) := by decide +kernel
theorem dL_act_1129 : decode cL_act 1129 = .ok (.invokevirtual 154, 3) := by decide +kernel
theorem dL_act_1132 : decode cL_act 1132 = .ok (.i2l, 1) := by decide +kernel
theorem dL_act_1133 : decode cL_act 1133 = .ok (.lreturn, 1) := by decide +kernel
theorem dL_act_1134 : decode cL_act 1134 = .ok (.aload_n 0, 1) := by decide +kernel
theorem dL_act_1135 : decode cL_act 1135 = .ok (.iload_n 3, 1) := by decide +kernel
theorem dL_act_1136 : decode cL_act 1136 = .ok (.invokestatic 157, 3) := by decide +kernel
theorem dL_act_1139 : decode cL_act 1139 = .ok (.i2l, 1) := by decide +kernel
theorem dL_act_1140 : decode cL_act 1140 = .ok (.lreturn, 1) := by decide +kernel
theorem dL_act_1141 : decode cL_act 1141 = .ok (.iload_n 1, 1) := by decide +kernel
theorem dL_act_1142 : decode cL_act 1142 = .ok (.bipush 9, 2) := by decide +kernel
theorem dL_act_1144 : decode cL_act 1144 = .ok (.ishr, 1) := by decide +kernel
theorem dL_act_1145 : decode cL_act 1145 = .ok (.iconst 4, 1) := by decide +kernel
theorem dL_act_1146 : decode cL_act 1146 = .ok (.invokestatic 103, 3) := by decide +kernel
theorem dL_act_1149 : decode cL_act 1149 = .ok (.ifCond .ne 12, 3) := by decide +kernel
theorem dL_act_1152 : decode cL_act 1152 = .ok (.aload_n 0, 1) := by decide +kernel
theorem dL_act_1153 : decode cL_act 1153 = .ok (.iload_n 3, 1) := by decide +kernel
theorem dL_act_1154 : decode cL_act 1154 = .ok (.invokestatic 159, 3) := by decide +kernel
theorem dL_act_1157 : decode cL_act 1157 = .ok (.i2l, 1) := by decide +kernel
theorem dL_act_1158 : decode cL_act 1158 = .ok (.goto 8, 3) := by decide +kernel
theorem dL_act_1161 : decode cL_act 1161 = .ok (.aload_n 0, 1) := by decide +kernel
theorem dL_act_1162 : decode cL_act 1162 = .ok (.invokevirtual 161, 3) := by decide +kernel
theorem dL_act_1165 : decode cL_act 1165 = .ok (.i2l, 1) := by decide +kernel
theorem dL_act_1166 : decode cL_act 1166 = .ok (.lreturn, 1) := by decide +kernel
theorem dL_act_1167 : decode cL_act 1167 = .ok (.aload_n 0, 1) := by decide +kernel
theorem dL_act_1168 : decode cL_act 1168 = .ok (.iload 9, 2) := by decide +kernel
theorem dL_act_1170 : decode cL_act 1170 = .ok (.iload_n 2, 1) := by decide +kernel
theorem dL_act_1171 : decode cL_act 1171 = .ok (.ifCond .eq 8, 3) := by decide +kernel
theorem dL_act_1174 : decode cL_act 1174 = .ok (.iload 8, 2) := by decide +kernel
theorem dL_act_1176 : decode cL_act 1176 = .ok (.goto 11, 3) := by decide +kernel
theorem dL_act_1179 : decode cL_act 1179 = .ok (.iload_n 1, 1) := by decide +kernel
theorem dL_act_1180 : decode cL_act 1180 = .ok (.iconst 3, 1) := by decide +kernel
theorem dL_act_1181 : decode cL_act 1181 = .ok (.ishr, 1) := by decide +kernel
theorem dL_act_1182 : decode cL_act 1182 = .ok (.bipush 6, 2) := by decide +kernel
theorem dL_act_1184 : decode cL_act 1184 = .ok (.invokestatic 103, 3) := by decide +kernel
theorem dL_act_1187 : decode cL_act 1187 = .ok (.invokestatic 164, 3) := by decide +kernel
theorem dL_act_1190 : decode cL_act 1190 = .ok (.i2l, 1) := by decide +kernel
theorem dL_act_1191 : decode cL_act 1191 = .ok (.lreturn, 1) := by decide +kernel
theorem dL_act_1192 : decode cL_act 1192 = .ok (.aload_n 0, 1) := by decide +kernel
theorem dL_act_1193 : decode cL_act 1193 = .ok (.invokevirtual 166, 3) := by decide +kernel
theorem dL_act_1196 : decode cL_act 1196 = .ok (.i2l, 1) := by decide +kernel
theorem dL_act_1197 : decode cL_act 1197 = .ok (.lreturn, 1) := by decide +kernel
theorem dL_act_1198 : decode cL_act 1198 = .ok (.aload_n 0, 1) := by decide +kernel
theorem dL_act_1199 : decode cL_act 1199 = .ok (.iload 5, 2) := by decide +kernel
theorem dL_act_1201 : decode cL_act 1201 = .ok (.iload_n 2, 1) := by decide +kernel
theorem dL_act_1202 : decode cL_act 1202 = .ok (.ifCond .eq 8, 3) := by decide +kernel
theorem dL_act_1205 : decode cL_act 1205 = .ok (.iload 9, 2) := by decide +kernel
theorem dL_act_1207 : decode cL_act 1207 = .ok (.goto 10, 3) := by decide +kernel
theorem dL_act_1210 : decode cL_act 1210 = .ok (.iload_n 1, 1) := by decide +kernel
theorem dL_act_1211 : decode cL_act 1211 = .ok (.iconst 3, 1) := by decide +kernel
theorem dL_act_1212 : decode cL_act 1212 = .ok (.ishr, 1) := by decide +kernel
theorem dL_act_1213 : decode cL_act 1213 = .ok (.iconst 3, 1) := by decide +kernel
theorem dL_act_1214 : decode cL_act 1214 = .ok (.invokestatic 103, 3) := by decide +kernel
theorem dL_act_1217 : decode cL_act 1217 = .ok (.invokestatic 169, 3) := by decide +kernel
theorem dL_act_1220 : decode cL_act 1220 = .ok (.lreturn, 1) := by decide +kernel
theorem dL_act_1221 : decode cL_act 1221 = .ok (.aload_n 0, 1) := by decide +kernel
theorem dL_act_1222 : decode cL_act 1222 = .ok (.iload 5, 2) := by decide +kernel
theorem dL_act_1224 : decode cL_act 1224 = .ok (.iload_n 2, 1) := by decide +kernel
theorem dL_act_1225 : decode cL_act 1225 = .ok (.ifCond .eq 8, 3) := by decide +kernel
theorem dL_act_1228 : decode cL_act 1228 = .ok (.iload 9, 2) := by decide +kernel
theorem dL_act_1230 : decode cL_act 1230 = .ok (.goto 10, 3) := by decide +kernel
theorem dL_act_1233 : decode cL_act 1233 = .ok (.iload_n 1, 1) := by decide +kernel
theorem dL_act_1234 : decode cL_act 1234 = .ok (.iconst 3, 1) := by decide +kernel
theorem dL_act_1235 : decode cL_act 1235 = .ok (.ishr, 1) := by decide +kernel
theorem dL_act_1236 : decode cL_act 1236 = .ok (.iconst 3, 1) := by decide +kernel
theorem dL_act_1237 : decode cL_act 1237 = .ok (.invokestatic 103, 3) := by decide +kernel
theorem dL_act_1240 : decode cL_act 1240 = .ok (.iload_n 2, 1) := by decide +kernel
theorem dL_act_1241 : decode cL_act 1241 = .ok (.ifCond .eq 8, 3) := by decide +kernel
theorem dL_act_1244 : decode cL_act 1244 = .ok (.iload 8, 2) := by decide +kernel
theorem dL_act_1246 : decode cL_act 1246 = .ok (.goto 12, 3) := by decide +kernel
theorem dL_act_1249 : decode cL_act 1249 = .ok (.iload_n 1, 1) := by decide +kernel
theorem dL_act_1250 : decode cL_act 1250 = .ok (.bipush 9, 2) := by decide +kernel
theorem dL_act_1252 : decode cL_act 1252 = .ok (.ishr, 1) := by decide +kernel
theorem dL_act_1253 : decode cL_act 1253 = .ok (.bipush 100, 2) := by decide +kernel
theorem dL_act_1255 : decode cL_act 1255 = .ok (.invokestatic 103, 3) := by decide +kernel
theorem dL_act_1258 : decode cL_act 1258 = .ok (.invokestatic 172, 3) := by decide +kernel
theorem dL_act_1261 : decode cL_act 1261 = .ok (.i2l, 1) := by decide +kernel
theorem dL_act_1262 : decode cL_act 1262 = .ok (.lreturn, 1) := by decide +kernel
theorem dL_act_1263 : decode cL_act 1263 = .ok (.aload_n 0, 1) := by decide +kernel
theorem dL_act_1264 : decode cL_act 1264 = .ok (.iload 5, 2) := by decide +kernel
theorem dL_act_1266 : decode cL_act 1266 = .ok (.iload_n 1, 1) := by decide +kernel
theorem dL_act_1267 : decode cL_act 1267 = .ok (.iconst 3, 1) := by decide +kernel
theorem dL_act_1268 : decode cL_act 1268 = .ok (.ishr, 1) := by decide +kernel
theorem dL_act_1269 : decode cL_act 1269 = .ok (.iconst 1, 1) := by decide +kernel
theorem dL_act_1270 : decode cL_act 1270 = .ok (.iand, 1) := by decide +kernel
theorem dL_act_1271 : decode cL_act 1271 = .ok (.iconst 1, 1) := by decide +kernel
theorem dL_act_1272 : decode cL_act 1272 = .ok (.if_icmp .ne 7, 3) := by decide +kernel
theorem dL_act_1275 : decode cL_act 1275 = .ok (.iconst 1, 1) := by decide +kernel
theorem dL_act_1276 : decode cL_act 1276 = .ok (.goto 4, 3) := by decide +kernel
theorem dL_act_1279 : decode cL_act 1279 = .ok (.iconst 0, 1) := by decide +kernel
theorem dL_act_1280 : decode cL_act 1280 = .ok (.invokestatic 174, 3) := by decide +kernel
theorem dL_act_1283 : decode cL_act 1283 = .ok (.lreturn, 1) := by decide +kernel
theorem dL_areAlike_0 : decode cL_areAlike 0 = .ok (.aload_n 0, 1) := by decide +kernel
theorem dL_areAlike_1 : decode cL_areAlike 1 = .ok (.invokevirtual 154, 3) := by decide +kernel
theorem dL_areAlike_4 : decode cL_areAlike 4 = .ok (.aload_n 1, 1) := by decide +kernel
theorem dL_areAlike_5 : decode cL_areAlike 5 = .ok (.invokevirtual 154, 3) := by decide +kernel
theorem dL_areAlike_8 : decode cL_areAlike 8 = .ok (.if_icmp .ne 29, 3) := by decide +kernel
theorem dL_areAlike_11 : decode cL_areAlike 11 = .ok (.aload_n 0, 1) := by decide +kernel
theorem dL_areAlike_12 : decode cL_areAlike 12 = .ok (.invokevirtual 166, 3) := by decide +kernel
theorem dL_areAlike_15 : decode cL_areAlike 15 = .ok (.aload_n 1, 1) := by decide +kernel
theorem dL_areAlike_16 : decode cL_areAlike 16 = .ok (.invokevirtual 166, 3) := by decide +kernel
theorem dL_areAlike_19 : decode cL_areAlike 19 = .ok (.if_icmp .ne 18, 3) := by decide +kernel
theorem dL_areAlike_22 : decode cL_areAlike 22 = .ok (.aload_n 0, 1) := by decide +kernel
theorem dL_areAlike_23 : decode cL_areAlike 23 = .ok (.invokevirtual 161, 3) := by decide +kernel
theorem dL_areAlike_26 : decode cL_areAlike 26 = .ok (.aload_n 1, 1) := by decide +kernel
theorem dL_areAlike_27 : decode cL_areAlike 27 = .ok (.invokevirtual 161, 3) := by decide +kernel
theorem dL_areAlike_30 : decode cL_areAlike 30 = .ok (.if_icmp .ne 7, 3) := by decide +kernel
theorem dL_areAlike_33 : decode cL_areAlike 33 = .ok (.iconst 1, 1) := by decide +kernel
theorem dL_areAlike_34 : decode cL_areAlike 34 = .ok (.goto 4, 3) := by decide +kernel
theorem dL_areAlike_37 : decode cL_areAlike 37 = .ok (.iconst 0, 1) := by decide +kernel
theorem dL_areAlike_38 : decode cL_areAlike 38 = .ok (.istore_n 3, 1) := by decide +kernel
theorem dL_areAlike_39 : decode cL_areAlike 39 = .ok (.iconst 0, 1) := by decide +kernel
theorem dL_areAlike_40 : decode cL_areAlike 40 = .ok (.istore 4, 2) := by decide +kernel
theorem dL_areAlike_42 : decode cL_areAlike 42 = .ok (.iload 4, 2) := by decide +kernel
theorem dL_areAlike_44 : decode cL_areAlike 44 = .ok (.bipush 6, 2) := by decide +kernel
theorem dL_areAlike_46 : decode cL_areAlike 46 = .ok (.if_icmp .ge 131, 3) := by decide +kernel
theorem dL_areAlike_49 : decode cL_areAlike 49 = .ok (.iload_n 3, 1) := by decide +kernel
theorem dL_areAlike_50 : decode cL_areAlike 50 = .ok (.ifCond .eq 127, 3) := by decide +kernel
theorem dL_areAlike_53 : decode cL_areAlike 53 = .ok (.aload_n 0, 1) := by decide +kernel
theorem dL_areAlike_54 : decode cL_areAlike 54 = .ok (.iload 4, 2) := by decide +kernel
theorem dL_areAlike_56 : decode cL_areAlike 56 = .ok (.invokestatic 150, 3) := by decide +kernel
theorem dL_areAlike_59 : decode cL_areAlike 59 = .ok (.aload_n 1, 1) := by decide +kernel
theorem dL_areAlike_60 : decode cL_areAlike 60 = .ok (.iload 4, 2) := by decide +kernel
theorem dL_areAlike_62 : decode cL_areAlike 62 = .ok (.invokestatic 150, 3) := by decide +kernel
theorem dL_areAlike_65 : decode cL_areAlike 65 = .ok (.if_icmp .ne 104, 3) := by decide +kernel
theorem dL_areAlike_68 : decode cL_areAlike 68 = .ok (.aload_n 0, 1) := by decide +kernel
theorem dL_areAlike_69 : decode cL_areAlike 69 = .ok (.iload 4, 2) := by decide +kernel
theorem dL_areAlike_71 : decode cL_areAlike 71 = .ok (.iload_n 2, 1) := by decide +kernel
theorem dL_areAlike_72 : decode cL_areAlike 72 = .ok (.iconst 3, 1) := by decide +kernel
theorem dL_areAlike_73 : decode cL_areAlike 73 = .ok (.invokestatic 103, 3) := by decide +kernel
theorem dL_areAlike_76 : decode cL_areAlike 76 = .ok (.invokestatic 152, 3) := by decide +kernel
theorem dL_areAlike_79 : decode cL_areAlike 79 = .ok (.aload_n 1, 1) := by decide +kernel
theorem dL_areAlike_80 : decode cL_areAlike 80 = .ok (.iload 4, 2) := by decide +kernel
theorem dL_areAlike_82 : decode cL_areAlike 82 = .ok (.iload_n 2, 1) := by decide +kernel
theorem dL_areAlike_83 : decode cL_areAlike 83 = .ok (.iconst 3, 1) := by decide +kernel
theorem dL_areAlike_84 : decode cL_areAlike 84 = .ok (.invokestatic 103, 3) := by decide +kernel
theorem dL_areAlike_87 : decode cL_areAlike 87 = .ok (.invokestatic 152, 3) := by decide +kernel
theorem dL_areAlike_90 : decode cL_areAlike 90 = .ok (.if_icmp .ne 79, 3) := by decide +kernel
theorem dL_areAlike_93 : decode cL_areAlike 93 = .ok (.aload_n 0, 1) := by decide +kernel
theorem dL_areAlike_94 : decode cL_areAlike 94 = .ok (.iload 4, 2) := by decide +kernel
theorem dL_areAlike_96 : decode cL_areAlike 96 = .ok (.iload_n 2, 1) := by decide +kernel
theorem dL_areAlike_97 : decode cL_areAlike 97 = .ok (.bipush 6, 2) := by decide +kernel
theorem dL_areAlike_99 : decode cL_areAlike 99 = .ok (.invokestatic 103, 3) := by decide +kernel
theorem dL_areAlike_102 : decode cL_areAlike 102 = .ok (.invokestatic 164, 3) := by decide +kernel
theorem dL_areAlike_105 : decode cL_areAlike 105 = .ok (.aload_n 1, 1) := by decide +kernel
theorem dL_areAlike_106 : decode cL_areAlike 106 = .ok (.iload 4, 2) := by decide +kernel
theorem dL_areAlike_108 : decode cL_areAlike 108 = .ok (.iload_n 2, 1) := by decide +kernel
theorem dL_areAlike_109 : decode cL_areAlike 109 = .ok (.bipush 6, 2) := by decide +kernel
theorem dL_areAlike_111 : decode cL_areAlike 111 = .ok (.invokestatic 103, 3) := by decide +kernel
theorem dL_areAlike_114 : decode cL_areAlike 114 = .ok (.invokestatic 164, 3) := by decide +kernel
theorem dL_areAlike_117 : decode cL_areAlike 117 = .ok (.if_icmp .ne 52, 3) := by decide +kernel
theorem dL_areAlike_120 : decode cL_areAlike 120 = .ok (.aload_n 0, 1) := by decide +kernel
theorem dL_areAlike_121 : decode cL_areAlike 121 = .ok (.iload 4, 2) := by decide +kernel
theorem dL_areAlike_123 : decode cL_areAlike 123 = .ok (.iload_n 2, 1) := by decide +kernel
theorem dL_areAlike_124 : decode cL_areAlike 124 = .ok (.bipush 6, 2) := by decide +kernel
theorem dL_areAlike_126 : decode cL_areAlike 126 = .ok (.invokestatic 103, 3) := by decide +kernel
theorem dL_areAlike_129 : decode cL_areAlike 129 = .ok (.invokestatic 146, 3) := by decide +kernel
theorem dL_areAlike_132 : decode cL_areAlike 132 = .ok (.aload_n 1, 1) := by decide +kernel
theorem dL_areAlike_133 : decode cL_areAlike 133 = .ok (.iload 4, 2) := by decide +kernel
theorem dL_areAlike_135 : decode cL_areAlike 135 = .ok (.iload_n 2, 1) := by decide +kernel
theorem dL_areAlike_136 : decode cL_areAlike 136 = .ok (.bipush 6, 2) := by decide +kernel
theorem dL_areAlike_138 : decode cL_areAlike 138 = .ok (.invokestatic 103, 3) := by decide +kernel
theorem dL_areAlike_141 : decode cL_areAlike 141 = .ok (.invokestatic 146, 3) := by decide +kernel
theorem dL_areAlike_144 : decode cL_areAlike 144 = .ok (.if_icmp .ne 25, 3) := by decide +kernel
theorem dL_areAlike_147 : decode cL_areAlike 147 = .ok (.aload_n 0, 1) := by decide +kernel
theorem dL_areAlike_148 : decode cL_areAlike 148 = .ok (.iload 4, 2) := by decide +kernel
theorem dL_areAlike_150 : decode cL_areAlike 150 = .ok (.iconst 1, 1) := by decide +kernel
theorem dL_areAlike_151 : decode cL_areAlike 151 = .ok (.invokestatic 174, 3) := by decide +kernel
theorem dL_areAlike_154 : decode cL_areAlike 154 = .ok (.aload_n 1, 1) := by decide +kernel
theorem dL_areAlike_155 : decode cL_areAlike 155 = .ok (.iload 4, 2) := by decide +kernel
theorem dL_areAlike_157 : decode cL_areAlike 157 = .ok (.iconst 1, 1) := by decide +kernel
theorem dL_areAlike_158 : decode cL_areAlike 158 = .ok (.invokestatic 174, 3) := by decide +kernel
theorem dL_areAlike_161 : decode cL_areAlike 161 = .ok (.lcmp, 1) := by decide +kernel
theorem dL_areAlike_162 : decode cL_areAlike 162 = .ok (.ifCond .ne 7, 3) := by decide +kernel
theorem dL_areAlike_165 : decode cL_areAlike 165 = .ok (.iconst 1, 1) := by decide +kernel
theorem dL_areAlike_166 : decode cL_areAlike 166 = .ok (.goto 4, 3) := by decide +kernel
theorem dL_areAlike_169 : decode cL_areAlike 169 = .ok (.iconst 0, 1) := by decide +kernel
theorem dL_areAlike_170 : decode cL_areAlike 170 = .ok (.istore_n 3, 1) := by decide +kernel
theorem dL_areAlike_171 : decode cL_areAlike 171 = .ok (.iinc 4 1, 3) := by decide +kernel
theorem dL_areAlike_174 : decode cL_areAlike 174 = .ok (.goto (-132), 3) := by decide +kernel
theorem dL_areAlike_177 : decode cL_areAlike 177 = .ok (.iload_n 3, 1) := by decide +kernel
theorem dL_areAlike_178 : decode cL_areAlike 178 = .ok (.ireturn, 1) := by decide +kernel
theorem dL_isDueSo_0 : decode cL_isDueSo 0 = .ok (.iconst 0, 1) := by decide +kernel
theorem dL_isDueSo_1 : decode cL_isDueSo 1 = .ok (.istore_n 1, 1) := by decide +kernel
theorem dL_isDueSo_2 : decode cL_isDueSo 2 = .ok (.iconst 0, 1) := by decide +kernel
theorem dL_isDueSo_3 : decode cL_isDueSo 3 = .ok (.istore_n 2, 1) := by decide +kernel
theorem dL_isDueSo_4 : decode cL_isDueSo 4 = .ok (.iconst 0, 1) := by decide +kernel
theorem dL_isDueSo_5 : decode cL_isDueSo 5 = .ok (.istore_n 3, 1) := by decide +kernel
theorem dL_isDueSo_6 : decode cL_isDueSo 6 = .ok (.iconst 0, 1) := by decide +kernel
theorem dL_isDueSo_7 : decode cL_isDueSo 7 = .ok (.istore 4, 2) := by decide +kernel
theorem dL_isDueSo_9 : decode cL_isDueSo 9 = .ok (.iconst 1, 1) := by decide +kernel
theorem dL_isDueSo_10 : decode cL_isDueSo 10 = .ok (.istore 5, 2) := by decide +kernel
theorem dL_isDueSo_12 : decode cL_isDueSo 12 = .ok (.iconst 0, 1) := by decide +kernel
theorem dL_isDueSo_13 : decode cL_isDueSo 13 = .ok (.istore 6, 2) := by decide +kernel
theorem dL_isDueSo_15 : decode cL_isDueSo 15 = .ok (.iload 6, 2) := by decide +kernel
theorem dL_isDueSo_17 : decode cL_isDueSo 17 = .ok (.bipush 8, 2) := by decide +kernel
theorem dL_isDueSo_19 : decode cL_isDueSo 19 = .ok (.if_icmp .ge 222, 3) := by decide +kernel
theorem dL_isDueSo_22 : decode cL_isDueSo 22 = .ok (.iload 5, 2) := by decide +kernel
theorem dL_isDueSo_24 : decode cL_isDueSo 24 = .ok (.ifCond .eq 217, 3) := by decide +kernel
theorem dL_isDueSo_27 : decode cL_isDueSo 27 = .ok (.aload_n 0, 1) := by decide +kernel
theorem dL_isDueSo_28 : decode cL_isDueSo 28 = .ok (.iload 6, 2) := by decide +kernel
theorem dL_isDueSo_30 : decode cL_isDueSo 30 = .ok (.iconst 0, 1) := by decide +kernel
theorem dL_isDueSo_31 : decode cL_isDueSo 31 = .ok (.invokestatic 146, 3) := by decide +kernel
theorem dL_isDueSo_34 : decode cL_isDueSo 34 = .ok (.ifCond .lt 201, 3) := by decide +kernel
theorem dL_isDueSo_37 : decode cL_isDueSo 37 = .ok (.iload 4, 2) := by decide +kernel
theorem dL_isDueSo_39 : decode cL_isDueSo 39 = .ok (.aload_n 0, 1) := by decide +kernel
theorem dL_isDueSo_40 : decode cL_isDueSo 40 = .ok (.iload 6, 2) := by decide +kernel
theorem dL_isDueSo_42 : decode cL_isDueSo 42 = .ok (.iconst 0, 1) := by decide +kernel
theorem dL_isDueSo_43 : decode cL_isDueSo 43 = .ok (.invokevirtual 69, 3) := by decide +kernel
theorem dL_isDueSo_46 : decode cL_isDueSo 46 = .ok (.iadd, 1) := by decide +kernel
theorem dL_isDueSo_47 : decode cL_isDueSo 47 = .ok (.istore 4, 2) := by decide +kernel
theorem dL_isDueSo_49 : decode cL_isDueSo 49 = .ok (.iload_n 1, 1) := by decide +kernel
theorem dL_isDueSo_50 : decode cL_isDueSo 50 = .ok (.aload_n 0, 1) := by decide +kernel
theorem dL_isDueSo_51 : decode cL_isDueSo 51 = .ok (.iload 6, 2) := by decide +kernel
theorem dL_isDueSo_53 : decode cL_isDueSo 53 = .ok (.iconst 1, 1) := by decide +kernel
theorem dL_isDueSo_54 : decode cL_isDueSo 54 = .ok (.invokevirtual 69, 3) := by decide +kernel
theorem dL_isDueSo_57 : decode cL_isDueSo 57 = .ok (.iadd, 1) := by decide +kernel
theorem dL_isDueSo_58 : decode cL_isDueSo 58 = .ok (.istore_n 1, 1) := by decide +kernel
theorem dL_isDueSo_59 : decode cL_isDueSo 59 = .ok (.iload_n 2, 1) := by decide +kernel
theorem dL_isDueSo_60 : decode cL_isDueSo 60 = .ok (.aload_n 0, 1) := by decide +kernel
theorem dL_isDueSo_61 : decode cL_isDueSo 61 = .ok (.iload 6, 2) := by decide +kernel
theorem dL_isDueSo_63 : decode cL_isDueSo 63 = .ok (.iconst 3, 1) := by decide +kernel
theorem dL_isDueSo_64 : decode cL_isDueSo 64 = .ok (.invokevirtual 69, 3) := by decide +kernel
theorem dL_isDueSo_67 : decode cL_isDueSo 67 = .ok (.iadd, 1) := by decide +kernel
theorem dL_isDueSo_68 : decode cL_isDueSo 68 = .ok (.istore_n 2, 1) := by decide +kernel
theorem dL_isDueSo_69 : decode cL_isDueSo 69 = .ok (.iload_n 3, 1) := by decide +kernel
theorem dL_isDueSo_70 : decode cL_isDueSo 70 = .ok (.aload_n 0, 1) := by decide +kernel
theorem dL_isDueSo_71 : decode cL_isDueSo 71 = .ok (.iload 6, 2) := by decide +kernel
theorem dL_isDueSo_73 : decode cL_isDueSo 73 = .ok (.iconst 4, 1) := by decide +kernel
theorem dL_isDueSo_74 : decode cL_isDueSo 74 = .ok (.invokevirtual 69, 3) := by decide +kernel
theorem dL_isDueSo_77 : decode cL_isDueSo 77 = .ok (.iadd, 1) := by decide +kernel
theorem dL_isDueSo_78 : decode cL_isDueSo 78 = .ok (.istore_n 3, 1) := by decide +kernel
theorem dL_isDueSo_79 : decode cL_isDueSo 79 = .ok (.aload_n 0, 1) := by decide +kernel
theorem dL_isDueSo_80 : decode cL_isDueSo 80 = .ok (.iload 6, 2) := by decide +kernel
theorem dL_isDueSo_82 : decode cL_isDueSo 82 = .ok (.iconst 0, 1) := by decide +kernel
theorem dL_isDueSo_83 : decode cL_isDueSo 83 = .ok (.invokevirtual 69, 3) := by decide +kernel
theorem dL_isDueSo_86 : decode cL_isDueSo 86 = .ok (.aload_n 0, 1) := by decide +kernel
theorem dL_isDueSo_87 : decode cL_isDueSo 87 = .ok (.iload 6, 2) := by decide +kernel
theorem dL_isDueSo_89 : decode cL_isDueSo 89 = .ok (.iconst 1, 1) := by decide +kernel
theorem dL_isDueSo_90 : decode cL_isDueSo 90 = .ok (.invokevirtual 69, 3) := by decide +kernel
theorem dL_isDueSo_93 : decode cL_isDueSo 93 = .ok (.aload_n 0, 1) := by decide +kernel
theorem dL_isDueSo_94 : decode cL_isDueSo 94 = .ok (.iload 6, 2) := by decide +kernel
theorem dL_isDueSo_96 : decode cL_isDueSo 96 = .ok (.iconst 2, 1) := by decide +kernel
theorem dL_isDueSo_97 : decode cL_isDueSo 97 = .ok (.invokevirtual 69, 3) := by decide +kernel
theorem dL_isDueSo_100 : decode cL_isDueSo 100 = .ok (.iadd, 1) := by decide +kernel
theorem dL_isDueSo_101 : decode cL_isDueSo 101 = .ok (.if_icmp .ne 19, 3) := by decide +kernel
theorem dL_isDueSo_104 : decode cL_isDueSo 104 = .ok (.aload_n 0, 1) := by decide +kernel
theorem dL_isDueSo_105 : decode cL_isDueSo 105 = .ok (.iload 6, 2) := by decide +kernel
theorem dL_isDueSo_107 : decode cL_isDueSo 107 = .ok (.iconst 5, 1) := by decide +kernel
theorem dL_isDueSo_108 : decode cL_isDueSo 108 = .ok (.invokevirtual 69, 3) := by decide +kernel
theorem dL_isDueSo_111 : decode cL_isDueSo 111 = .ok (.bipush 8, 2) := by decide +kernel
theorem dL_isDueSo_113 : decode cL_isDueSo 113 = .ok (.if_icmp .ge 7, 3) := by decide +kernel
theorem dL_isDueSo_116 : decode cL_isDueSo 116 = .ok (.iconst 1, 1) := by decide +kernel
theorem dL_isDueSo_117 : decode cL_isDueSo 117 = .ok (.goto 4, 3) := by decide +kernel
theorem dL_isDueSo_120 : decode cL_isDueSo 120 = .ok (.iconst 0, 1) := by decide +kernel
theorem dL_isDueSo_121 : decode cL_isDueSo 121 = .ok (.istore 5, 2) := by decide +kernel
theorem dL_isDueSo_123 : decode cL_isDueSo 123 = .ok (.iconst 0, 1) := by decide +kernel
theorem dL_isDueSo_124 : decode cL_isDueSo 124 = .ok (.istore 7, 2) := by decide +kernel
theorem dL_isDueSo_126 : decode cL_isDueSo 126 = .ok (.iload 7, 2) := by decide +kernel
theorem dL_isDueSo_128 : decode cL_isDueSo 128 = .ok (.iconst 5, 1) := by decide +kernel
theorem dL_isDueSo_129 : decode cL_isDueSo 129 = .ok (.if_icmp .ge 106, 3) := by decide +kernel
theorem dL_isDueSo_132 : decode cL_isDueSo 132 = .ok (.iload 5, 2) := by decide +kernel
theorem dL_isDueSo_134 : decode cL_isDueSo 134 = .ok (.ifCond .eq 101, 3) := by decide +kernel
theorem dL_isDueSo_137 : decode cL_isDueSo 137 = .ok (.aload_n 0, 1) := by decide +kernel
theorem dL_isDueSo_138 : decode cL_isDueSo 138 = .ok (.iload 7, 2) := by decide +kernel
theorem dL_isDueSo_140 : decode cL_isDueSo 140 = .ok (.iload 6, 2) := by decide +kernel
theorem dL_isDueSo_142 : decode cL_isDueSo 142 = .ok (.iconst 0, 1) := by decide +kernel
theorem dL_isDueSo_143 : decode cL_isDueSo 143 = .ok (.invokestatic 148, 3) := by decide +kernel
theorem dL_isDueSo_146 : decode cL_isDueSo 146 = .ok (.ifCond .lt 76, 3) := by decide +kernel
theorem dL_isDueSo_149 : decode cL_isDueSo 149 = .ok (.aload_n 0, 1) := by decide +kernel
theorem dL_isDueSo_150 : decode cL_isDueSo 150 = .ok (.iload 7, 2) := by decide +kernel
theorem dL_isDueSo_152 : decode cL_isDueSo 152 = .ok (.iload 6, 2) := by decide +kernel
theorem dL_isDueSo_154 : decode cL_isDueSo 154 = .ok (.iconst 4, 1) := by decide +kernel
theorem dL_isDueSo_155 : decode cL_isDueSo 155 = .ok (.invokevirtual 72, 3) := by decide +kernel
theorem dL_isDueSo_158 : decode cL_isDueSo 158 = .ok (.ifCond .lt 68, 3) := by decide +kernel
theorem dL_isDueSo_161 : decode cL_isDueSo 161 = .ok (.aload_n 0, 1) := by decide +kernel
theorem dL_isDueSo_162 : decode cL_isDueSo 162 = .ok (.iload 7, 2) := by decide +kernel
theorem dL_isDueSo_164 : decode cL_isDueSo 164 = .ok (.iload 6, 2) := by decide +kernel
theorem dL_isDueSo_166 : decode cL_isDueSo 166 = .ok (.iconst 2, 1) := by decide +kernel
theorem dL_isDueSo_167 : decode cL_isDueSo 167 = .ok (.invokevirtual 72, 3) := by decide +kernel
theorem dL_isDueSo_170 : decode cL_isDueSo 170 = .ok (.aload_n 0, 1) := by decide +kernel
theorem dL_isDueSo_171 : decode cL_isDueSo 171 = .ok (.iload 7, 2) := by decide +kernel
theorem dL_isDueSo_173 : decode cL_isDueSo 173 = .ok (.iload 6, 2) := by decide +kernel
theorem dL_isDueSo_175 : decode cL_isDueSo 175 = .ok (.iconst 0, 1) := by decide +kernel
theorem dL_isDueSo_176 : decode cL_isDueSo 176 = .ok (.invokevirtual 72, 3) := by decide +kernel
theorem dL_isDueSo_179 : decode cL_isDueSo 179 = .ok (.if_icmp .gt 47, 3) := by decide +kernel
theorem dL_isDueSo_182 : decode cL_isDueSo 182 = .ok (.aload_n 0, 1) := by decide +kernel
theorem dL_isDueSo_183 : decode cL_isDueSo 183 = .ok (.iload 7, 2) := by decide +kernel
theorem dL_isDueSo_185 : decode cL_isDueSo 185 = .ok (.iload 6, 2) := by decide +kernel
theorem dL_isDueSo_187 : decode cL_isDueSo 187 = .ok (.iconst 1, 1) := by decide +kernel
theorem dL_isDueSo_188 : decode cL_isDueSo 188 = .ok (.invokevirtual 72, 3) := by decide +kernel
theorem dL_isDueSo_191 : decode cL_isDueSo 191 = .ok (.aload_n 0, 1) := by decide +kernel
theorem dL_isDueSo_192 : decode cL_isDueSo 192 = .ok (.iload 7, 2) := by decide +kernel
theorem dL_isDueSo_194 : decode cL_isDueSo 194 = .ok (.iload 6, 2) := by decide +kernel
theorem dL_isDueSo_196 : decode cL_isDueSo 196 = .ok (.iconst 0, 1) := by decide +kernel
theorem dL_isDueSo_197 : decode cL_isDueSo 197 = .ok (.invokevirtual 72, 3) := by decide +kernel
theorem dL_isDueSo_200 : decode cL_isDueSo 200 = .ok (.if_icmp .gt 26, 3) := by decide +kernel
theorem dL_isDueSo_203 : decode cL_isDueSo 203 = .ok (.aload_n 0, 1) := by decide +kernel
theorem dL_isDueSo_204 : decode cL_isDueSo 204 = .ok (.iload 7, 2) := by decide +kernel
theorem dL_isDueSo_206 : decode cL_isDueSo 206 = .ok (.iload 6, 2) := by decide +kernel
theorem dL_isDueSo_208 : decode cL_isDueSo 208 = .ok (.iconst 0, 1) := by decide +kernel
theorem dL_isDueSo_209 : decode cL_isDueSo 209 = .ok (.invokevirtual 72, 3) := by decide +kernel
theorem dL_isDueSo_212 : decode cL_isDueSo 212 = .ok (.aload_n 0, 1) := by decide +kernel
theorem dL_isDueSo_213 : decode cL_isDueSo 213 = .ok (.iload 6, 2) := by decide +kernel
theorem dL_isDueSo_215 : decode cL_isDueSo 215 = .ok (.iconst 2, 1) := by decide +kernel
theorem dL_isDueSo_216 : decode cL_isDueSo 216 = .ok (.invokevirtual 69, 3) := by decide +kernel
theorem dL_isDueSo_219 : decode cL_isDueSo 219 = .ok (.if_icmp .gt 7, 3) := by decide +kernel
theorem dL_isDueSo_222 : decode cL_isDueSo 222 = .ok (.iconst 1, 1) := by decide +kernel
theorem dL_isDueSo_223 : decode cL_isDueSo 223 = .ok (.goto 4, 3) := by decide +kernel
theorem dL_isDueSo_226 : decode cL_isDueSo 226 = .ok (.iconst 0, 1) := by decide +kernel
theorem dL_isDueSo_227 : decode cL_isDueSo 227 = .ok (.istore 5, 2) := by decide +kernel
theorem dL_isDueSo_229 : decode cL_isDueSo 229 = .ok (.iinc 7 1, 3) := by decide +kernel
theorem dL_isDueSo_232 : decode cL_isDueSo 232 = .ok (.goto (-106), 3) := by decide +kernel
theorem dL_isDueSo_235 : decode cL_isDueSo 235 = .ok (.iinc 6 1, 3) := by decide +kernel
theorem dL_isDueSo_238 : decode cL_isDueSo 238 = .ok (.goto (-223), 3) := by decide +kernel
theorem dL_isDueSo_241 : decode cL_isDueSo 241 = .ok (.iconst 0, 1) := by decide +kernel
theorem dL_isDueSo_242 : decode cL_isDueSo 242 = .ok (.istore 6, 2) := by decide +kernel
theorem dL_isDueSo_244 : decode cL_isDueSo 244 = .ok (.iconst 0, 1) := by decide +kernel
theorem dL_isDueSo_245 : decode cL_isDueSo 245 = .ok (.istore 7, 2) := by decide +kernel
theorem dL_isDueSo_247 : decode cL_isDueSo 247 = .ok (.iload 7, 2) := by decide +kernel
theorem dL_isDueSo_249 : decode cL_isDueSo 249 = .ok (.bipush 6, 2) := by decide +kernel
theorem dL_isDueSo_251 : decode cL_isDueSo 251 = .ok (.if_icmp .ge 77, 3) := by decide +kernel
theorem dL_isDueSo_254 : decode cL_isDueSo 254 = .ok (.iload 6, 2) := by decide +kernel
theorem dL_isDueSo_256 : decode cL_isDueSo 256 = .ok (.aload_n 0, 1) := by decide +kernel
theorem dL_isDueSo_257 : decode cL_isDueSo 257 = .ok (.iload 7, 2) := by decide +kernel
theorem dL_isDueSo_259 : decode cL_isDueSo 259 = .ok (.iconst 0, 1) := by decide +kernel
theorem dL_isDueSo_260 : decode cL_isDueSo 260 = .ok (.invokevirtual 78, 3) := by decide +kernel
theorem dL_isDueSo_263 : decode cL_isDueSo 263 = .ok (.iadd, 1) := by decide +kernel
theorem dL_isDueSo_264 : decode cL_isDueSo 264 = .ok (.istore 6, 2) := by decide +kernel
theorem dL_isDueSo_266 : decode cL_isDueSo 266 = .ok (.iload 5, 2) := by decide +kernel
theorem dL_isDueSo_268 : decode cL_isDueSo 268 = .ok (.ifCond .eq 51, 3) := by decide +kernel
theorem dL_isDueSo_271 : decode cL_isDueSo 271 = .ok (.aload_n 0, 1) := by decide +kernel
theorem dL_isDueSo_272 : decode cL_isDueSo 272 = .ok (.iload 7, 2) := by decide +kernel
theorem dL_isDueSo_274 : decode cL_isDueSo 274 = .ok (.iconst 1, 1) := by decide +kernel
theorem dL_isDueSo_275 : decode cL_isDueSo 275 = .ok (.invokevirtual 78, 3) := by decide +kernel
theorem dL_isDueSo_278 : decode cL_isDueSo 278 = .ok (.aload_n 0, 1) := by decide +kernel
theorem dL_isDueSo_279 : decode cL_isDueSo 279 = .ok (.iload 7, 2) := by decide +kernel
theorem dL_isDueSo_281 : decode cL_isDueSo 281 = .ok (.iconst 0, 1) := by decide +kernel
theorem dL_isDueSo_282 : decode cL_isDueSo 282 = .ok (.invokevirtual 78, 3) := by decide +kernel
theorem dL_isDueSo_285 : decode cL_isDueSo 285 = .ok (.if_icmp .lt 34, 3) := by decide +kernel
theorem dL_isDueSo_288 : decode cL_isDueSo 288 = .ok (.aload_n 0, 1) := by decide +kernel
theorem dL_isDueSo_289 : decode cL_isDueSo 289 = .ok (.iload 7, 2) := by decide +kernel
theorem dL_isDueSo_291 : decode cL_isDueSo 291 = .ok (.iconst 2, 1) := by decide +kernel
theorem dL_isDueSo_292 : decode cL_isDueSo 292 = .ok (.invokevirtual 78, 3) := by decide +kernel
theorem dL_isDueSo_295 : decode cL_isDueSo 295 = .ok (.aload_n 0, 1) := by decide +kernel
theorem dL_isDueSo_296 : decode cL_isDueSo 296 = .ok (.iload 7, 2) := by decide +kernel
theorem dL_isDueSo_298 : decode cL_isDueSo 298 = .ok (.iconst 1, 1) := by decide +kernel
theorem dL_isDueSo_299 : decode cL_isDueSo 299 = .ok (.invokevirtual 78, 3) := by decide +kernel
theorem dL_isDueSo_302 : decode cL_isDueSo 302 = .ok (.if_icmp .gt 17, 3) := by decide +kernel
theorem dL_isDueSo_305 : decode cL_isDueSo 305 = .ok (.aload_n 0, 1) := by decide +kernel
theorem dL_isDueSo_306 : decode cL_isDueSo 306 = .ok (.iload 7, 2) := by decide +kernel
theorem dL_isDueSo_308 : decode cL_isDueSo 308 = .ok (.iconst 2, 1) := by decide +kernel
theorem dL_isDueSo_309 : decode cL_isDueSo 309 = .ok (.invokevirtual 78, 3) := by decide +kernel
theorem dL_isDueSo_312 : decode cL_isDueSo 312 = .ok (.ifCond .lt 7, 3) := by decide +kernel
theorem dL_isDueSo_315 : decode cL_isDueSo 315 = .ok (.iconst 1, 1) := by decide +kernel
theorem dL_isDueSo_316 : decode cL_isDueSo 316 = .ok (.goto 4, 3) := by decide +kernel
theorem dL_isDueSo_319 : decode cL_isDueSo 319 = .ok (.iconst 0, 1) := by decide +kernel
theorem dL_isDueSo_320 : decode cL_isDueSo 320 = .ok (.istore 5, 2) := by decide +kernel
theorem dL_isDueSo_322 : decode cL_isDueSo 322 = .ok (.iinc 7 1, 3) := by decide +kernel
theorem dL_isDueSo_325 : decode cL_isDueSo 325 = .ok (.goto (-78), 3) := by decide +kernel
theorem dL_isDueSo_328 : decode cL_isDueSo 328 = .ok (.iload 5, 2) := by decide +kernel
theorem dL_isDueSo_330 : decode cL_isDueSo 330 = .ok (.ifCond .eq 75, 3) := by decide +kernel
theorem dL_isDueSo_333 : decode cL_isDueSo 333 = .ok (.aload_n 0, 1) := by decide +kernel
theorem dL_isDueSo_334 : decode cL_isDueSo 334 = .ok (.iconst 0, 1) := by decide +kernel
theorem dL_isDueSo_335 : decode cL_isDueSo 335 = .ok (.invokevirtual 75, 3) := by decide +kernel
theorem dL_isDueSo_338 : decode cL_isDueSo 338 = .ok (.aload_n 0, 1) := by decide +kernel
theorem dL_isDueSo_339 : decode cL_isDueSo 339 = .ok (.iconst 1, 1) := by decide +kernel
theorem dL_isDueSo_340 : decode cL_isDueSo 340 = .ok (.invokevirtual 75, 3) := by decide +kernel
theorem dL_isDueSo_343 : decode cL_isDueSo 343 = .ok (.iload 4, 2) := by decide +kernel
theorem dL_isDueSo_345 : decode cL_isDueSo 345 = .ok (.iadd, 1) := by decide +kernel
theorem dL_isDueSo_346 : decode cL_isDueSo 346 = .ok (.if_icmp .ne 59, 3) := by decide +kernel
theorem dL_isDueSo_349 : decode cL_isDueSo 349 = .ok (.aload_n 0, 1) := by decide +kernel
theorem dL_isDueSo_350 : decode cL_isDueSo 350 = .ok (.iconst 2, 1) := by decide +kernel
theorem dL_isDueSo_351 : decode cL_isDueSo 351 = .ok (.invokevirtual 75, 3) := by decide +kernel
theorem dL_isDueSo_354 : decode cL_isDueSo 354 = .ok (.iload_n 1, 1) := by decide +kernel
theorem dL_isDueSo_355 : decode cL_isDueSo 355 = .ok (.if_icmp .ne 50, 3) := by decide +kernel
theorem dL_isDueSo_358 : decode cL_isDueSo 358 = .ok (.aload_n 0, 1) := by decide +kernel
theorem dL_isDueSo_359 : decode cL_isDueSo 359 = .ok (.iconst 3, 1) := by decide +kernel
theorem dL_isDueSo_360 : decode cL_isDueSo 360 = .ok (.invokevirtual 75, 3) := by decide +kernel
theorem dL_isDueSo_363 : decode cL_isDueSo 363 = .ok (.iload_n 2, 1) := by decide +kernel
theorem dL_isDueSo_364 : decode cL_isDueSo 364 = .ok (.if_icmp .ne 41, 3) := by decide +kernel
theorem dL_isDueSo_367 : decode cL_isDueSo 367 = .ok (.aload_n 0, 1) := by decide +kernel
theorem dL_isDueSo_368 : decode cL_isDueSo 368 = .ok (.iconst 5, 1) := by decide +kernel
theorem dL_isDueSo_369 : decode cL_isDueSo 369 = .ok (.invokevirtual 75, 3) := by decide +kernel
theorem dL_isDueSo_372 : decode cL_isDueSo 372 = .ok (.iload_n 3, 1) := by decide +kernel
theorem dL_isDueSo_373 : decode cL_isDueSo 373 = .ok (.if_icmp .ne 32, 3) := by decide +kernel
theorem dL_isDueSo_376 : decode cL_isDueSo 376 = .ok (.aload_n 0, 1) := by decide +kernel
theorem dL_isDueSo_377 : decode cL_isDueSo 377 = .ok (.bipush 7, 2) := by decide +kernel
theorem dL_isDueSo_379 : decode cL_isDueSo 379 = .ok (.invokevirtual 75, 3) := by decide +kernel
theorem dL_isDueSo_382 : decode cL_isDueSo 382 = .ok (.iload 6, 2) := by decide +kernel
theorem dL_isDueSo_384 : decode cL_isDueSo 384 = .ok (.if_icmp .ne 21, 3) := by decide +kernel
theorem dL_isDueSo_387 : decode cL_isDueSo 387 = .ok (.aload_n 0, 1) := by decide +kernel
theorem dL_isDueSo_388 : decode cL_isDueSo 388 = .ok (.iconst 4, 1) := by decide +kernel
theorem dL_isDueSo_389 : decode cL_isDueSo 389 = .ok (.invokevirtual 75, 3) := by decide +kernel
theorem dL_isDueSo_392 : decode cL_isDueSo 392 = .ok (.iload_n 2, 1) := by decide +kernel
theorem dL_isDueSo_393 : decode cL_isDueSo 393 = .ok (.iload_n 1, 1) := by decide +kernel
theorem dL_isDueSo_394 : decode cL_isDueSo 394 = .ok (.iadd, 1) := by decide +kernel
theorem dL_isDueSo_395 : decode cL_isDueSo 395 = .ok (.iload 6, 2) := by decide +kernel
theorem dL_isDueSo_397 : decode cL_isDueSo 397 = .ok (.isub, 1) := by decide +kernel
theorem dL_isDueSo_398 : decode cL_isDueSo 398 = .ok (.if_icmp .ne 7, 3) := by decide +kernel
theorem dL_isDueSo_401 : decode cL_isDueSo 401 = .ok (.iconst 1, 1) := by decide +kernel
theorem dL_isDueSo_402 : decode cL_isDueSo 402 = .ok (.goto 4, 3) := by decide +kernel
theorem dL_isDueSo_405 : decode cL_isDueSo 405 = .ok (.iconst 0, 1) := by decide +kernel
theorem dL_isDueSo_406 : decode cL_isDueSo 406 = .ok (.istore 5, 2) := by decide +kernel
theorem dL_isDueSo_408 : decode cL_isDueSo 408 = .ok (.iload 5, 2) := by decide +kernel
theorem dL_isDueSo_410 : decode cL_isDueSo 410 = .ok (.ifCond .eq 42, 3) := by decide +kernel
theorem dL_isDueSo_413 : decode cL_isDueSo 413 = .ok (.aload_n 0, 1) := by decide +kernel
theorem dL_isDueSo_414 : decode cL_isDueSo 414 = .ok (.bipush 6, 2) := by decide +kernel
theorem dL_isDueSo_416 : decode cL_isDueSo 416 = .ok (.invokevirtual 75, 3) := by decide +kernel
theorem dL_isDueSo_419 : decode cL_isDueSo 419 = .ok (.aload_n 0, 1) := by decide +kernel
theorem dL_isDueSo_420 : decode cL_isDueSo 420 = .ok (.iconst 0, 1) := by decide +kernel
theorem dL_isDueSo_421 : decode cL_isDueSo 421 = .ok (.invokevirtual 75, 3) := by decide +kernel
theorem dL_isDueSo_424 : decode cL_isDueSo 424 = .ok (.iload 6, 2) := by decide +kernel
theorem dL_isDueSo_426 : decode cL_isDueSo 426 = .ok (.isub, 1) := by decide +kernel
theorem dL_isDueSo_427 : decode cL_isDueSo 427 = .ok (.iload_n 3, 1) := by decide +kernel
theorem dL_isDueSo_428 : decode cL_isDueSo 428 = .ok (.iadd, 1) := by decide +kernel
theorem dL_isDueSo_429 : decode cL_isDueSo 429 = .ok (.if_icmp .ne 23, 3) := by decide +kernel
theorem dL_isDueSo_432 : decode cL_isDueSo 432 = .ok (.aload_n 0, 1) := by decide +kernel
theorem dL_isDueSo_433 : decode cL_isDueSo 433 = .ok (.invokevirtual 154, 3) := by decide +kernel
theorem dL_isDueSo_436 : decode cL_isDueSo 436 = .ok (.ifCond .le 16, 3) := by decide +kernel
theorem dL_isDueSo_439 : decode cL_isDueSo 439 = .ok (.aload_n 0, 1) := by decide +kernel
theorem dL_isDueSo_440 : decode cL_isDueSo 440 = .ok (.invokevirtual 154, 3) := by decide +kernel
theorem dL_isDueSo_443 : decode cL_isDueSo 443 = .ok (.bipush 41, 2) := by decide +kernel
theorem dL_isDueSo_445 : decode cL_isDueSo 445 = .ok (.if_icmp .ge 7, 3) := by decide +kernel
theorem dL_isDueSo_448 : decode cL_isDueSo 448 = .ok (.iconst 1, 1) := by decide +kernel
theorem dL_isDueSo_449 : decode cL_isDueSo 449 = .ok (.goto 4, 3) := by decide +kernel
theorem dL_isDueSo_452 : decode cL_isDueSo 452 = .ok (.iconst 0, 1) := by decide +kernel
theorem dL_isDueSo_453 : decode cL_isDueSo 453 = .ok (.ireturn, 1) := by decide +kernel
theorem dL_isSo_0 : decode cL_isSo 0 = .ok (.aload_n 0, 1) := by decide +kernel
theorem dL_isSo_1 : decode cL_isSo 1 = .ok (.invokestatic 177, 3) := by decide +kernel
theorem dL_isSo_4 : decode cL_isSo 4 = .ok (.istore_n 2, 1) := by decide +kernel
theorem dL_isSo_5 : decode cL_isSo 5 = .ok (.iconst 0, 1) := by decide +kernel
theorem dL_isSo_6 : decode cL_isSo 6 = .ok (.istore_n 3, 1) := by decide +kernel
theorem dL_isSo_7 : decode cL_isSo 7 = .ok (.iload_n 3, 1) := by decide +kernel
theorem dL_isSo_8 : decode cL_isSo 8 = .ok (.iconst 3, 1) := by decide +kernel
theorem dL_isSo_9 : decode cL_isSo 9 = .ok (.if_icmp .ge 49, 3) := by decide +kernel
theorem dL_isSo_12 : decode cL_isSo 12 = .ok (.iload_n 2, 1) := by decide +kernel
theorem dL_isSo_13 : decode cL_isSo 13 = .ok (.ifCond .eq 45, 3) := by decide +kernel
theorem dL_isSo_16 : decode cL_isSo 16 = .ok (.aload_n 0, 1) := by decide +kernel
theorem dL_isSo_17 : decode cL_isSo 17 = .ok (.iload_n 3, 1) := by decide +kernel
theorem dL_isSo_18 : decode cL_isSo 18 = .ok (.invokestatic 159, 3) := by decide +kernel
theorem dL_isSo_21 : decode cL_isSo 21 = .ok (.istore 4, 2) := by decide +kernel
theorem dL_isSo_23 : decode cL_isSo 23 = .ok (.aload_n 0, 1) := by decide +kernel
theorem dL_isSo_24 : decode cL_isSo 24 = .ok (.iload_n 3, 1) := by decide +kernel
theorem dL_isSo_25 : decode cL_isSo 25 = .ok (.invokevirtual 81, 3) := by decide +kernel
theorem dL_isSo_28 : decode cL_isSo 28 = .ok (.ifCond .lt 22, 3) := by decide +kernel
theorem dL_isSo_31 : decode cL_isSo 31 = .ok (.iload 4, 2) := by decide +kernel
theorem dL_isSo_33 : decode cL_isSo 33 = .ok (.ifCond .lt 13, 3) := by decide +kernel
theorem dL_isSo_36 : decode cL_isSo 36 = .ok (.iload 4, 2) := by decide +kernel
theorem dL_isSo_38 : decode cL_isSo 38 = .ok (.aload_n 0, 1) := by decide +kernel
theorem dL_isSo_39 : decode cL_isSo 39 = .ok (.iload_n 3, 1) := by decide +kernel
theorem dL_isSo_40 : decode cL_isSo 40 = .ok (.invokevirtual 81, 3) := by decide +kernel
theorem dL_isSo_43 : decode cL_isSo 43 = .ok (.if_icmp .ne 7, 3) := by decide +kernel
theorem dL_isSo_46 : decode cL_isSo 46 = .ok (.iconst 1, 1) := by decide +kernel
theorem dL_isSo_47 : decode cL_isSo 47 = .ok (.goto 4, 3) := by decide +kernel
theorem dL_isSo_50 : decode cL_isSo 50 = .ok (.iconst 0, 1) := by decide +kernel
theorem dL_isSo_51 : decode cL_isSo 51 = .ok (.istore_n 2, 1) := by decide +kernel
theorem dL_isSo_52 : decode cL_isSo 52 = .ok (.iinc 3 1, 3) := by decide +kernel
theorem dL_isSo_55 : decode cL_isSo 55 = .ok (.goto (-48), 3) := by decide +kernel
theorem dL_isSo_58 : decode cL_isSo 58 = .ok (.iconst 0, 1) := by decide +kernel
theorem dL_isSo_59 : decode cL_isSo 59 = .ok (.istore_n 3, 1) := by decide +kernel
theorem dL_isSo_60 : decode cL_isSo 60 = .ok (.iconst 0, 1) := by decide +kernel
theorem dL_isSo_61 : decode cL_isSo 61 = .ok (.istore 4, 2) := by decide +kernel
theorem dL_isSo_63 : decode cL_isSo 63 = .ok (.iload 4, 2) := by decide +kernel
theorem dL_isSo_65 : decode cL_isSo 65 = .ok (.iconst 5, 1) := by decide +kernel
theorem dL_isSo_66 : decode cL_isSo 66 = .ok (.if_icmp .ge 118, 3) := by decide +kernel
theorem dL_isSo_69 : decode cL_isSo 69 = .ok (.iload_n 2, 1) := by decide +kernel
theorem dL_isSo_70 : decode cL_isSo 70 = .ok (.ifCond .eq 114, 3) := by decide +kernel
theorem dL_isSo_73 : decode cL_isSo 73 = .ok (.aload_n 0, 1) := by decide +kernel
theorem dL_isSo_74 : decode cL_isSo 74 = .ok (.iload 4, 2) := by decide +kernel
theorem dL_isSo_76 : decode cL_isSo 76 = .ok (.iconst 0, 1) := by decide +kernel
theorem dL_isSo_77 : decode cL_isSo 77 = .ok (.invokestatic 164, 3) := by decide +kernel
theorem dL_isSo_80 : decode cL_isSo 80 = .ok (.istore 5, 2) := by decide +kernel
theorem dL_isSo_82 : decode cL_isSo 82 = .ok (.iload 5, 2) := by decide +kernel
theorem dL_isSo_84 : decode cL_isSo 84 = .ok (.ifCond .lt 94, 3) := by decide +kernel
theorem dL_isSo_87 : decode cL_isSo 87 = .ok (.aload_n 0, 1) := by decide +kernel
theorem dL_isSo_88 : decode cL_isSo 88 = .ok (.iload 4, 2) := by decide +kernel
theorem dL_isSo_90 : decode cL_isSo 90 = .ok (.iconst 3, 1) := by decide +kernel
theorem dL_isSo_91 : decode cL_isSo 91 = .ok (.invokevirtual 87, 3) := by decide +kernel
theorem dL_isSo_94 : decode cL_isSo 94 = .ok (.aload_n 0, 1) := by decide +kernel
theorem dL_isSo_95 : decode cL_isSo 95 = .ok (.iload 4, 2) := by decide +kernel
theorem dL_isSo_97 : decode cL_isSo 97 = .ok (.iconst 4, 1) := by decide +kernel
theorem dL_isSo_98 : decode cL_isSo 98 = .ok (.invokevirtual 87, 3) := by decide +kernel
theorem dL_isSo_101 : decode cL_isSo 101 = .ok (.iadd, 1) := by decide +kernel
theorem dL_isSo_102 : decode cL_isSo 102 = .ok (.istore 6, 2) := by decide +kernel
theorem dL_isSo_104 : decode cL_isSo 104 = .ok (.iload_n 3, 1) := by decide +kernel
theorem dL_isSo_105 : decode cL_isSo 105 = .ok (.aload_n 0, 1) := by decide +kernel
theorem dL_isSo_106 : decode cL_isSo 106 = .ok (.iload 4, 2) := by decide +kernel
theorem dL_isSo_108 : decode cL_isSo 108 = .ok (.iconst 1, 1) := by decide +kernel
theorem dL_isSo_109 : decode cL_isSo 109 = .ok (.invokevirtual 87, 3) := by decide +kernel
theorem dL_isSo_112 : decode cL_isSo 112 = .ok (.iadd, 1) := by decide +kernel
theorem dL_isSo_113 : decode cL_isSo 113 = .ok (.istore_n 3, 1) := by decide +kernel
theorem dL_isSo_114 : decode cL_isSo 114 = .ok (.iload 5, 2) := by decide +kernel
theorem dL_isSo_116 : decode cL_isSo 116 = .ok (.bipush 10, 2) := by decide +kernel
theorem dL_isSo_118 : decode cL_isSo 118 = .ok (.if_icmp .ge 58, 3) := by decide +kernel
theorem dL_isSo_121 : decode cL_isSo 121 = .ok (.aload_n 0, 1) := by decide +kernel
theorem dL_isSo_122 : decode cL_isSo 122 = .ok (.iload 4, 2) := by decide +kernel
theorem dL_isSo_124 : decode cL_isSo 124 = .ok (.iconst 2, 1) := by decide +kernel
theorem dL_isSo_125 : decode cL_isSo 125 = .ok (.invokevirtual 87, 3) := by decide +kernel
theorem dL_isSo_128 : decode cL_isSo 128 = .ok (.iconst 1, 1) := by decide +kernel
theorem dL_isSo_129 : decode cL_isSo 129 = .ok (.if_icmp .ne 11, 3) := by decide +kernel
theorem dL_isSo_132 : decode cL_isSo 132 = .ok (.iload 6, 2) := by decide +kernel
theorem dL_isSo_134 : decode cL_isSo 134 = .ok (.ifCond .ne 42, 3) := by decide +kernel
theorem dL_isSo_137 : decode cL_isSo 137 = .ok (.goto 25, 3) := by decide +kernel
theorem dL_isSo_140 : decode cL_isSo 140 = .ok (.iload 6, 2) := by decide +kernel
theorem dL_isSo_142 : decode cL_isSo 142 = .ok (.ifCond .le 34, 3) := by decide +kernel
theorem dL_isSo_145 : decode cL_isSo 145 = .ok (.aload_n 0, 1) := by decide +kernel
theorem dL_isSo_146 : decode cL_isSo 146 = .ok (.iload 4, 2) := by decide +kernel
theorem dL_isSo_148 : decode cL_isSo 148 = .ok (.iconst 3, 1) := by decide +kernel
theorem dL_isSo_149 : decode cL_isSo 149 = .ok (.invokevirtual 87, 3) := by decide +kernel
theorem dL_isSo_152 : decode cL_isSo 152 = .ok (.aload_n 0, 1) := by decide +kernel
theorem dL_isSo_153 : decode cL_isSo 153 = .ok (.iload 4, 2) := by decide +kernel
theorem dL_isSo_155 : decode cL_isSo 155 = .ok (.iconst 1, 1) := by decide +kernel
theorem dL_isSo_156 : decode cL_isSo 156 = .ok (.invokevirtual 87, 3) := by decide +kernel
theorem dL_isSo_159 : decode cL_isSo 159 = .ok (.if_icmp .ne 17, 3) := by decide +kernel
theorem dL_isSo_162 : decode cL_isSo 162 = .ok (.aload_n 0, 1) := by decide +kernel
theorem dL_isSo_163 : decode cL_isSo 163 = .ok (.iload 4, 2) := by decide +kernel
theorem dL_isSo_165 : decode cL_isSo 165 = .ok (.iconst 1, 1) := by decide +kernel
theorem dL_isSo_166 : decode cL_isSo 166 = .ok (.invokevirtual 87, 3) := by decide +kernel
theorem dL_isSo_169 : decode cL_isSo 169 = .ok (.ifCond .lt 7, 3) := by decide +kernel
theorem dL_isSo_172 : decode cL_isSo 172 = .ok (.iconst 1, 1) := by decide +kernel
theorem dL_isSo_173 : decode cL_isSo 173 = .ok (.goto 4, 3) := by decide +kernel
theorem dL_isSo_176 : decode cL_isSo 176 = .ok (.iconst 0, 1) := by decide +kernel
theorem dL_isSo_177 : decode cL_isSo 177 = .ok (.istore_n 2, 1) := by decide +kernel
theorem dL_isSo_178 : decode cL_isSo 178 = .ok (.iinc 4 1, 3) := by decide +kernel
theorem dL_isSo_181 : decode cL_isSo 181 = .ok (.goto (-118), 3) := by decide +kernel
theorem dL_isSo_184 : decode cL_isSo 184 = .ok (.iconst 0, 1) := by decide +kernel
theorem dL_isSo_185 : decode cL_isSo 185 = .ok (.istore 4, 2) := by decide +kernel
theorem dL_isSo_187 : decode cL_isSo 187 = .ok (.iload 4, 2) := by decide +kernel
theorem dL_isSo_189 : decode cL_isSo 189 = .ok (.iconst 5, 1) := by decide +kernel
theorem dL_isSo_190 : decode cL_isSo 190 = .ok (.if_icmp .ge 74, 3) := by decide +kernel
theorem dL_isSo_193 : decode cL_isSo 193 = .ok (.iload_n 2, 1) := by decide +kernel
theorem dL_isSo_194 : decode cL_isSo 194 = .ok (.ifCond .eq 70, 3) := by decide +kernel
theorem dL_isSo_197 : decode cL_isSo 197 = .ok (.iconst 0, 1) := by decide +kernel
theorem dL_isSo_198 : decode cL_isSo 198 = .ok (.istore 5, 2) := by decide +kernel
theorem dL_isSo_200 : decode cL_isSo 200 = .ok (.iload 5, 2) := by decide +kernel
theorem dL_isSo_202 : decode cL_isSo 202 = .ok (.iconst 3, 1) := by decide +kernel
theorem dL_isSo_203 : decode cL_isSo 203 = .ok (.if_icmp .ge 55, 3) := by decide +kernel
theorem dL_isSo_206 : decode cL_isSo 206 = .ok (.iload_n 1, 1) := by decide +kernel
theorem dL_isSo_207 : decode cL_isSo 207 = .ok (.iload 4, 2) := by decide +kernel
theorem dL_isSo_209 : decode cL_isSo 209 = .ok (.ishr, 1) := by decide +kernel
theorem dL_isSo_210 : decode cL_isSo 210 = .ok (.bipush 99, 2) := by decide +kernel
theorem dL_isSo_212 : decode cL_isSo 212 = .ok (.invokestatic 103, 3) := by decide +kernel
theorem dL_isSo_215 : decode cL_isSo 215 = .ok (.istore 6, 2) := by decide +kernel
theorem dL_isSo_217 : decode cL_isSo 217 = .ok (.iload_n 2, 1) := by decide +kernel
theorem dL_isSo_218 : decode cL_isSo 218 = .ok (.ifCond .eq 32, 3) := by decide +kernel
theorem dL_isSo_221 : decode cL_isSo 221 = .ok (.aload_n 0, 1) := by decide +kernel
theorem dL_isSo_222 : decode cL_isSo 222 = .ok (.iload 4, 2) := by decide +kernel
theorem dL_isSo_224 : decode cL_isSo 224 = .ok (.iload 5, 2) := by decide +kernel
theorem dL_isSo_226 : decode cL_isSo 226 = .ok (.iload 6, 2) := by decide +kernel
theorem dL_isSo_228 : decode cL_isSo 228 = .ok (.iconst 1, 1) := by decide +kernel
theorem dL_isSo_229 : decode cL_isSo 229 = .ok (.iadd, 1) := by decide +kernel
theorem dL_isSo_230 : decode cL_isSo 230 = .ok (.invokestatic 172, 3) := by decide +kernel
theorem dL_isSo_233 : decode cL_isSo 233 = .ok (.aload_n 0, 1) := by decide +kernel
theorem dL_isSo_234 : decode cL_isSo 234 = .ok (.iload 4, 2) := by decide +kernel
theorem dL_isSo_236 : decode cL_isSo 236 = .ok (.iload 5, 2) := by decide +kernel
theorem dL_isSo_238 : decode cL_isSo 238 = .ok (.iload 6, 2) := by decide +kernel
theorem dL_isSo_240 : decode cL_isSo 240 = .ok (.invokestatic 172, 3) := by decide +kernel
theorem dL_isSo_243 : decode cL_isSo 243 = .ok (.if_icmp .gt 7, 3) := by decide +kernel
theorem dL_isSo_246 : decode cL_isSo 246 = .ok (.iconst 1, 1) := by decide +kernel
theorem dL_isSo_247 : decode cL_isSo 247 = .ok (.goto 4, 3) := by decide +kernel
theorem dL_isSo_250 : decode cL_isSo 250 = .ok (.iconst 0, 1) := by decide +kernel
theorem dL_isSo_251 : decode cL_isSo 251 = .ok (.istore_n 2, 1) := by decide +kernel
theorem dL_isSo_252 : decode cL_isSo 252 = .ok (.iinc 5 1, 3) := by decide +kernel
theorem dL_isSo_255 : decode cL_isSo 255 = .ok (.goto (-55), 3) := by decide +kernel
theorem dL_isSo_258 : decode cL_isSo 258 = .ok (.iinc 4 1, 3) := by decide +kernel
theorem dL_isSo_261 : decode cL_isSo 261 = .ok (.goto (-74), 3) := by decide +kernel
theorem dL_isSo_264 : decode cL_isSo 264 = .ok (.iload_n 2, 1) := by decide +kernel
theorem dL_isSo_265 : decode cL_isSo 265 = .ok (.ifCond .eq 22, 3) := by decide +kernel
theorem dL_isSo_268 : decode cL_isSo 268 = .ok (.aload_n 0, 1) := by decide +kernel
theorem dL_isSo_269 : decode cL_isSo 269 = .ok (.invokevirtual 166, 3) := by decide +kernel
theorem dL_isSo_272 : decode cL_isSo 272 = .ok (.iload_n 3, 1) := by decide +kernel
theorem dL_isSo_273 : decode cL_isSo 273 = .ok (.aload_n 0, 1) := by decide +kernel
theorem dL_isSo_274 : decode cL_isSo 274 = .ok (.bipush 6, 2) := by decide +kernel
theorem dL_isSo_276 : decode cL_isSo 276 = .ok (.invokevirtual 75, 3) := by decide +kernel
theorem dL_isSo_279 : decode cL_isSo 279 = .ok (.isub, 1) := by decide +kernel
theorem dL_isSo_280 : decode cL_isSo 280 = .ok (.if_icmp .ne 7, 3) := by decide +kernel
theorem dL_isSo_283 : decode cL_isSo 283 = .ok (.iconst 1, 1) := by decide +kernel
theorem dL_isSo_284 : decode cL_isSo 284 = .ok (.goto 4, 3) := by decide +kernel
theorem dL_isSo_287 : decode cL_isSo 287 = .ok (.iconst 0, 1) := by decide +kernel
theorem dL_isSo_288 : decode cL_isSo 288 = .ok (.ireturn, 1) := by decide +kernel
theorem dL_law_0 : decode cL_law 0 = .ok (.new 9, 3) := by decide +kernel
theorem dL_law_3 : decode cL_law 3 = .ok (.dup, 1) := by decide +kernel
theorem dL_law_4 : decode cL_law 4 = .ok (.invokespecial 181, 3) := by decide +kernel
theorem dL_law_7 : decode cL_law 7 = .ok (.astore_n 1, 1) := by decide +kernel
theorem dL_law_8 : decode cL_law 8 = .ok (.new 9, 3) := by decide +kernel
theorem dL_law_11 : decode cL_law 11 = .ok (.dup, 1) := by decide +kernel
theorem dL_law_12 : decode cL_law 12 = .ok (.invokespecial 181, 3) := by decide +kernel
theorem dL_law_15 : decode cL_law 15 = .ok (.astore_n 2, 1) := by decide +kernel
theorem dL_law_16 : decode cL_law 16 = .ok (.iconst 0, 1) := by decide +kernel
theorem dL_law_17 : decode cL_law 17 = .ok (.istore_n 3, 1) := by decide +kernel
theorem dL_law_18 : decode cL_law 18 = .ok (.iload_n 3, 1) := by decide +kernel
theorem dL_law_19 : decode cL_law 19 = .ok (.bipush 110, 2) := by decide +kernel
theorem dL_law_21 : decode cL_law 21 = .ok (.if_icmp .ge 89, 3) := by decide +kernel
theorem dL_law_24 : decode cL_law 24 = .ok (.aload_n 0, 1) := by decide +kernel
theorem dL_law_25 : decode cL_law 25 = .ok (.iload_n 3, 1) := by decide +kernel
theorem dL_law_26 : decode cL_law 26 = .ok (.invokestatic 182, 3) := by decide +kernel
theorem dL_law_29 : decode cL_law 29 = .ok (.istore 4, 2) := by decide +kernel
theorem dL_law_31 : decode cL_law 31 = .ok (.aload_n 1, 1) := by decide +kernel
theorem dL_law_32 : decode cL_law 32 = .ok (.iload 4, 2) := by decide +kernel
theorem dL_law_34 : decode cL_law 34 = .ok (.invokestatic 186, 3) := by decide +kernel
theorem dL_law_37 : decode cL_law 37 = .ok (.lstore 5, 2) := by decide +kernel
theorem dL_law_39 : decode cL_law 39 = .ok (.lload 5, 2) := by decide +kernel
theorem dL_law_41 : decode cL_law 41 = .ok (.ldc2_w 190, 3) := by decide +kernel
theorem dL_law_44 : decode cL_law 44 = .ok (.lcmp, 1) := by decide +kernel
theorem dL_law_45 : decode cL_law 45 = .ok (.ifCond .eq 12, 3) := by decide +kernel
theorem dL_law_48 : decode cL_law 48 = .ok (.lload 5, 2) := by decide +kernel
theorem dL_law_50 : decode cL_law 50 = .ok (.ldc2_w 94, 3) := by decide +kernel
theorem dL_law_53 : decode cL_law 53 = .ok (.lcmp, 1) := by decide +kernel
theorem dL_law_54 : decode cL_law 54 = .ok (.ifCond .ne 7, 3) := by decide +kernel
theorem dL_law_57 : decode cL_law 57 = .ok (.iconst 1, 1) := by decide +kernel
theorem dL_law_58 : decode cL_law 58 = .ok (.goto 4, 3) := by decide +kernel
theorem dL_law_61 : decode cL_law 61 = .ok (.iconst 0, 1) := by decide +kernel
theorem dL_law_62 : decode cL_law 62 = .ok (.istore 7, 2) := by decide +kernel
theorem dL_law_64 : decode cL_law 64 = .ok (.iload 7, 2) := by decide +kernel
theorem dL_law_66 : decode cL_law 66 = .ok (.ifCond .ne 15, 3) := by decide +kernel
theorem dL_law_69 : decode cL_law 69 = .ok (.aload_n 2, 1) := by decide +kernel
theorem dL_law_70 : decode cL_law 70 = .ok (.iload 4, 2) := by decide +kernel
theorem dL_law_72 : decode cL_law 72 = .ok (.invokestatic 186, 3) := by decide +kernel
theorem dL_law_75 : decode cL_law 75 = .ok (.lload 5, 2) := by decide +kernel
theorem dL_law_77 : decode cL_law 77 = .ok (.lcmp, 1) := by decide +kernel
theorem dL_law_78 : decode cL_law 78 = .ok (.ifCond .ne 24, 3) := by decide +kernel
theorem dL_law_81 : decode cL_law 81 = .ok (.iload_n 3, 1) := by decide +kernel
theorem dL_law_82 : decode cL_law 82 = .ok (.bipush 36, 2) := by decide +kernel
theorem dL_law_84 : decode cL_law 84 = .ok (.irem, 1) := by decide +kernel
theorem dL_law_85 : decode cL_law 85 = .ok (.bipush 35, 2) := by decide +kernel
theorem dL_law_87 : decode cL_law 87 = .ok (.if_icmp .ne 17, 3) := by decide +kernel
theorem dL_law_90 : decode cL_law 90 = .ok (.aload_n 1, 1) := by decide +kernel
theorem dL_law_91 : decode cL_law 91 = .ok (.aload_n 2, 1) := by decide +kernel
theorem dL_law_92 : decode cL_law 92 = .ok (.iload 4, 2) := by decide +kernel
theorem dL_law_94 : decode cL_law 94 = .ok (.iconst 3, 1) := by decide +kernel
theorem dL_law_95 : decode cL_law 95 = .ok (.ishr, 1) := by decide +kernel
theorem dL_law_96 : decode cL_law 96 = .ok (.invokestatic 192, 3) := by decide +kernel
theorem dL_law_99 : decode cL_law 99 = .ok (.ifCond .ne 5, 3) := by decide +kernel
theorem dL_law_102 : decode cL_law 102 = .ok (.iconst 0, 1) := by decide +kernel
theorem dL_law_103 : decode cL_law 103 = .ok (.ireturn, 1) := by decide +kernel
theorem dL_law_104 : decode cL_law 104 = .ok (.iinc 3 1, 3) := by decide +kernel
theorem dL_law_107 : decode cL_law 107 = .ok (.goto (-89), 3) := by decide +kernel
theorem dL_law_110 : decode cL_law 110 = .ok (.aload_n 1, 1) := by decide +kernel
theorem dL_law_111 : decode cL_law 111 = .ok (.aload_n 0, 1) := by decide +kernel
theorem dL_law_112 : decode cL_law 112 = .ok (.bipush 110, 2) := by decide +kernel
theorem dL_law_114 : decode cL_law 114 = .ok (.invokestatic 182, 3) := by decide +kernel
theorem dL_law_117 : decode cL_law 117 = .ok (.invokestatic 196, 3) := by decide +kernel
theorem dL_law_120 : decode cL_law 120 = .ok (.ireturn, 1) := by decide +kernel
