theorem dL_append_0 : decode cL_append 0 = .ok (.aload 6, 2) := by decide +kernel
theorem dL_append_2 : decode cL_append 2 = .ok (.iconst 0, 1) := by decide +kernel
theorem dL_append_3 : decode cL_append 3 = .ok (.aload_n 0, 1) := by decide +kernel
theorem dL_append_4 : decode cL_append 4 = .ok (.iload_n 1, 1) := by decide +kernel
theorem dL_append_5 : decode cL_append 5 = .ok (.iload_n 2, 1) := by decide +kernel
theorem dL_append_6 : decode cL_append 6 = .ok (.iload_n 3, 1) := by decide +kernel
theorem dL_append_7 : decode cL_append 7 = .ok (.iload 4, 2) := by decide +kernel
theorem dL_append_9 : decode cL_append 9 = .ok (.iload 5, 2) := by decide +kernel
theorem dL_append_11 : decode cL_append 11 = .ok (.invokevirtual 7, 3) := by decide +kernel
theorem dL_append_14 : decode cL_append 14 = .ok (.i2l, 1) := by decide +kernel
theorem dL_append_15 : decode cL_append 15 = .ok (.lastore, 1) := by decide +kernel
theorem dL_append_16 : decode cL_append 16 = .ok (.goto 7, 3) := by decide +kernel
theorem dL_append_19 : decode cL_append 19 = .ok (.astore 7, 2) := by decide +kernel
theorem dL_append_21 : decode cL_append 21 = .ok (.iconst 1, 1) := by decide +kernel
theorem dL_append_22 : decode cL_append 22 = .ok (.ireturn, 1) := by decide +kernel
theorem dL_append_23 : decode cL_append 23 = .ok (.iconst 0, 1) := by decide +kernel
theorem dL_append_24 : decode cL_append 24 = .ok (.ireturn, 1) := by decide +kernel
theorem dL_truncate_0 : decode cL_truncate 0 = .ok (.aload_n 2, 1) := by decide +kernel
theorem dL_truncate_1 : decode cL_truncate 1 = .ok (.iconst 0, 1) := by decide +kernel
theorem dL_truncate_2 : decode cL_truncate 2 = .ok (.aload_n 0, 1) := by decide +kernel
theorem dL_truncate_3 : decode cL_truncate 3 = .ok (.iload_n 1, 1) := by decide +kernel
theorem dL_truncate_4 : decode cL_truncate 4 = .ok (.invokevirtual 15, 3) := by decide +kernel
theorem dL_truncate_7 : decode cL_truncate 7 = .ok (.i2l, 1) := by decide +kernel
theorem dL_truncate_8 : decode cL_truncate 8 = .ok (.lastore, 1) := by decide +kernel
theorem dL_truncate_9 : decode cL_truncate 9 = .ok (.goto 6, 3) := by decide +kernel
theorem dL_truncate_12 : decode cL_truncate 12 = .ok (.astore_n 3, 1) := by decide +kernel
theorem dL_truncate_13 : decode cL_truncate 13 = .ok (.iconst 1, 1) := by decide +kernel
theorem dL_truncate_14 : decode cL_truncate 14 = .ok (.ireturn, 1) := by decide +kernel
theorem dL_truncate_15 : decode cL_truncate 15 = .ok (.iconst 0, 1) := by decide +kernel
theorem dL_truncate_16 : decode cL_truncate 16 = .ok (.ireturn, 1) := by decide +kernel
theorem dL_weight_0 : decode cL_weight 0 = .ok (.aload_n 2, 1) := by decide +kernel
theorem dL_weight_1 : decode cL_weight 1 = .ok (.iconst 0, 1) := by decide +kernel
theorem dL_weight_2 : decode cL_weight 2 = .ok (.aload_n 0, 1) := by decide +kernel
theorem dL_weight_3 : decode cL_weight 3 = .ok (.iload_n 1, 1) := by decide +kernel
theorem dL_weight_4 : decode cL_weight 4 = .ok (.invokevirtual 21, 3) := by decide +kernel
theorem dL_weight_7 : decode cL_weight 7 = .ok (.i2l, 1) := by decide +kernel
theorem dL_weight_8 : decode cL_weight 8 = .ok (.lastore, 1) := by decide +kernel
theorem dL_weight_9 : decode cL_weight 9 = .ok (.goto 6, 3) := by decide +kernel
theorem dL_weight_12 : decode cL_weight 12 = .ok (.astore_n 3, 1) := by decide +kernel
theorem dL_weight_13 : decode cL_weight 13 = .ok (.iconst 1, 1) := by decide +kernel
theorem dL_weight_14 : decode cL_weight 14 = .ok (.ireturn, 1) := by decide +kernel
theorem dL_weight_15 : decode cL_weight 15 = .ok (.iconst 0, 1) := by decide +kernel
theorem dL_weight_16 : decode cL_weight 16 = .ok (.ireturn, 1) := by decide +kernel
theorem dL_purse_0 : decode cL_purse 0 = .ok (.aload_n 2, 1) := by decide +kernel
theorem dL_purse_1 : decode cL_purse 1 = .ok (.iconst 0, 1) := by decide +kernel
theorem dL_purse_2 : decode cL_purse 2 = .ok (.aload_n 0, 1) := by decide +kernel
theorem dL_purse_3 : decode cL_purse 3 = .ok (.iload_n 1, 1) := by decide +kernel
theorem dL_purse_4 : decode cL_purse 4 = .ok (.invokevirtual 26, 3) := by decide +kernel
theorem dL_purse_7 : decode cL_purse 7 = .ok (.i2l, 1) := by decide +kernel
theorem dL_purse_8 : decode cL_purse 8 = .ok (.lastore, 1) := by decide +kernel
theorem dL_purse_9 : decode cL_purse 9 = .ok (.goto 6, 3) := by decide +kernel
theorem dL_purse_12 : decode cL_purse 12 = .ok (.astore_n 3, 1) := by decide +kernel
theorem dL_purse_13 : decode cL_purse 13 = .ok (.iconst 1, 1) := by decide +kernel
theorem dL_purse_14 : decode cL_purse 14 = .ok (.ireturn, 1) := by decide +kernel
theorem dL_purse_15 : decode cL_purse 15 = .ok (.iconst 0, 1) := by decide +kernel
theorem dL_purse_16 : decode cL_purse 16 = .ok (.ireturn, 1) := by decide +kernel
theorem dL_sharpness_0 : decode cL_sharpness 0 = .ok (.aload_n 2, 1) := by decide +kernel
theorem dL_sharpness_1 : decode cL_sharpness 1 = .ok (.iconst 0, 1) := by decide +kernel
theorem dL_sharpness_2 : decode cL_sharpness 2 = .ok (.aload_n 0, 1) := by decide +kernel
theorem dL_sharpness_3 : decode cL_sharpness 3 = .ok (.iload_n 1, 1) := by decide +kernel
theorem dL_sharpness_4 : decode cL_sharpness 4 = .ok (.invokevirtual 29, 3) := by decide +kernel
theorem dL_sharpness_7 : decode cL_sharpness 7 = .ok (.i2l, 1) := by decide +kernel
theorem dL_sharpness_8 : decode cL_sharpness 8 = .ok (.lastore, 1) := by decide +kernel
theorem dL_sharpness_9 : decode cL_sharpness 9 = .ok (.goto 6, 3) := by decide +kernel
theorem dL_sharpness_12 : decode cL_sharpness 12 = .ok (.astore_n 3, 1) := by decide +kernel
theorem dL_sharpness_13 : decode cL_sharpness 13 = .ok (.iconst 1, 1) := by decide +kernel
theorem dL_sharpness_14 : decode cL_sharpness 14 = .ok (.ireturn, 1) := by decide +kernel
theorem dL_sharpness_15 : decode cL_sharpness 15 = .ok (.iconst 0, 1) := by decide +kernel
theorem dL_sharpness_16 : decode cL_sharpness 16 = .ok (.ireturn, 1) := by decide +kernel
theorem dL_speechesOf_0 : decode cL_speechesOf 0 = .ok (.aload_n 2, 1) := by decide +kernel
theorem dL_speechesOf_1 : decode cL_speechesOf 1 = .ok (.iconst 0, 1) := by decide +kernel
theorem dL_speechesOf_2 : decode cL_speechesOf 2 = .ok (.aload_n 0, 1) := by decide +kernel
theorem dL_speechesOf_3 : decode cL_speechesOf 3 = .ok (.iload_n 1, 1) := by decide +kernel
theorem dL_speechesOf_4 : decode cL_speechesOf 4 = .ok (.invokevirtual 32, 3) := by decide +kernel
theorem dL_speechesOf_7 : decode cL_speechesOf 7 = .ok (.i2l, 1) := by decide +kernel
theorem dL_speechesOf_8 : decode cL_speechesOf 8 = .ok (.lastore, 1) := by decide +kernel
theorem dL_speechesOf_9 : decode cL_speechesOf 9 = .ok (.goto 6, 3) := by decide +kernel
theorem dL_speechesOf_12 : decode cL_speechesOf 12 = .ok (.astore_n 3, 1) := by decide +kernel
theorem dL_speechesOf_13 : decode cL_speechesOf 13 = .ok (.iconst 1, 1) := by decide +kernel
theorem dL_speechesOf_14 : decode cL_speechesOf 14 = .ok (.ireturn, 1) := by decide +kernel
theorem dL_speechesOf_15 : decode cL_speechesOf 15 = .ok (.iconst 0, 1) := by decide +kernel
theorem dL_speechesOf_16 : decode cL_speechesOf 16 = .ok (.ireturn, 1) := by decide +kernel
theorem dL_leaning_0 : decode cL_leaning 0 = .ok (.aload_n 3, 1) := by decide +kernel
theorem dL_leaning_1 : decode cL_leaning 1 = .ok (.iconst 0, 1) := by decide +kernel
theorem dL_leaning_2 : decode cL_leaning 2 = .ok (.aload_n 0, 1) := by decide +kernel
theorem dL_leaning_3 : decode cL_leaning 3 = .ok (.iload_n 1, 1) := by decide +kernel
theorem dL_leaning_4 : decode cL_leaning 4 = .ok (.iload_n 2, 1) := by decide +kernel
theorem dL_leaning_5 : decode cL_leaning 5 = .ok (.invokevirtual 35, 3) := by decide +kernel
theorem dL_leaning_8 : decode cL_leaning 8 = .ok (.i2l, 1) := by decide +kernel
theorem dL_leaning_9 : decode cL_leaning 9 = .ok (.lastore, 1) := by decide +kernel
theorem dL_leaning_10 : decode cL_leaning 10 = .ok (.goto 7, 3) := by decide +kernel
theorem dL_leaning_13 : decode cL_leaning 13 = .ok (.astore 4, 2) := by decide +kernel
theorem dL_leaning_15 : decode cL_leaning 15 = .ok (.iconst 1, 1) := by decide +kernel
theorem dL_leaning_16 : decode cL_leaning 16 = .ok (.ireturn, 1) := by decide +kernel
theorem dL_leaning_17 : decode cL_leaning 17 = .ok (.iconst 0, 1) := by decide +kernel
theorem dL_leaning_18 : decode cL_leaning 18 = .ok (.ireturn, 1) := by decide +kernel
theorem dL_chairOf_0 : decode cL_chairOf 0 = .ok (.aload_n 2, 1) := by decide +kernel
theorem dL_chairOf_1 : decode cL_chairOf 1 = .ok (.iconst 0, 1) := by decide +kernel
theorem dL_chairOf_2 : decode cL_chairOf 2 = .ok (.aload_n 0, 1) := by decide +kernel
theorem dL_chairOf_3 : decode cL_chairOf 3 = .ok (.iload_n 1, 1) := by decide +kernel
theorem dL_chairOf_4 : decode cL_chairOf 4 = .ok (.invokevirtual 39, 3) := by decide +kernel
theorem dL_chairOf_7 : decode cL_chairOf 7 = .ok (.i2l, 1) := by decide +kernel
theorem dL_chairOf_8 : decode cL_chairOf 8 = .ok (.lastore, 1) := by decide +kernel
theorem dL_chairOf_9 : decode cL_chairOf 9 = .ok (.goto 6, 3) := by decide +kernel
theorem dL_chairOf_12 : decode cL_chairOf 12 = .ok (.astore_n 3, 1) := by decide +kernel
theorem dL_chairOf_13 : decode cL_chairOf 13 = .ok (.iconst 1, 1) := by decide +kernel
theorem dL_chairOf_14 : decode cL_chairOf 14 = .ok (.ireturn, 1) := by decide +kernel
theorem dL_chairOf_15 : decode cL_chairOf 15 = .ok (.iconst 0, 1) := by decide +kernel
theorem dL_chairOf_16 : decode cL_chairOf 16 = .ok (.ireturn, 1) := by decide +kernel
theorem dL_placeInList_0 : decode cL_placeInList 0 = .ok (.aload_n 2, 1) := by decide +kernel
theorem dL_placeInList_1 : decode cL_placeInList 1 = .ok (.iconst 0, 1) := by decide +kernel
theorem dL_placeInList_2 : decode cL_placeInList 2 = .ok (.aload_n 0, 1) := by decide +kernel
theorem dL_placeInList_3 : decode cL_placeInList 3 = .ok (.iload_n 1, 1) := by decide +kernel
theorem dL_placeInList_4 : decode cL_placeInList 4 = .ok (.invokevirtual 42, 3) := by decide +kernel
theorem dL_placeInList_7 : decode cL_placeInList 7 = .ok (.i2l, 1) := by decide +kernel
theorem dL_placeInList_8 : decode cL_placeInList 8 = .ok (.lastore, 1) := by decide +kernel
theorem dL_placeInList_9 : decode cL_placeInList 9 = .ok (.goto 6, 3) := by decide +kernel
theorem dL_placeInList_12 : decode cL_placeInList 12 = .ok (.astore_n 3, 1) := by decide +kernel
theorem dL_placeInList_13 : decode cL_placeInList 13 = .ok (.iconst 1, 1) := by decide +kernel
theorem dL_placeInList_14 : decode cL_placeInList 14 = .ok (.ireturn, 1) := by decide +kernel
theorem dL_placeInList_15 : decode cL_placeInList 15 = .ok (.iconst 0, 1) := by decide +kernel
theorem dL_placeInList_16 : decode cL_placeInList 16 = .ok (.ireturn, 1) := by decide +kernel
theorem dL_proposer_0 : decode cL_proposer 0 = .ok (.aload_n 2, 1) := by decide +kernel
theorem dL_proposer_1 : decode cL_proposer 1 = .ok (.iconst 0, 1) := by decide +kernel
theorem dL_proposer_2 : decode cL_proposer 2 = .ok (.aload_n 0, 1) := by decide +kernel
theorem dL_proposer_3 : decode cL_proposer 3 = .ok (.iload_n 1, 1) := by decide +kernel
theorem dL_proposer_4 : decode cL_proposer 4 = .ok (.invokevirtual 45, 3) := by decide +kernel
theorem dL_proposer_7 : decode cL_proposer 7 = .ok (.i2l, 1) := by decide +kernel
theorem dL_proposer_8 : decode cL_proposer 8 = .ok (.lastore, 1) := by decide +kernel
theorem dL_proposer_9 : decode cL_proposer 9 = .ok (.goto 6, 3) := by decide +kernel
theorem dL_proposer_12 : decode cL_proposer 12 = .ok (.astore_n 3, 1) := by decide +kernel
theorem dL_proposer_13 : decode cL_proposer 13 = .ok (.iconst 1, 1) := by decide +kernel
theorem dL_proposer_14 : decode cL_proposer 14 = .ok (.ireturn, 1) := by decide +kernel
theorem dL_proposer_15 : decode cL_proposer 15 = .ok (.iconst 0, 1) := by decide +kernel
theorem dL_proposer_16 : decode cL_proposer 16 = .ok (.ireturn, 1) := by decide +kernel
theorem dL_motionState_0 : decode cL_motionState 0 = .ok (.aload_n 2, 1) := by decide +kernel
theorem dL_motionState_1 : decode cL_motionState 1 = .ok (.iconst 0, 1) := by decide +kernel
theorem dL_motionState_2 : decode cL_motionState 2 = .ok (.aload_n 0, 1) := by decide +kernel
theorem dL_motionState_3 : decode cL_motionState 3 = .ok (.iload_n 1, 1) := by decide +kernel
theorem dL_motionState_4 : decode cL_motionState 4 = .ok (.invokevirtual 48, 3) := by decide +kernel
theorem dL_motionState_7 : decode cL_motionState 7 = .ok (.i2l, 1) := by decide +kernel
theorem dL_motionState_8 : decode cL_motionState 8 = .ok (.lastore, 1) := by decide +kernel
theorem dL_motionState_9 : decode cL_motionState 9 = .ok (.goto 6, 3) := by decide +kernel
theorem dL_motionState_12 : decode cL_motionState 12 = .ok (.astore_n 3, 1) := by decide +kernel
theorem dL_motionState_13 : decode cL_motionState 13 = .ok (.iconst 1, 1) := by decide +kernel
theorem dL_motionState_14 : decode cL_motionState 14 = .ok (.ireturn, 1) := by decide +kernel
theorem dL_motionState_15 : decode cL_motionState 15 = .ok (.iconst 0, 1) := by decide +kernel
theorem dL_motionState_16 : decode cL_motionState 16 = .ok (.ireturn, 1) := by decide +kernel
theorem dL_lather_0 : decode cL_lather 0 = .ok (.aload_n 2, 1) := by decide +kernel
theorem dL_lather_1 : decode cL_lather 1 = .ok (.iconst 0, 1) := by decide +kernel
theorem dL_lather_2 : decode cL_lather 2 = .ok (.aload_n 0, 1) := by decide +kernel
theorem dL_lather_3 : decode cL_lather 3 = .ok (.iload_n 1, 1) := by decide +kernel
theorem dL_lather_4 : decode cL_lather 4 = .ok (.invokevirtual 51, 3) := by decide +kernel
theorem dL_lather_7 : decode cL_lather 7 = .ok (.i2l, 1) := by decide +kernel
theorem dL_lather_8 : decode cL_lather 8 = .ok (.lastore, 1) := by decide +kernel
theorem dL_lather_9 : decode cL_lather 9 = .ok (.goto 6, 3) := by decide +kernel
theorem dL_lather_12 : decode cL_lather 12 = .ok (.astore_n 3, 1) := by decide +kernel
theorem dL_lather_13 : decode cL_lather 13 = .ok (.iconst 1, 1) := by decide +kernel
theorem dL_lather_14 : decode cL_lather 14 = .ok (.ireturn, 1) := by decide +kernel
theorem dL_lather_15 : decode cL_lather 15 = .ok (.iconst 0, 1) := by decide +kernel
theorem dL_lather_16 : decode cL_lather 16 = .ok (.ireturn, 1) := by decide +kernel
theorem dL_weightFor_0 : decode cL_weightFor 0 = .ok (.aload_n 2, 1) := by decide +kernel
theorem dL_weightFor_1 : decode cL_weightFor 1 = .ok (.iconst 0, 1) := by decide +kernel
theorem dL_weightFor_2 : decode cL_weightFor 2 = .ok (.aload_n 0, 1) := by decide +kernel
theorem dL_weightFor_3 : decode cL_weightFor 3 = .ok (.iload_n 1, 1) := by decide +kernel
theorem dL_weightFor_4 : decode cL_weightFor 4 = .ok (.invokevirtual 54, 3) := by decide +kernel
theorem dL_weightFor_7 : decode cL_weightFor 7 = .ok (.i2l, 1) := by decide +kernel
theorem dL_weightFor_8 : decode cL_weightFor 8 = .ok (.lastore, 1) := by decide +kernel
theorem dL_weightFor_9 : decode cL_weightFor 9 = .ok (.goto 6, 3) := by decide +kernel
theorem dL_weightFor_12 : decode cL_weightFor 12 = .ok (.astore_n 3, 1) := by decide +kernel
theorem dL_weightFor_13 : decode cL_weightFor 13 = .ok (.iconst 1, 1) := by decide +kernel
theorem dL_weightFor_14 : decode cL_weightFor 14 = .ok (.ireturn, 1) := by decide +kernel
theorem dL_weightFor_15 : decode cL_weightFor 15 = .ok (.iconst 0, 1) := by decide +kernel
theorem dL_weightFor_16 : decode cL_weightFor 16 = .ok (.ireturn, 1) := by decide +kernel
theorem dL_weightAgainst_0 : decode cL_weightAgainst 0 = .ok (.aload_n 2, 1) := by decide +kernel
theorem dL_weightAgainst_1 : decode cL_weightAgainst 1 = .ok (.iconst 0, 1) := by decide +kernel
theorem dL_weightAgainst_2 : decode cL_weightAgainst 2 = .ok (.aload_n 0, 1) := by decide +kernel
theorem dL_weightAgainst_3 : decode cL_weightAgainst 3 = .ok (.iload_n 1, 1) := by decide +kernel
theorem dL_weightAgainst_4 : decode cL_weightAgainst 4 = .ok (.invokevirtual 57, 3) := by decide +kernel
theorem dL_weightAgainst_7 : decode cL_weightAgainst 7 = .ok (.i2l, 1) := by decide +kernel
theorem dL_weightAgainst_8 : decode cL_weightAgainst 8 = .ok (.lastore, 1) := by decide +kernel
theorem dL_weightAgainst_9 : decode cL_weightAgainst 9 = .ok (.goto 6, 3) := by decide +kernel
theorem dL_weightAgainst_12 : decode cL_weightAgainst 12 = .ok (.astore_n 3, 1) := by decide +kernel
theorem dL_weightAgainst_13 : decode cL_weightAgainst 13 = .ok (.iconst 1, 1) := by decide +kernel
theorem dL_weightAgainst_14 : decode cL_weightAgainst 14 = .ok (.ireturn, 1) := by decide +kernel
theorem dL_weightAgainst_15 : decode cL_weightAgainst 15 = .ok (.iconst 0, 1) := by decide +kernel
theorem dL_weightAgainst_16 : decode cL_weightAgainst 16 = .ok (.ireturn, 1) := by decide +kernel
theorem dL_voterCount_0 : decode cL_voterCount 0 = .ok (.aload_n 2, 1) := by decide +kernel
theorem dL_voterCount_1 : decode cL_voterCount 1 = .ok (.iconst 0, 1) := by decide +kernel
theorem dL_voterCount_2 : decode cL_voterCount 2 = .ok (.aload_n 0, 1) := by decide +kernel
theorem dL_voterCount_3 : decode cL_voterCount 3 = .ok (.iload_n 1, 1) := by decide +kernel
theorem dL_voterCount_4 : decode cL_voterCount 4 = .ok (.invokevirtual 60, 3) := by decide +kernel
theorem dL_voterCount_7 : decode cL_voterCount 7 = .ok (.i2l, 1) := by decide +kernel
theorem dL_voterCount_8 : decode cL_voterCount 8 = .ok (.lastore, 1) := by decide +kernel
theorem dL_voterCount_9 : decode cL_voterCount 9 = .ok (.goto 6, 3) := by decide +kernel
theorem dL_voterCount_12 : decode cL_voterCount 12 = .ok (.astore_n 3, 1) := by decide +kernel
theorem dL_voterCount_13 : decode cL_voterCount 13 = .ok (.iconst 1, 1) := by decide +kernel
theorem dL_voterCount_14 : decode cL_voterCount 14 = .ok (.ireturn, 1) := by decide +kernel
theorem dL_voterCount_15 : decode cL_voterCount 15 = .ok (.iconst 0, 1) := by decide +kernel
theorem dL_voterCount_16 : decode cL_voterCount 16 = .ok (.ireturn, 1) := by decide +kernel
theorem dL_obstacle_0 : decode cL_obstacle 0 = .ok (.aload_n 2, 1) := by decide +kernel
theorem dL_obstacle_1 : decode cL_obstacle 1 = .ok (.iconst 0, 1) := by decide +kernel
theorem dL_obstacle_2 : decode cL_obstacle 2 = .ok (.aload_n 0, 1) := by decide +kernel
theorem dL_obstacle_3 : decode cL_obstacle 3 = .ok (.iload_n 1, 1) := by decide +kernel
theorem dL_obstacle_4 : decode cL_obstacle 4 = .ok (.invokevirtual 63, 3) := by decide +kernel
theorem dL_obstacle_7 : decode cL_obstacle 7 = .ok (.i2l, 1) := by decide +kernel
theorem dL_obstacle_8 : decode cL_obstacle 8 = .ok (.lastore, 1) := by decide +kernel
theorem dL_obstacle_9 : decode cL_obstacle 9 = .ok (.goto 6, 3) := by decide +kernel
theorem dL_obstacle_12 : decode cL_obstacle 12 = .ok (.astore_n 3, 1) := by decide +kernel
theorem dL_obstacle_13 : decode cL_obstacle 13 = .ok (.iconst 1, 1) := by decide +kernel
theorem dL_obstacle_14 : decode cL_obstacle 14 = .ok (.ireturn, 1) := by decide +kernel
theorem dL_obstacle_15 : decode cL_obstacle 15 = .ok (.iconst 0, 1) := by decide +kernel
theorem dL_obstacle_16 : decode cL_obstacle 16 = .ok (.ireturn, 1) := by decide +kernel
theorem dL_wouldPass_0 : decode cL_wouldPass 0 = .ok (.aload_n 2, 1) := by decide +kernel
theorem dL_wouldPass_1 : decode cL_wouldPass 1 = .ok (.iconst 0, 1) := by decide +kernel
theorem dL_wouldPass_2 : decode cL_wouldPass 2 = .ok (.aload_n 0, 1) := by decide +kernel
theorem dL_wouldPass_3 : decode cL_wouldPass 3 = .ok (.iload_n 1, 1) := by decide +kernel
theorem dL_wouldPass_4 : decode cL_wouldPass 4 = .ok (.invokevirtual 66, 3) := by decide +kernel
theorem dL_wouldPass_7 : decode cL_wouldPass 7 = .ok (.ifCond .eq 7, 3) := by decide +kernel
theorem dL_wouldPass_10 : decode cL_wouldPass 10 = .ok (.lconst 1, 1) := by decide +kernel
theorem dL_wouldPass_11 : decode cL_wouldPass 11 = .ok (.goto 4, 3) := by decide +kernel
theorem dL_wouldPass_14 : decode cL_wouldPass 14 = .ok (.lconst 0, 1) := by decide +kernel
theorem dL_wouldPass_15 : decode cL_wouldPass 15 = .ok (.lastore, 1) := by decide +kernel
theorem dL_wouldPass_16 : decode cL_wouldPass 16 = .ok (.goto 6, 3) := by decide +kernel
theorem dL_wouldPass_19 : decode cL_wouldPass 19 = .ok (.astore_n 3, 1) := by decide +kernel
theorem dL_wouldPass_20 : decode cL_wouldPass 20 = .ok (.iconst 1, 1) := by decide +kernel
theorem dL_wouldPass_21 : decode cL_wouldPass 21 = .ok (.ireturn, 1) := by decide +kernel
theorem dL_wouldPass_22 : decode cL_wouldPass 22 = .ok (.iconst 0, 1) := by decide +kernel
theorem dL_wouldPass_23 : decode cL_wouldPass 23 = .ok (.ireturn, 1) := by decide +kernel
theorem dL_decisiveVoter_0 : decode cL_decisiveVoter 0 = .ok (.aload_n 2, 1) := by decide +kernel
theorem dL_decisiveVoter_1 : decode cL_decisiveVoter 1 = .ok (.iconst 0, 1) := by decide +kernel
theorem dL_decisiveVoter_2 : decode cL_decisiveVoter 2 = .ok (.aload_n 0, 1) := by decide +kernel
theorem dL_decisiveVoter_3 : decode cL_decisiveVoter 3 = .ok (.iload_n 1, 1) := by decide +kernel
theorem dL_decisiveVoter_4 : decode cL_decisiveVoter 4 = .ok (.invokevirtual 70, 3) := by decide +kernel
theorem dL_decisiveVoter_7 : decode cL_decisiveVoter 7 = .ok (.i2l, 1) := by decide +kernel
theorem dL_decisiveVoter_8 : decode cL_decisiveVoter 8 = .ok (.lastore, 1) := by decide +kernel
theorem dL_decisiveVoter_9 : decode cL_decisiveVoter 9 = .ok (.goto 6, 3) := by decide +kernel
theorem dL_decisiveVoter_12 : decode cL_decisiveVoter 12 = .ok (.astore_n 3, 1) := by decide +kernel
theorem dL_decisiveVoter_13 : decode cL_decisiveVoter 13 = .ok (.iconst 1, 1) := by decide +kernel
theorem dL_decisiveVoter_14 : decode cL_decisiveVoter 14 = .ok (.ireturn, 1) := by decide +kernel
theorem dL_decisiveVoter_15 : decode cL_decisiveVoter 15 = .ok (.iconst 0, 1) := by decide +kernel
theorem dL_decisiveVoter_16 : decode cL_decisiveVoter 16 = .ok (.ireturn, 1) := by decide +kernel
theorem dL_speaker_0 : decode cL_speaker 0 = .ok (.aload_n 2, 1) := by decide +kernel
theorem dL_speaker_1 : decode cL_speaker 1 = .ok (.iconst 0, 1) := by decide +kernel
theorem dL_speaker_2 : decode cL_speaker 2 = .ok (.aload_n 0, 1) := by decide +kernel
theorem dL_speaker_3 : decode cL_speaker 3 = .ok (.iload_n 1, 1) := by decide +kernel
theorem dL_speaker_4 : decode cL_speaker 4 = .ok (.invokevirtual 73, 3) := by decide +kernel
theorem dL_speaker_7 : decode cL_speaker 7 = .ok (.i2l, 1) := by decide +kernel
theorem dL_speaker_8 : decode cL_speaker 8 = .ok (.lastore, 1) := by decide +kernel
theorem dL_speaker_9 : decode cL_speaker 9 = .ok (.goto 6, 3) := by decide +kernel
theorem dL_speaker_12 : decode cL_speaker 12 = .ok (.astore_n 3, 1) := by decide +kernel
theorem dL_speaker_13 : decode cL_speaker 13 = .ok (.iconst 1, 1) := by decide +kernel
theorem dL_speaker_14 : decode cL_speaker 14 = .ok (.ireturn, 1) := by decide +kernel
theorem dL_speaker_15 : decode cL_speaker 15 = .ok (.iconst 0, 1) := by decide +kernel
theorem dL_speaker_16 : decode cL_speaker 16 = .ok (.ireturn, 1) := by decide +kernel
theorem dL_speechMotion_0 : decode cL_speechMotion 0 = .ok (.aload_n 2, 1) := by decide +kernel
theorem dL_speechMotion_1 : decode cL_speechMotion 1 = .ok (.iconst 0, 1) := by decide +kernel
theorem dL_speechMotion_2 : decode cL_speechMotion 2 = .ok (.aload_n 0, 1) := by decide +kernel
theorem dL_speechMotion_3 : decode cL_speechMotion 3 = .ok (.iload_n 1, 1) := by decide +kernel
theorem dL_speechMotion_4 : decode cL_speechMotion 4 = .ok (.invokevirtual 76, 3) := by decide +kernel
theorem dL_speechMotion_7 : decode cL_speechMotion 7 = .ok (.i2l, 1) := by decide +kernel
theorem dL_speechMotion_8 : decode cL_speechMotion 8 = .ok (.lastore, 1) := by decide +kernel
theorem dL_speechMotion_9 : decode cL_speechMotion 9 = .ok (.goto 9, 3) := by decide +kernel
theorem dL_speechMotion_12 : decode cL_speechMotion 12 = .ok (.astore_n 3, 1) := by decide +kernel
theorem dL_speechMotion_13 : decode cL_speechMotion 13 = .ok (.iconst 1, 1) := by decide +kernel
theorem dL_speechMotion_14 : decode cL_speechMotion 14 = .ok (.ireturn, 1) := by decide +kernel
theorem dL_speechMotion_15 : decode cL_speechMotion 15 = .ok (.astore_n 3, 1) := by decide +kernel
theorem dL_speechMotion_16 : decode cL_speechMotion 16 = .ok (.iconst 2, 1) := by decide +kernel
theorem dL_speechMotion_17 : decode cL_speechMotion 17 = .ok (.ireturn, 1) := by decide +kernel
theorem dL_speechMotion_18 : decode cL_speechMotion 18 = .ok (.iconst 0, 1) := by decide +kernel
theorem dL_speechMotion_19 : decode cL_speechMotion 19 = .ok (.ireturn, 1) := by decide +kernel
theorem dL_remainingTime_0 : decode cL_remainingTime 0 = .ok (.aload_n 2, 1) := by decide +kernel
theorem dL_remainingTime_1 : decode cL_remainingTime 1 = .ok (.iconst 0, 1) := by decide +kernel
theorem dL_remainingTime_2 : decode cL_remainingTime 2 = .ok (.aload_n 0, 1) := by decide +kernel
theorem dL_remainingTime_3 : decode cL_remainingTime 3 = .ok (.iload_n 1, 1) := by decide +kernel
theorem dL_remainingTime_4 : decode cL_remainingTime 4 = .ok (.invokevirtual 81, 3) := by decide +kernel
theorem dL_remainingTime_7 : decode cL_remainingTime 7 = .ok (.i2l, 1) := by decide +kernel
theorem dL_remainingTime_8 : decode cL_remainingTime 8 = .ok (.lastore, 1) := by decide +kernel
theorem dL_remainingTime_9 : decode cL_remainingTime 9 = .ok (.goto 6, 3) := by decide +kernel
theorem dL_remainingTime_12 : decode cL_remainingTime 12 = .ok (.astore_n 3, 1) := by decide +kernel
theorem dL_remainingTime_13 : decode cL_remainingTime 13 = .ok (.iconst 1, 1) := by decide +kernel
theorem dL_remainingTime_14 : decode cL_remainingTime 14 = .ok (.ireturn, 1) := by decide +kernel
theorem dL_remainingTime_15 : decode cL_remainingTime 15 = .ok (.iconst 0, 1) := by decide +kernel
theorem dL_remainingTime_16 : decode cL_remainingTime 16 = .ok (.ireturn, 1) := by decide +kernel
theorem dL_isRebutted_0 : decode cL_isRebutted 0 = .ok (.aload_n 2, 1) := by decide +kernel
theorem dL_isRebutted_1 : decode cL_isRebutted 1 = .ok (.iconst 0, 1) := by decide +kernel
theorem dL_isRebutted_2 : decode cL_isRebutted 2 = .ok (.aload_n 0, 1) := by decide +kernel
theorem dL_isRebutted_3 : decode cL_isRebutted 3 = .ok (.iload_n 1, 1) := by decide +kernel
theorem dL_isRebutted_4 : decode cL_isRebutted 4 = .ok (.invokevirtual 84, 3) := by decide +kernel
theorem dL_isRebutted_7 : decode cL_isRebutted 7 = .ok (.ifCond .eq 7, 3) := by decide +kernel
theorem dL_isRebutted_10 : decode cL_isRebutted 10 = .ok (.lconst 1, 1) := by decide +kernel
theorem dL_isRebutted_11 : decode cL_isRebutted 11 = .ok (.goto 4, 3) := by decide +kernel
theorem dL_isRebutted_14 : decode cL_isRebutted 14 = .ok (.lconst 0, 1) := by decide +kernel
theorem dL_isRebutted_15 : decode cL_isRebutted 15 = .ok (.lastore, 1) := by decide +kernel
theorem dL_isRebutted_16 : decode cL_isRebutted 16 = .ok (.goto 6, 3) := by decide +kernel
theorem dL_isRebutted_19 : decode cL_isRebutted 19 = .ok (.astore_n 3, 1) := by decide +kernel
theorem dL_isRebutted_20 : decode cL_isRebutted 20 = .ok (.iconst 1, 1) := by decide +kernel
theorem dL_isRebutted_21 : decode cL_isRebutted 21 = .ok (.ireturn, 1) := by decide +kernel
theorem dL_isRebutted_22 : decode cL_isRebutted 22 = .ok (.iconst 0, 1) := by decide +kernel
theorem dL_isRebutted_23 : decode cL_isRebutted 23 = .ok (.ireturn, 1) := by decide +kernel
theorem dL_firstBy_0 : decode cL_firstBy 0 = .ok (.aload_n 2, 1) := by decide +kernel
theorem dL_firstBy_1 : decode cL_firstBy 1 = .ok (.iconst 0, 1) := by decide +kernel
theorem dL_firstBy_2 : decode cL_firstBy 2 = .ok (.aload_n 0, 1) := by decide +kernel
theorem dL_firstBy_3 : decode cL_firstBy 3 = .ok (.iload_n 1, 1) := by decide +kernel
theorem dL_firstBy_4 : decode cL_firstBy 4 = .ok (.invokevirtual 87, 3) := by decide +kernel
theorem dL_firstBy_7 : decode cL_firstBy 7 = .ok (.i2l, 1) := by decide +kernel
theorem dL_firstBy_8 : decode cL_firstBy 8 = .ok (.lastore, 1) := by decide +kernel
theorem dL_firstBy_9 : decode cL_firstBy 9 = .ok (.goto 6, 3) := by decide +kernel
theorem dL_firstBy_12 : decode cL_firstBy 12 = .ok (.astore_n 3, 1) := by decide +kernel
theorem dL_firstBy_13 : decode cL_firstBy 13 = .ok (.iconst 1, 1) := by decide +kernel
theorem dL_firstBy_14 : decode cL_firstBy 14 = .ok (.ireturn, 1) := by decide +kernel
theorem dL_firstBy_15 : decode cL_firstBy 15 = .ok (.iconst 0, 1) := by decide +kernel
theorem dL_firstBy_16 : decode cL_firstBy 16 = .ok (.ireturn, 1) := by decide +kernel
theorem dL_meanLeaning_0 : decode cL_meanLeaning 0 = .ok (.aload_n 2, 1) := by decide +kernel
theorem dL_meanLeaning_1 : decode cL_meanLeaning 1 = .ok (.iconst 0, 1) := by decide +kernel
theorem dL_meanLeaning_2 : decode cL_meanLeaning 2 = .ok (.aload_n 0, 1) := by decide +kernel
theorem dL_meanLeaning_3 : decode cL_meanLeaning 3 = .ok (.iload_n 1, 1) := by decide +kernel
theorem dL_meanLeaning_4 : decode cL_meanLeaning 4 = .ok (.invokevirtual 90, 3) := by decide +kernel
theorem dL_meanLeaning_7 : decode cL_meanLeaning 7 = .ok (.dastore, 1) := by decide +kernel
theorem dL_meanLeaning_8 : decode cL_meanLeaning 8 = .ok (.goto 6, 3) := by decide +kernel
theorem dL_meanLeaning_11 : decode cL_meanLeaning 11 = .ok (.astore_n 3, 1) := by decide +kernel
theorem dL_meanLeaning_12 : decode cL_meanLeaning 12 = .ok (.iconst 1, 1) := by decide +kernel
theorem dL_meanLeaning_13 : decode cL_meanLeaning 13 = .ok (.ireturn, 1) := by decide +kernel
theorem dL_meanLeaning_14 : decode cL_meanLeaning 14 = .ok (.iconst 0, 1) := by decide +kernel
theorem dL_meanLeaning_15 : decode cL_meanLeaning 15 = .ok (.ireturn, 1) := by decide +kernel
theorem dL_weightShare_0 : decode cL_weightShare 0 = .ok (.aload_n 2, 1) := by decide +kernel
theorem dL_weightShare_1 : decode cL_weightShare 1 = .ok (.iconst 0, 1) := by decide +kernel
theorem dL_weightShare_2 : decode cL_weightShare 2 = .ok (.aload_n 0, 1) := by decide +kernel
theorem dL_weightShare_3 : decode cL_weightShare 3 = .ok (.iload_n 1, 1) := by decide +kernel
theorem dL_weightShare_4 : decode cL_weightShare 4 = .ok (.invokevirtual 94, 3) := by decide +kernel
theorem dL_weightShare_7 : decode cL_weightShare 7 = .ok (.f2d, 1) := by decide +kernel
theorem dL_weightShare_8 : decode cL_weightShare 8 = .ok (.dastore, 1) := by decide +kernel
theorem dL_weightShare_9 : decode cL_weightShare 9 = .ok (.goto 6, 3) := by decide +kernel
theorem dL_weightShare_12 : decode cL_weightShare 12 = .ok (.astore_n 3, 1) := by decide +kernel
theorem dL_weightShare_13 : decode cL_weightShare 13 = .ok (.iconst 1, 1) := by decide +kernel
theorem dL_weightShare_14 : decode cL_weightShare 14 = .ok (.ireturn, 1) := by decide +kernel
theorem dL_weightShare_15 : decode cL_weightShare 15 = .ok (.iconst 0, 1) := by decide +kernel
theorem dL_weightShare_16 : decode cL_weightShare 16 = .ok (.ireturn, 1) := by decide +kernel
theorem dL_minutesUntilSpeech_0 : decode cL_minutesUntilSpeech 0 = .ok (.aload_n 2, 1) := by decide +kernel
theorem dL_minutesUntilSpeech_1 : decode cL_minutesUntilSpeech 1 = .ok (.iconst 0, 1) := by decide +kernel
theorem dL_minutesUntilSpeech_2 : decode cL_minutesUntilSpeech 2 = .ok (.aload_n 0, 1) := by decide +kernel
theorem dL_minutesUntilSpeech_3 : decode cL_minutesUntilSpeech 3 = .ok (.iload_n 1, 1) := by decide +kernel
theorem dL_minutesUntilSpeech_4 : decode cL_minutesUntilSpeech 4 = .ok (.invokevirtual 98, 3) := by decide +kernel
theorem dL_minutesUntilSpeech_7 : decode cL_minutesUntilSpeech 7 = .ok (.i2l, 1) := by decide +kernel
theorem dL_minutesUntilSpeech_8 : decode cL_minutesUntilSpeech 8 = .ok (.lastore, 1) := by decide +kernel
theorem dL_minutesUntilSpeech_9 : decode cL_minutesUntilSpeech 9 = .ok (.goto 6, 3) := by decide +kernel
theorem dL_minutesUntilSpeech_12 : decode cL_minutesUntilSpeech 12 = .ok (.astore_n 3, 1) := by decide +kernel
theorem dL_minutesUntilSpeech_13 : decode cL_minutesUntilSpeech 13 = .ok (.iconst 1, 1) := by decide +kernel
theorem dL_minutesUntilSpeech_14 : decode cL_minutesUntilSpeech 14 = .ok (.ireturn, 1) := by decide +kernel
theorem dL_minutesUntilSpeech_15 : decode cL_minutesUntilSpeech 15 = .ok (.iconst 0, 1) := by decide +kernel
theorem dL_minutesUntilSpeech_16 : decode cL_minutesUntilSpeech 16 = .ok (.ireturn, 1) := by decide +kernel
theorem dL_latherAfter_0 : decode cL_latherAfter 0 = .ok (.aload_n 3, 1) := by decide +kernel
theorem dL_latherAfter_1 : decode cL_latherAfter 1 = .ok (.iconst 0, 1) := by decide +kernel
theorem dL_latherAfter_2 : decode cL_latherAfter 2 = .ok (.aload_n 0, 1) := by decide +kernel
theorem dL_latherAfter_3 : decode cL_latherAfter 3 = .ok (.iload_n 1, 1) := by decide +kernel
theorem dL_latherAfter_4 : decode cL_latherAfter 4 = .ok (.iload_n 2, 1) := by decide +kernel
theorem dL_latherAfter_5 : decode cL_latherAfter 5 = .ok (.invokevirtual 101, 3) := by decide +kernel
theorem dL_latherAfter_8 : decode cL_latherAfter 8 = .ok (.i2l, 1) := by decide +kernel
theorem dL_latherAfter_9 : decode cL_latherAfter 9 = .ok (.lastore, 1) := by decide +kernel
theorem dL_latherAfter_10 : decode cL_latherAfter 10 = .ok (.goto 11, 3) := by decide +kernel
theorem dL_latherAfter_13 : decode cL_latherAfter 13 = .ok (.astore 4, 2) := by decide +kernel
theorem dL_latherAfter_15 : decode cL_latherAfter 15 = .ok (.iconst 1, 1) := by decide +kernel
theorem dL_latherAfter_16 : decode cL_latherAfter 16 = .ok (.ireturn, 1) := by decide +kernel
theorem dL_latherAfter_17 : decode cL_latherAfter 17 = .ok (.astore 4, 2) := by decide +kernel
theorem dL_latherAfter_19 : decode cL_latherAfter 19 = .ok (.iconst 2, 1) := by decide +kernel
theorem dL_latherAfter_20 : decode cL_latherAfter 20 = .ok (.ireturn, 1) := by decide +kernel
theorem dL_latherAfter_21 : decode cL_latherAfter 21 = .ok (.iconst 0, 1) := by decide +kernel
theorem dL_latherAfter_22 : decode cL_latherAfter 22 = .ok (.ireturn, 1) := by decide +kernel
theorem dL_minutesUntilVote_0 : decode cL_minutesUntilVote 0 = .ok (.aload_n 2, 1) := by decide +kernel
theorem dL_minutesUntilVote_1 : decode cL_minutesUntilVote 1 = .ok (.iconst 0, 1) := by decide +kernel
theorem dL_minutesUntilVote_2 : decode cL_minutesUntilVote 2 = .ok (.aload_n 0, 1) := by decide +kernel
theorem dL_minutesUntilVote_3 : decode cL_minutesUntilVote 3 = .ok (.iload_n 1, 1) := by decide +kernel
theorem dL_minutesUntilVote_4 : decode cL_minutesUntilVote 4 = .ok (.invokevirtual 104, 3) := by decide +kernel
theorem dL_minutesUntilVote_7 : decode cL_minutesUntilVote 7 = .ok (.i2l, 1) := by decide +kernel
theorem dL_minutesUntilVote_8 : decode cL_minutesUntilVote 8 = .ok (.lastore, 1) := by decide +kernel
theorem dL_minutesUntilVote_9 : decode cL_minutesUntilVote 9 = .ok (.goto 6, 3) := by decide +kernel
theorem dL_minutesUntilVote_12 : decode cL_minutesUntilVote 12 = .ok (.astore_n 3, 1) := by decide +kernel
theorem dL_minutesUntilVote_13 : decode cL_minutesUntilVote 13 = .ok (.iconst 1, 1) := by decide +kernel
theorem dL_minutesUntilVote_14 : decode cL_minutesUntilVote 14 = .ok (.ireturn, 1) := by decide +kernel
theorem dL_minutesUntilVote_15 : decode cL_minutesUntilVote 15 = .ok (.iconst 0, 1) := by decide +kernel
theorem dL_minutesUntilVote_16 : decode cL_minutesUntilVote 16 = .ok (.ireturn, 1) := by decide +kernel
theorem dL_propose_0 : decode cL_propose 0 = .ok (.aload_n 3, 1) := by decide +kernel
theorem dL_propose_1 : decode cL_propose 1 = .ok (.iconst 0, 1) := by decide +kernel
theorem dL_propose_2 : decode cL_propose 2 = .ok (.aload_n 0, 1) := by decide +kernel
theorem dL_propose_3 : decode cL_propose 3 = .ok (.iload_n 1, 1) := by decide +kernel
theorem dL_propose_4 : decode cL_propose 4 = .ok (.iload_n 2, 1) := by decide +kernel
theorem dL_propose_5 : decode cL_propose 5 = .ok (.invokevirtual 107, 3) := by decide +kernel
theorem dL_propose_8 : decode cL_propose 8 = .ok (.i2l, 1) := by decide +kernel
theorem dL_propose_9 : decode cL_propose 9 = .ok (.lastore, 1) := by decide +kernel
theorem dL_propose_10 : decode cL_propose 10 = .ok (.goto 15, 3) := by decide +kernel
theorem dL_propose_13 : decode cL_propose 13 = .ok (.astore 4, 2) := by decide +kernel
theorem dL_propose_15 : decode cL_propose 15 = .ok (.iconst 1, 1) := by decide +kernel
theorem dL_propose_16 : decode cL_propose 16 = .ok (.ireturn, 1) := by decide +kernel
theorem dL_propose_17 : decode cL_propose 17 = .ok (.astore 4, 2) := by decide +kernel
theorem dL_propose_19 : decode cL_propose 19 = .ok (.iconst 2, 1) := by decide +kernel
theorem dL_propose_20 : decode cL_propose 20 = .ok (.ireturn, 1) := by decide +kernel
theorem dL_propose_21 : decode cL_propose 21 = .ok (.astore 4, 2) := by decide +kernel
theorem dL_propose_23 : decode cL_propose 23 = .ok (.iconst 3, 1) := by decide +kernel
theorem dL_propose_24 : decode cL_propose 24 = .ok (.ireturn, 1) := by decide +kernel
theorem dL_propose_25 : decode cL_propose 25 = .ok (.iconst 0, 1) := by decide +kernel
theorem dL_propose_26 : decode cL_propose 26 = .ok (.ireturn, 1) := by decide +kernel
theorem dL_request_0 : decode cL_request 0 = .ok (.aload 4, 2) := by decide +kernel
theorem dL_request_2 : decode cL_request 2 = .ok (.iconst 0, 1) := by decide +kernel
theorem dL_request_3 : decode cL_request 3 = .ok (.aload_n 0, 1) := by decide +kernel
theorem dL_request_4 : decode cL_request 4 = .ok (.iload_n 1, 1) := by decide +kernel
theorem dL_request_5 : decode cL_request 5 = .ok (.iload_n 2, 1) := by decide +kernel
theorem dL_request_6 : decode cL_request 6 = .ok (.iload_n 3, 1) := by decide +kernel
theorem dL_request_7 : decode cL_request 7 = .ok (.invokevirtual 110, 3) := by decide +kernel
theorem dL_request_10 : decode cL_request 10 = .ok (.i2l, 1) := by decide +kernel
theorem dL_request_11 : decode cL_request 11 = .ok (.lastore, 1) := by decide +kernel
theorem dL_request_12 : decode cL_request 12 = .ok (.goto 11, 3) := by decide +kernel
theorem dL_request_15 : decode cL_request 15 = .ok (.astore 5, 2) := by decide +kernel
theorem dL_request_17 : decode cL_request 17 = .ok (.iconst 1, 1) := by decide +kernel
theorem dL_request_18 : decode cL_request 18 = .ok (.ireturn, 1) := by decide +kernel
theorem dL_request_19 : decode cL_request 19 = .ok (.astore 5, 2) := by decide +kernel
theorem dL_request_21 : decode cL_request 21 = .ok (.iconst 2, 1) := by decide +kernel
theorem dL_request_22 : decode cL_request 22 = .ok (.ireturn, 1) := by decide +kernel
theorem dL_request_23 : decode cL_request 23 = .ok (.iconst 0, 1) := by decide +kernel
theorem dL_request_24 : decode cL_request 24 = .ok (.ireturn, 1) := by decide +kernel
theorem dL_rebut_0 : decode cL_rebut 0 = .ok (.aload_n 3, 1) := by decide +kernel
theorem dL_rebut_1 : decode cL_rebut 1 = .ok (.iconst 0, 1) := by decide +kernel
theorem dL_rebut_2 : decode cL_rebut 2 = .ok (.aload_n 0, 1) := by decide +kernel
theorem dL_rebut_3 : decode cL_rebut 3 = .ok (.iload_n 1, 1) := by decide +kernel
theorem dL_rebut_4 : decode cL_rebut 4 = .ok (.iload_n 2, 1) := by decide +kernel
theorem dL_rebut_5 : decode cL_rebut 5 = .ok (.invokevirtual 114, 3) := by decide +kernel
theorem dL_rebut_8 : decode cL_rebut 8 = .ok (.i2l, 1) := by decide +kernel
theorem dL_rebut_9 : decode cL_rebut 9 = .ok (.lastore, 1) := by decide +kernel
theorem dL_rebut_10 : decode cL_rebut 10 = .ok (.goto 11, 3) := by decide +kernel
theorem dL_rebut_13 : decode cL_rebut 13 = .ok (.astore 4, 2) := by decide +kernel
theorem dL_rebut_15 : decode cL_rebut 15 = .ok (.iconst 1, 1) := by decide +kernel
theorem dL_rebut_16 : decode cL_rebut 16 = .ok (.ireturn, 1) := by decide +kernel
theorem dL_rebut_17 : decode cL_rebut 17 = .ok (.astore 4, 2) := by decide +kernel
theorem dL_rebut_19 : decode cL_rebut 19 = .ok (.iconst 2, 1) := by decide +kernel
theorem dL_rebut_20 : decode cL_rebut 20 = .ok (.ireturn, 1) := by decide +kernel
theorem dL_rebut_21 : decode cL_rebut 21 = .ok (.iconst 0, 1) := by decide +kernel
theorem dL_rebut_22 : decode cL_rebut 22 = .ok (.ireturn, 1) := by decide +kernel
theorem dL_advance_0 : decode cL_advance 0 = .ok (.aload_n 2, 1) := by decide +kernel
theorem dL_advance_1 : decode cL_advance 1 = .ok (.iconst 0, 1) := by decide +kernel
theorem dL_advance_2 : decode cL_advance 2 = .ok (.aload_n 0, 1) := by decide +kernel
theorem dL_advance_3 : decode cL_advance 3 = .ok (.iload_n 1, 1) := by decide +kernel
theorem dL_advance_4 : decode cL_advance 4 = .ok (.invokevirtual 117, 3) := by decide +kernel
theorem dL_advance_7 : decode cL_advance 7 = .ok (.i2l, 1) := by decide +kernel
theorem dL_advance_8 : decode cL_advance 8 = .ok (.lastore, 1) := by decide +kernel
theorem dL_advance_9 : decode cL_advance 9 = .ok (.goto 9, 3) := by decide +kernel
theorem dL_advance_12 : decode cL_advance 12 = .ok (.astore_n 3, 1) := by decide +kernel
theorem dL_advance_13 : decode cL_advance 13 = .ok (.iconst 1, 1) := by decide +kernel
theorem dL_advance_14 : decode cL_advance 14 = .ok (.ireturn, 1) := by decide +kernel
theorem dL_advance_15 : decode cL_advance 15 = .ok (.astore_n 3, 1) := by decide +kernel
theorem dL_advance_16 : decode cL_advance 16 = .ok (.iconst 2, 1) := by decide +kernel
theorem dL_advance_17 : decode cL_advance 17 = .ok (.ireturn, 1) := by decide +kernel
theorem dL_advance_18 : decode cL_advance 18 = .ok (.iconst 0, 1) := by decide +kernel
theorem dL_advance_19 : decode cL_advance 19 = .ok (.ireturn, 1) := by decide +kernel
theorem dL_vote_0 : decode cL_vote 0 = .ok (.aload_n 2, 1) := by decide +kernel
theorem dL_vote_1 : decode cL_vote 1 = .ok (.iconst 0, 1) := by decide +kernel
theorem dL_vote_2 : decode cL_vote 2 = .ok (.aload_n 0, 1) := by decide +kernel
theorem dL_vote_3 : decode cL_vote 3 = .ok (.iload_n 1, 1) := by decide +kernel
theorem dL_vote_4 : decode cL_vote 4 = .ok (.invokevirtual 120, 3) := by decide +kernel
theorem dL_vote_7 : decode cL_vote 7 = .ok (.ifCond .eq 7, 3) := by decide +kernel
theorem dL_vote_10 : decode cL_vote 10 = .ok (.lconst 1, 1) := by decide +kernel
theorem dL_vote_11 : decode cL_vote 11 = .ok (.goto 4, 3) := by decide +kernel
theorem dL_vote_14 : decode cL_vote 14 = .ok (.lconst 0, 1) := by decide +kernel
theorem dL_vote_15 : decode cL_vote 15 = .ok (.lastore, 1) := by decide +kernel
theorem dL_vote_16 : decode cL_vote 16 = .ok (.goto 9, 3) := by decide +kernel
theorem dL_vote_19 : decode cL_vote 19 = .ok (.astore_n 3, 1) := by decide +kernel
theorem dL_vote_20 : decode cL_vote 20 = .ok (.iconst 1, 1) := by decide +kernel
theorem dL_vote_21 : decode cL_vote 21 = .ok (.ireturn, 1) := by decide +kernel
theorem dL_vote_22 : decode cL_vote 22 = .ok (.astore_n 3, 1) := by decide +kernel
theorem dL_vote_23 : decode cL_vote 23 = .ok (.iconst 2, 1) := by decide +kernel
theorem dL_vote_24 : decode cL_vote 24 = .ok (.ireturn, 1) := by decide +kernel
theorem dL_vote_25 : decode cL_vote 25 = .ok (.iconst 0, 1) := by decide +kernel
theorem dL_vote_26 : decode cL_vote 26 = .ok (.ireturn, 1) := by decide +kernel
theorem dL_withdraw_0 : decode cL_withdraw 0 = .ok (.aload_n 2, 1) := by decide +kernel
theorem dL_withdraw_1 : decode cL_withdraw 1 = .ok (.iconst 0, 1) := by decide +kernel
theorem dL_withdraw_2 : decode cL_withdraw 2 = .ok (.aload_n 0, 1) := by decide +kernel
theorem dL_withdraw_3 : decode cL_withdraw 3 = .ok (.iload_n 1, 1) := by decide +kernel
theorem dL_withdraw_4 : decode cL_withdraw 4 = .ok (.invokevirtual 123, 3) := by decide +kernel
theorem dL_withdraw_7 : decode cL_withdraw 7 = .ok (.i2l, 1) := by decide +kernel
theorem dL_withdraw_8 : decode cL_withdraw 8 = .ok (.lastore, 1) := by decide +kernel
theorem dL_withdraw_9 : decode cL_withdraw 9 = .ok (.goto 9, 3) := by decide +kernel
theorem dL_withdraw_12 : decode cL_withdraw 12 = .ok (.astore_n 3, 1) := by decide +kernel
theorem dL_withdraw_13 : decode cL_withdraw 13 = .ok (.iconst 1, 1) := by decide +kernel
theorem dL_withdraw_14 : decode cL_withdraw 14 = .ok (.ireturn, 1) := by decide +kernel
theorem dL_withdraw_15 : decode cL_withdraw 15 = .ok (.astore_n 3, 1) := by decide +kernel
theorem dL_withdraw_16 : decode cL_withdraw 16 = .ok (.iconst 2, 1) := by decide +kernel
theorem dL_withdraw_17 : decode cL_withdraw 17 = .ok (.ireturn, 1) := by decide +kernel
theorem dL_withdraw_18 : decode cL_withdraw 18 = .ok (.iconst 0, 1) := by decide +kernel
theorem dL_withdraw_19 : decode cL_withdraw 19 = .ok (.ireturn, 1) := by decide +kernel
theorem dL_sharpen_0 : decode cL_sharpen 0 = .ok (.aload_n 2, 1) := by decide +kernel
theorem dL_sharpen_1 : decode cL_sharpen 1 = .ok (.iconst 0, 1) := by decide +kernel
theorem dL_sharpen_2 : decode cL_sharpen 2 = .ok (.aload_n 0, 1) := by decide +kernel
theorem dL_sharpen_3 : decode cL_sharpen 3 = .ok (.iload_n 1, 1) := by decide +kernel
theorem dL_sharpen_4 : decode cL_sharpen 4 = .ok (.invokevirtual 126, 3) := by decide +kernel
theorem dL_sharpen_7 : decode cL_sharpen 7 = .ok (.i2l, 1) := by decide +kernel
theorem dL_sharpen_8 : decode cL_sharpen 8 = .ok (.lastore, 1) := by decide +kernel
theorem dL_sharpen_9 : decode cL_sharpen 9 = .ok (.goto 9, 3) := by decide +kernel
theorem dL_sharpen_12 : decode cL_sharpen 12 = .ok (.astore_n 3, 1) := by decide +kernel
theorem dL_sharpen_13 : decode cL_sharpen 13 = .ok (.iconst 1, 1) := by decide +kernel
theorem dL_sharpen_14 : decode cL_sharpen 14 = .ok (.ireturn, 1) := by decide +kernel
theorem dL_sharpen_15 : decode cL_sharpen 15 = .ok (.astore_n 3, 1) := by decide +kernel
theorem dL_sharpen_16 : decode cL_sharpen 16 = .ok (.iconst 2, 1) := by decide +kernel
theorem dL_sharpen_17 : decode cL_sharpen 17 = .ok (.ireturn, 1) := by decide +kernel
theorem dL_sharpen_18 : decode cL_sharpen 18 = .ok (.iconst 0, 1) := by decide +kernel
theorem dL_sharpen_19 : decode cL_sharpen 19 = .ok (.ireturn, 1) := by decide +kernel
theorem dL_setRanking_0 : decode cL_setRanking 0 = .ok (.aload_n 2, 1) := by decide +kernel
theorem dL_setRanking_1 : decode cL_setRanking 1 = .ok (.iconst 0, 1) := by decide +kernel
theorem dL_setRanking_2 : decode cL_setRanking 2 = .ok (.aload_n 0, 1) := by decide +kernel
theorem dL_setRanking_3 : decode cL_setRanking 3 = .ok (.iload_n 1, 1) := by decide +kernel
theorem dL_setRanking_4 : decode cL_setRanking 4 = .ok (.invokevirtual 129, 3) := by decide +kernel
theorem dL_setRanking_7 : decode cL_setRanking 7 = .ok (.i2l, 1) := by decide +kernel
theorem dL_setRanking_8 : decode cL_setRanking 8 = .ok (.lastore, 1) := by decide +kernel
theorem dL_setRanking_9 : decode cL_setRanking 9 = .ok (.goto 6, 3) := by decide +kernel
theorem dL_setRanking_12 : decode cL_setRanking 12 = .ok (.astore_n 3, 1) := by decide +kernel
theorem dL_setRanking_13 : decode cL_setRanking 13 = .ok (.iconst 1, 1) := by decide +kernel
theorem dL_setRanking_14 : decode cL_setRanking 14 = .ok (.ireturn, 1) := by decide +kernel
theorem dL_setRanking_15 : decode cL_setRanking 15 = .ok (.iconst 0, 1) := by decide +kernel
theorem dL_setRanking_16 : decode cL_setRanking 16 = .ok (.ireturn, 1) := by decide +kernel
theorem dL_undo_0 : decode cL_undo 0 = .ok (.aload_n 1, 1) := by decide +kernel
theorem dL_undo_1 : decode cL_undo 1 = .ok (.iconst 0, 1) := by decide +kernel
theorem dL_undo_2 : decode cL_undo 2 = .ok (.aload_n 0, 1) := by decide +kernel
theorem dL_undo_3 : decode cL_undo 3 = .ok (.invokevirtual 132, 3) := by decide +kernel
theorem dL_undo_6 : decode cL_undo 6 = .ok (.i2l, 1) := by decide +kernel
theorem dL_undo_7 : decode cL_undo 7 = .ok (.lastore, 1) := by decide +kernel
theorem dL_undo_8 : decode cL_undo 8 = .ok (.goto 6, 3) := by decide +kernel
theorem dL_undo_11 : decode cL_undo 11 = .ok (.astore_n 2, 1) := by decide +kernel
theorem dL_undo_12 : decode cL_undo 12 = .ok (.iconst 1, 1) := by decide +kernel
theorem dL_undo_13 : decode cL_undo 13 = .ok (.ireturn, 1) := by decide +kernel
theorem dL_undo_14 : decode cL_undo 14 = .ok (.iconst 0, 1) := by decide +kernel
theorem dL_undo_15 : decode cL_undo 15 = .ok (.ireturn, 1) := by decide +kernel
theorem dL_save_0 : decode cL_save 0 = .ok (.aload_n 2, 1) := by decide +kernel
theorem dL_save_1 : decode cL_save 1 = .ok (.iconst 0, 1) := by decide +kernel
theorem dL_save_2 : decode cL_save 2 = .ok (.aload_n 0, 1) := by decide +kernel
theorem dL_save_3 : decode cL_save 3 = .ok (.iload_n 1, 1) := by decide +kernel
theorem dL_save_4 : decode cL_save 4 = .ok (.invokevirtual 136, 3) := by decide +kernel
theorem dL_save_7 : decode cL_save 7 = .ok (.i2l, 1) := by decide +kernel
theorem dL_save_8 : decode cL_save 8 = .ok (.lastore, 1) := by decide +kernel
theorem dL_save_9 : decode cL_save 9 = .ok (.goto 6, 3) := by decide +kernel
theorem dL_save_12 : decode cL_save 12 = .ok (.astore_n 3, 1) := by decide +kernel
theorem dL_save_13 : decode cL_save 13 = .ok (.iconst 1, 1) := by decide +kernel
theorem dL_save_14 : decode cL_save 14 = .ok (.ireturn, 1) := by decide +kernel
theorem dL_save_15 : decode cL_save 15 = .ok (.iconst 0, 1) := by decide +kernel
theorem dL_save_16 : decode cL_save 16 = .ok (.ireturn, 1) := by decide +kernel
theorem dL_restore_0 : decode cL_restore 0 = .ok (.aload_n 2, 1) := by decide +kernel
theorem dL_restore_1 : decode cL_restore 1 = .ok (.iconst 0, 1) := by decide +kernel
theorem dL_restore_2 : decode cL_restore 2 = .ok (.aload_n 0, 1) := by decide +kernel
theorem dL_restore_3 : decode cL_restore 3 = .ok (.iload_n 1, 1) := by decide +kernel
theorem dL_restore_4 : decode cL_restore 4 = .ok (.invokevirtual 139, 3) := by decide +kernel
theorem dL_restore_7 : decode cL_restore 7 = .ok (.i2l, 1) := by decide +kernel
theorem dL_restore_8 : decode cL_restore 8 = .ok (.lastore, 1) := by decide +kernel
theorem dL_restore_9 : decode cL_restore 9 = .ok (.goto 9, 3) := by decide +kernel
theorem dL_restore_12 : decode cL_restore 12 = .ok (.astore_n 3, 1) := by decide +kernel
theorem dL_restore_13 : decode cL_restore 13 = .ok (.iconst 1, 1) := by decide +kernel
theorem dL_restore_14 : decode cL_restore 14 = .ok (.ireturn, 1) := by decide +kernel
theorem dL_restore_15 : decode cL_restore 15 = .ok (.astore_n 3, 1) := by decide +kernel
theorem dL_restore_16 : decode cL_restore 16 = .ok (.iconst 2, 1) := by decide +kernel
theorem dL_restore_17 : decode cL_restore 17 = .ok (.ireturn, 1) := by decide +kernel
theorem dL_restore_18 : decode cL_restore 18 = .ok (.iconst 0, 1) := by decide +kernel
theorem dL_restore_19 : decode cL_restore 19 = .ok (.ireturn, 1) := by decide +kernel
