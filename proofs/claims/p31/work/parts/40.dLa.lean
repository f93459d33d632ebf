theorem dL_at_0 : decode cL_at 0 = .ok (.iload_n 1, 1) := by decide +kernel
theorem dL_at_1 : decode cL_at 1 = .ok (.aload_n 0, 1) := by decide +kernel
theorem dL_at_2 : decode cL_at 2 = .ok (.arraylength, 1) := by decide +kernel
theorem dL_at_3 : decode cL_at 3 = .ok (.if_icmp .ge 9, 3) := by decide +kernel
theorem dL_at_6 : decode cL_at 6 = .ok (.aload_n 0, 1) := by decide +kernel
theorem dL_at_7 : decode cL_at 7 = .ok (.iload_n 1, 1) := by decide +kernel
theorem dL_at_8 : decode cL_at 8 = .ok (.iaload, 1) := by decide +kernel
theorem dL_at_9 : decode cL_at 9 = .ok (.goto 12, 3) := by decide +kernel
theorem dL_at_12 : decode cL_at 12 = .ok (.ldc 7, 2) := by decide +kernel
theorem dL_at_14 : decode cL_at 14 = .ok (.iload_n 1, 1) := by decide +kernel
theorem dL_at_15 : decode cL_at 15 = .ok (.iconst 1, 1) := by decide +kernel
theorem dL_at_16 : decode cL_at 16 = .ok (.iadd, 1) := by decide +kernel
theorem dL_at_17 : decode cL_at 17 = .ok (.imul, 1) := by decide +kernel
theorem dL_at_18 : decode cL_at 18 = .ok (.ldc 8, 2) := by decide +kernel
theorem dL_at_20 : decode cL_at 20 = .ok (.iadd, 1) := by decide +kernel
theorem dL_at_21 : decode cL_at 21 = .ok (.ireturn, 1) := by decide +kernel
theorem dL_low_0 : decode cL_low 0 = .ok (.iload_n 0, 1) := by decide +kernel
theorem dL_low_1 : decode cL_low 1 = .ok (.ldc 9, 2) := by decide +kernel
theorem dL_low_3 : decode cL_low 3 = .ok (.iand, 1) := by decide +kernel
theorem dL_low_4 : decode cL_low 4 = .ok (.iload_n 1, 1) := by decide +kernel
theorem dL_low_5 : decode cL_low 5 = .ok (.irem, 1) := by decide +kernel
theorem dL_low_6 : decode cL_low 6 = .ok (.ireturn, 1) := by decide +kernel
theorem dL_insert_0 : decode cL_insert 0 = .ok (.aload_n 0, 1) := by decide +kernel
theorem dL_insert_1 : decode cL_insert 1 = .ok (.iload_n 1, 1) := by decide +kernel
theorem dL_insert_2 : decode cL_insert 2 = .ok (.iload_n 2, 1) := by decide +kernel
theorem dL_insert_3 : decode cL_insert 3 = .ok (.iload_n 3, 1) := by decide +kernel
theorem dL_insert_4 : decode cL_insert 4 = .ok (.invokevirtual 10, 3) := by decide +kernel
theorem dL_insert_7 : decode cL_insert 7 = .ok (.ireturn, 1) := by decide +kernel
theorem dL_insert_8 : decode cL_insert 8 = .ok (.astore 4, 2) := by decide +kernel
theorem dL_insert_10 : decode cL_insert 10 = .ok (.ldc 18, 2) := by decide +kernel
theorem dL_insert_12 : decode cL_insert 12 = .ok (.ireturn, 1) := by decide +kernel
theorem dL_insert_13 : decode cL_insert 13 = .ok (.astore 4, 2) := by decide +kernel
theorem dL_insert_15 : decode cL_insert 15 = .ok (.ldc 21, 2) := by decide +kernel
theorem dL_insert_17 : decode cL_insert 17 = .ok (.ireturn, 1) := by decide +kernel
theorem dL_insert_18 : decode cL_insert 18 = .ok (.astore 4, 2) := by decide +kernel
theorem dL_insert_20 : decode cL_insert 20 = .ok (.ldc 24, 2) := by decide +kernel
theorem dL_insert_22 : decode cL_insert 22 = .ok (.ireturn, 1) := by decide +kernel
theorem dL_remove_0 : decode cL_remove 0 = .ok (.aload_n 0, 1) := by decide +kernel
theorem dL_remove_1 : decode cL_remove 1 = .ok (.iload_n 1, 1) := by decide +kernel
theorem dL_remove_2 : decode cL_remove 2 = .ok (.invokevirtual 25, 3) := by decide +kernel
theorem dL_remove_5 : decode cL_remove 5 = .ok (.ireturn, 1) := by decide +kernel
theorem dL_remove_6 : decode cL_remove 6 = .ok (.astore_n 2, 1) := by decide +kernel
theorem dL_remove_7 : decode cL_remove 7 = .ok (.ldc 18, 2) := by decide +kernel
theorem dL_remove_9 : decode cL_remove 9 = .ok (.ireturn, 1) := by decide +kernel
theorem dL_move_0 : decode cL_move 0 = .ok (.aload_n 0, 1) := by decide +kernel
theorem dL_move_1 : decode cL_move 1 = .ok (.iload_n 1, 1) := by decide +kernel
theorem dL_move_2 : decode cL_move 2 = .ok (.iload_n 2, 1) := by decide +kernel
theorem dL_move_3 : decode cL_move 3 = .ok (.invokevirtual 29, 3) := by decide +kernel
theorem dL_move_6 : decode cL_move 6 = .ok (.iconst 0, 1) := by decide +kernel
theorem dL_move_7 : decode cL_move 7 = .ok (.ireturn, 1) := by decide +kernel
theorem dL_move_8 : decode cL_move 8 = .ok (.astore_n 3, 1) := by decide +kernel
theorem dL_move_9 : decode cL_move 9 = .ok (.ldc 18, 2) := by decide +kernel
theorem dL_move_11 : decode cL_move 11 = .ok (.ireturn, 1) := by decide +kernel
theorem dL_edit_0 : decode cL_edit 0 = .ok (.aload_n 0, 1) := by decide +kernel
theorem dL_edit_1 : decode cL_edit 1 = .ok (.iload_n 1, 1) := by decide +kernel
theorem dL_edit_2 : decode cL_edit 2 = .ok (.iload_n 2, 1) := by decide +kernel
theorem dL_edit_3 : decode cL_edit 3 = .ok (.iload_n 3, 1) := by decide +kernel
theorem dL_edit_4 : decode cL_edit 4 = .ok (.invokevirtual 33, 3) := by decide +kernel
theorem dL_edit_7 : decode cL_edit 7 = .ok (.ireturn, 1) := by decide +kernel
theorem dL_edit_8 : decode cL_edit 8 = .ok (.astore 4, 2) := by decide +kernel
theorem dL_edit_10 : decode cL_edit 10 = .ok (.ldc 18, 2) := by decide +kernel
theorem dL_edit_12 : decode cL_edit 12 = .ok (.ireturn, 1) := by decide +kernel
theorem dL_edit_13 : decode cL_edit 13 = .ok (.astore 4, 2) := by decide +kernel
theorem dL_edit_15 : decode cL_edit 15 = .ok (.ldc 21, 2) := by decide +kernel
theorem dL_edit_17 : decode cL_edit 17 = .ok (.ireturn, 1) := by decide +kernel
theorem dL_replace_0 : decode cL_replace 0 = .ok (.aload_n 0, 1) := by decide +kernel
theorem dL_replace_1 : decode cL_replace 1 = .ok (.iload_n 1, 1) := by decide +kernel
theorem dL_replace_2 : decode cL_replace 2 = .ok (.iload_n 2, 1) := by decide +kernel
theorem dL_replace_3 : decode cL_replace 3 = .ok (.invokevirtual 36, 3) := by decide +kernel
theorem dL_replace_6 : decode cL_replace 6 = .ok (.ireturn, 1) := by decide +kernel
theorem dL_replace_7 : decode cL_replace 7 = .ok (.astore_n 3, 1) := by decide +kernel
theorem dL_replace_8 : decode cL_replace 8 = .ok (.ldc 21, 2) := by decide +kernel
theorem dL_replace_10 : decode cL_replace 10 = .ok (.ireturn, 1) := by decide +kernel
theorem dL_edition_0 : decode cL_edition 0 = .ok (.aload_n 0, 1) := by decide +kernel
theorem dL_edition_1 : decode cL_edition 1 = .ok (.iload_n 1, 1) := by decide +kernel
theorem dL_edition_2 : decode cL_edition 2 = .ok (.invokevirtual 40, 3) := by decide +kernel
theorem dL_edition_5 : decode cL_edition 5 = .ok (.ireturn, 1) := by decide +kernel
theorem dL_edition_6 : decode cL_edition 6 = .ok (.astore_n 2, 1) := by decide +kernel
theorem dL_edition_7 : decode cL_edition 7 = .ok (.ldc 18, 2) := by decide +kernel
theorem dL_edition_9 : decode cL_edition 9 = .ok (.ireturn, 1) := by decide +kernel
theorem dL_setFolds_0 : decode cL_setFolds 0 = .ok (.aload_n 0, 1) := by decide +kernel
theorem dL_setFolds_1 : decode cL_setFolds 1 = .ok (.iload_n 1, 1) := by decide +kernel
theorem dL_setFolds_2 : decode cL_setFolds 2 = .ok (.iload_n 2, 1) := by decide +kernel
theorem dL_setFolds_3 : decode cL_setFolds 3 = .ok (.invokevirtual 43, 3) := by decide +kernel
theorem dL_setFolds_6 : decode cL_setFolds 6 = .ok (.ireturn, 1) := by decide +kernel
theorem dL_setFolds_7 : decode cL_setFolds 7 = .ok (.astore_n 3, 1) := by decide +kernel
theorem dL_setFolds_8 : decode cL_setFolds 8 = .ok (.ldc 21, 2) := by decide +kernel
theorem dL_setFolds_10 : decode cL_setFolds 10 = .ok (.ireturn, 1) := by decide +kernel
theorem dL_pageAt_0 : decode cL_pageAt 0 = .ok (.aload_n 0, 1) := by decide +kernel
theorem dL_pageAt_1 : decode cL_pageAt 1 = .ok (.iload_n 1, 1) := by decide +kernel
theorem dL_pageAt_2 : decode cL_pageAt 2 = .ok (.iload_n 2, 1) := by decide +kernel
theorem dL_pageAt_3 : decode cL_pageAt 3 = .ok (.iload_n 3, 1) := by decide +kernel
theorem dL_pageAt_4 : decode cL_pageAt 4 = .ok (.iload 4, 2) := by decide +kernel
theorem dL_pageAt_6 : decode cL_pageAt 6 = .ok (.invokevirtual 46, 3) := by decide +kernel
theorem dL_pageAt_9 : decode cL_pageAt 9 = .ok (.ireturn, 1) := by decide +kernel
theorem dL_pageAt_10 : decode cL_pageAt 10 = .ok (.astore 5, 2) := by decide +kernel
theorem dL_pageAt_12 : decode cL_pageAt 12 = .ok (.ldc 18, 2) := by decide +kernel
theorem dL_pageAt_14 : decode cL_pageAt 14 = .ok (.ireturn, 1) := by decide +kernel
theorem dL_pageAt_15 : decode cL_pageAt 15 = .ok (.astore 5, 2) := by decide +kernel
theorem dL_pageAt_17 : decode cL_pageAt 17 = .ok (.ldc 21, 2) := by decide +kernel
theorem dL_pageAt_19 : decode cL_pageAt 19 = .ok (.ireturn, 1) := by decide +kernel
theorem dL_pageByRule_0 : decode cL_pageByRule 0 = .ok (.aload_n 0, 1) := by decide +kernel
theorem dL_pageByRule_1 : decode cL_pageByRule 1 = .ok (.iload_n 1, 1) := by decide +kernel
theorem dL_pageByRule_2 : decode cL_pageByRule 2 = .ok (.iload_n 2, 1) := by decide +kernel
theorem dL_pageByRule_3 : decode cL_pageByRule 3 = .ok (.iload_n 3, 1) := by decide +kernel
theorem dL_pageByRule_4 : decode cL_pageByRule 4 = .ok (.iload 4, 2) := by decide +kernel
theorem dL_pageByRule_6 : decode cL_pageByRule 6 = .ok (.invokevirtual 50, 3) := by decide +kernel
theorem dL_pageByRule_9 : decode cL_pageByRule 9 = .ok (.ireturn, 1) := by decide +kernel
theorem dL_pageByRule_10 : decode cL_pageByRule 10 = .ok (.astore 5, 2) := by decide +kernel
theorem dL_pageByRule_12 : decode cL_pageByRule 12 = .ok (.ldc 18, 2) := by decide +kernel
theorem dL_pageByRule_14 : decode cL_pageByRule 14 = .ok (.ireturn, 1) := by decide +kernel
theorem dL_pageByRule_15 : decode cL_pageByRule 15 = .ok (.astore 5, 2) := by decide +kernel
theorem dL_pageByRule_17 : decode cL_pageByRule 17 = .ok (.ldc 21, 2) := by decide +kernel
theorem dL_pageByRule_19 : decode cL_pageByRule 19 = .ok (.ireturn, 1) := by decide +kernel
theorem dL_leafOf_0 : decode cL_leafOf 0 = .ok (.aload_n 0, 1) := by decide +kernel
theorem dL_leafOf_1 : decode cL_leafOf 1 = .ok (.iload_n 1, 1) := by decide +kernel
theorem dL_leafOf_2 : decode cL_leafOf 2 = .ok (.invokevirtual 53, 3) := by decide +kernel
theorem dL_leafOf_5 : decode cL_leafOf 5 = .ok (.ireturn, 1) := by decide +kernel
theorem dL_leafOf_6 : decode cL_leafOf 6 = .ok (.astore_n 2, 1) := by decide +kernel
theorem dL_leafOf_7 : decode cL_leafOf 7 = .ok (.ldc 18, 2) := by decide +kernel
theorem dL_leafOf_9 : decode cL_leafOf 9 = .ok (.ireturn, 1) := by decide +kernel
theorem dL_isTurned_0 : decode cL_isTurned 0 = .ok (.aload_n 0, 1) := by decide +kernel
theorem dL_isTurned_1 : decode cL_isTurned 1 = .ok (.iload_n 1, 1) := by decide +kernel
theorem dL_isTurned_2 : decode cL_isTurned 2 = .ok (.invokevirtual 56, 3) := by decide +kernel
theorem dL_isTurned_5 : decode cL_isTurned 5 = .ok (.ifCond .eq 7, 3) := by decide +kernel
theorem dL_isTurned_8 : decode cL_isTurned 8 = .ok (.iconst 1, 1) := by decide +kernel
theorem dL_isTurned_9 : decode cL_isTurned 9 = .ok (.goto 4, 3) := by decide +kernel
theorem dL_isTurned_12 : decode cL_isTurned 12 = .ok (.iconst 0, 1) := by decide +kernel
theorem dL_isTurned_13 : decode cL_isTurned 13 = .ok (.ireturn, 1) := by decide +kernel
theorem dL_isTurned_14 : decode cL_isTurned 14 = .ok (.astore_n 2, 1) := by decide +kernel
theorem dL_isTurned_15 : decode cL_isTurned 15 = .ok (.ldc 18, 2) := by decide +kernel
theorem dL_isTurned_17 : decode cL_isTurned 17 = .ok (.ireturn, 1) := by decide +kernel
theorem dL_setRight_0 : decode cL_setRight 0 = .ok (.aload_n 0, 1) := by decide +kernel
theorem dL_setRight_1 : decode cL_setRight 1 = .ok (.iload_n 1, 1) := by decide +kernel
theorem dL_setRight_2 : decode cL_setRight 2 = .ok (.iload_n 2, 1) := by decide +kernel
theorem dL_setRight_3 : decode cL_setRight 3 = .ok (.iload_n 3, 1) := by decide +kernel
theorem dL_setRight_4 : decode cL_setRight 4 = .ok (.invokevirtual 60, 3) := by decide +kernel
theorem dL_setRight_7 : decode cL_setRight 7 = .ok (.ireturn, 1) := by decide +kernel
theorem dL_setRight_8 : decode cL_setRight 8 = .ok (.astore 4, 2) := by decide +kernel
theorem dL_setRight_10 : decode cL_setRight 10 = .ok (.ldc 21, 2) := by decide +kernel
theorem dL_setRight_12 : decode cL_setRight 12 = .ok (.ireturn, 1) := by decide +kernel
theorem dL_withdraw_0 : decode cL_withdraw 0 = .ok (.aload_n 0, 1) := by decide +kernel
theorem dL_withdraw_1 : decode cL_withdraw 1 = .ok (.iload_n 1, 1) := by decide +kernel
theorem dL_withdraw_2 : decode cL_withdraw 2 = .ok (.invokevirtual 63, 3) := by decide +kernel
theorem dL_withdraw_5 : decode cL_withdraw 5 = .ok (.ireturn, 1) := by decide +kernel
theorem dL_withdraw_6 : decode cL_withdraw 6 = .ok (.astore_n 2, 1) := by decide +kernel
theorem dL_withdraw_7 : decode cL_withdraw 7 = .ok (.ldc 21, 2) := by decide +kernel
theorem dL_withdraw_9 : decode cL_withdraw 9 = .ok (.ireturn, 1) := by decide +kernel
theorem dL_withdraw_10 : decode cL_withdraw 10 = .ok (.astore_n 2, 1) := by decide +kernel
theorem dL_withdraw_11 : decode cL_withdraw 11 = .ok (.ldc 24, 2) := by decide +kernel
theorem dL_withdraw_13 : decode cL_withdraw 13 = .ok (.ireturn, 1) := by decide +kernel
theorem dL_pass_0 : decode cL_pass 0 = .ok (.aload_n 0, 1) := by decide +kernel
theorem dL_pass_1 : decode cL_pass 1 = .ok (.iload_n 1, 1) := by decide +kernel
theorem dL_pass_2 : decode cL_pass 2 = .ok (.invokevirtual 66, 3) := by decide +kernel
theorem dL_pass_5 : decode cL_pass 5 = .ok (.ireturn, 1) := by decide +kernel
theorem dL_pass_6 : decode cL_pass 6 = .ok (.astore_n 2, 1) := by decide +kernel
theorem dL_pass_7 : decode cL_pass 7 = .ok (.ldc 21, 2) := by decide +kernel
theorem dL_pass_9 : decode cL_pass 9 = .ok (.ireturn, 1) := by decide +kernel
theorem dL_mayUse_0 : decode cL_mayUse 0 = .ok (.aload_n 0, 1) := by decide +kernel
theorem dL_mayUse_1 : decode cL_mayUse 1 = .ok (.iload_n 1, 1) := by decide +kernel
theorem dL_mayUse_2 : decode cL_mayUse 2 = .ok (.invokevirtual 69, 3) := by decide +kernel
theorem dL_mayUse_5 : decode cL_mayUse 5 = .ok (.ifCond .eq 7, 3) := by decide +kernel
theorem dL_mayUse_8 : decode cL_mayUse 8 = .ok (.iconst 1, 1) := by decide +kernel
theorem dL_mayUse_9 : decode cL_mayUse 9 = .ok (.goto 4, 3) := by decide +kernel
theorem dL_mayUse_12 : decode cL_mayUse 12 = .ok (.iconst 0, 1) := by decide +kernel
theorem dL_mayUse_13 : decode cL_mayUse 13 = .ok (.ireturn, 1) := by decide +kernel
theorem dL_mayUse_14 : decode cL_mayUse 14 = .ok (.astore_n 2, 1) := by decide +kernel
theorem dL_mayUse_15 : decode cL_mayUse 15 = .ok (.ldc 21, 2) := by decide +kernel
theorem dL_mayUse_17 : decode cL_mayUse 17 = .ok (.ireturn, 1) := by decide +kernel
theorem dL_prove_0 : decode cL_prove 0 = .ok (.aload_n 0, 1) := by decide +kernel
theorem dL_prove_1 : decode cL_prove 1 = .ok (.iload_n 1, 1) := by decide +kernel
theorem dL_prove_2 : decode cL_prove 2 = .ok (.iload_n 2, 1) := by decide +kernel
theorem dL_prove_3 : decode cL_prove 3 = .ok (.invokevirtual 72, 3) := by decide +kernel
theorem dL_prove_6 : decode cL_prove 6 = .ok (.ireturn, 1) := by decide +kernel
theorem dL_prove_7 : decode cL_prove 7 = .ok (.astore_n 3, 1) := by decide +kernel
theorem dL_prove_8 : decode cL_prove 8 = .ok (.ldc 18, 2) := by decide +kernel
theorem dL_prove_10 : decode cL_prove 10 = .ok (.ireturn, 1) := by decide +kernel
theorem dL_prove_11 : decode cL_prove 11 = .ok (.astore_n 3, 1) := by decide +kernel
theorem dL_prove_12 : decode cL_prove 12 = .ok (.ldc 21, 2) := by decide +kernel
theorem dL_prove_14 : decode cL_prove 14 = .ok (.ireturn, 1) := by decide +kernel
theorem dL_prove_15 : decode cL_prove 15 = .ok (.astore_n 3, 1) := by decide +kernel
theorem dL_prove_16 : decode cL_prove 16 = .ok (.ldc 24, 2) := by decide +kernel
theorem dL_prove_18 : decode cL_prove 18 = .ok (.ireturn, 1) := by decide +kernel
theorem dL_judge_0 : decode cL_judge 0 = .ok (.aload_n 0, 1) := by decide +kernel
theorem dL_judge_1 : decode cL_judge 1 = .ok (.iload_n 1, 1) := by decide +kernel
theorem dL_judge_2 : decode cL_judge 2 = .ok (.iload_n 2, 1) := by decide +kernel
theorem dL_judge_3 : decode cL_judge 3 = .ok (.iload_n 3, 1) := by decide +kernel
theorem dL_judge_4 : decode cL_judge 4 = .ok (.invokevirtual 75, 3) := by decide +kernel
theorem dL_judge_7 : decode cL_judge 7 = .ok (.ifCond .eq 7, 3) := by decide +kernel
theorem dL_judge_10 : decode cL_judge 10 = .ok (.iconst 1, 1) := by decide +kernel
theorem dL_judge_11 : decode cL_judge 11 = .ok (.goto 4, 3) := by decide +kernel
theorem dL_judge_14 : decode cL_judge 14 = .ok (.iconst 0, 1) := by decide +kernel
theorem dL_judge_15 : decode cL_judge 15 = .ok (.ireturn, 1) := by decide +kernel
theorem dL_judge_16 : decode cL_judge 16 = .ok (.astore 4, 2) := by decide +kernel
theorem dL_judge_18 : decode cL_judge 18 = .ok (.ldc 18, 2) := by decide +kernel
theorem dL_judge_20 : decode cL_judge 20 = .ok (.ireturn, 1) := by decide +kernel
theorem dL_judge_21 : decode cL_judge 21 = .ok (.astore 4, 2) := by decide +kernel
theorem dL_judge_23 : decode cL_judge 23 = .ok (.ldc 21, 2) := by decide +kernel
theorem dL_judge_25 : decode cL_judge 25 = .ok (.ireturn, 1) := by decide +kernel
theorem dL_judge_26 : decode cL_judge 26 = .ok (.astore 4, 2) := by decide +kernel
theorem dL_judge_28 : decode cL_judge 28 = .ok (.ldc 24, 2) := by decide +kernel
theorem dL_judge_30 : decode cL_judge 30 = .ok (.ireturn, 1) := by decide +kernel
theorem dL_proof_0 : decode cL_proof 0 = .ok (.aload_n 0, 1) := by decide +kernel
theorem dL_proof_1 : decode cL_proof 1 = .ok (.iload_n 1, 1) := by decide +kernel
theorem dL_proof_2 : decode cL_proof 2 = .ok (.iload_n 2, 1) := by decide +kernel
theorem dL_proof_3 : decode cL_proof 3 = .ok (.invokevirtual 79, 3) := by decide +kernel
theorem dL_proof_6 : decode cL_proof 6 = .ok (.ireturn, 1) := by decide +kernel
theorem dL_proof_7 : decode cL_proof 7 = .ok (.astore_n 3, 1) := by decide +kernel
theorem dL_proof_8 : decode cL_proof 8 = .ok (.ldc 18, 2) := by decide +kernel
theorem dL_proof_10 : decode cL_proof 10 = .ok (.ireturn, 1) := by decide +kernel
theorem dL_proof_11 : decode cL_proof 11 = .ok (.astore_n 3, 1) := by decide +kernel
theorem dL_proof_12 : decode cL_proof 12 = .ok (.ldc 21, 2) := by decide +kernel
theorem dL_proof_14 : decode cL_proof 14 = .ok (.ireturn, 1) := by decide +kernel
theorem dL_isReady_0 : decode cL_isReady 0 = .ok (.aload_n 0, 1) := by decide +kernel
theorem dL_isReady_1 : decode cL_isReady 1 = .ok (.iload_n 1, 1) := by decide +kernel
theorem dL_isReady_2 : decode cL_isReady 2 = .ok (.invokevirtual 82, 3) := by decide +kernel
theorem dL_isReady_5 : decode cL_isReady 5 = .ok (.ifCond .eq 7, 3) := by decide +kernel
theorem dL_isReady_8 : decode cL_isReady 8 = .ok (.iconst 1, 1) := by decide +kernel
theorem dL_isReady_9 : decode cL_isReady 9 = .ok (.goto 4, 3) := by decide +kernel
theorem dL_isReady_12 : decode cL_isReady 12 = .ok (.iconst 0, 1) := by decide +kernel
theorem dL_isReady_13 : decode cL_isReady 13 = .ok (.ireturn, 1) := by decide +kernel
theorem dL_isReady_14 : decode cL_isReady 14 = .ok (.astore_n 2, 1) := by decide +kernel
theorem dL_isReady_15 : decode cL_isReady 15 = .ok (.ldc 18, 2) := by decide +kernel
theorem dL_isReady_17 : decode cL_isReady 17 = .ok (.ireturn, 1) := by decide +kernel
theorem dL_makePlates_0 : decode cL_makePlates 0 = .ok (.aload_n 0, 1) := by decide +kernel
theorem dL_makePlates_1 : decode cL_makePlates 1 = .ok (.iload_n 1, 1) := by decide +kernel
theorem dL_makePlates_2 : decode cL_makePlates 2 = .ok (.invokevirtual 85, 3) := by decide +kernel
theorem dL_makePlates_5 : decode cL_makePlates 5 = .ok (.ireturn, 1) := by decide +kernel
theorem dL_makePlates_6 : decode cL_makePlates 6 = .ok (.astore_n 2, 1) := by decide +kernel
theorem dL_makePlates_7 : decode cL_makePlates 7 = .ok (.ldc 18, 2) := by decide +kernel
theorem dL_makePlates_9 : decode cL_makePlates 9 = .ok (.ireturn, 1) := by decide +kernel
theorem dL_makePlates_10 : decode cL_makePlates 10 = .ok (.astore_n 2, 1) := by decide +kernel
theorem dL_makePlates_11 : decode cL_makePlates 11 = .ok (.ldc 24, 2) := by decide +kernel
theorem dL_makePlates_13 : decode cL_makePlates 13 = .ok (.ireturn, 1) := by decide +kernel
theorem dL_wear_0 : decode cL_wear 0 = .ok (.aload_n 0, 1) := by decide +kernel
theorem dL_wear_1 : decode cL_wear 1 = .ok (.iload_n 1, 1) := by decide +kernel
theorem dL_wear_2 : decode cL_wear 2 = .ok (.iload_n 2, 1) := by decide +kernel
theorem dL_wear_3 : decode cL_wear 3 = .ok (.iload_n 3, 1) := by decide +kernel
theorem dL_wear_4 : decode cL_wear 4 = .ok (.invokevirtual 88, 3) := by decide +kernel
theorem dL_wear_7 : decode cL_wear 7 = .ok (.ireturn, 1) := by decide +kernel
theorem dL_wear_8 : decode cL_wear 8 = .ok (.astore 4, 2) := by decide +kernel
theorem dL_wear_10 : decode cL_wear 10 = .ok (.ldc 18, 2) := by decide +kernel
theorem dL_wear_12 : decode cL_wear 12 = .ok (.ireturn, 1) := by decide +kernel
theorem dL_wear_13 : decode cL_wear 13 = .ok (.astore 4, 2) := by decide +kernel
theorem dL_wear_15 : decode cL_wear 15 = .ok (.ldc 21, 2) := by decide +kernel
theorem dL_wear_17 : decode cL_wear 17 = .ok (.ireturn, 1) := by decide +kernel
theorem dL_print_0 : decode cL_print 0 = .ok (.aload_n 0, 1) := by decide +kernel
theorem dL_print_1 : decode cL_print 1 = .ok (.iload_n 1, 1) := by decide +kernel
theorem dL_print_2 : decode cL_print 2 = .ok (.iload_n 2, 1) := by decide +kernel
theorem dL_print_3 : decode cL_print 3 = .ok (.invokevirtual 91, 3) := by decide +kernel
theorem dL_print_6 : decode cL_print 6 = .ok (.ireturn, 1) := by decide +kernel
theorem dL_print_7 : decode cL_print 7 = .ok (.astore_n 3, 1) := by decide +kernel
theorem dL_print_8 : decode cL_print 8 = .ok (.ldc 18, 2) := by decide +kernel
theorem dL_print_10 : decode cL_print 10 = .ok (.ireturn, 1) := by decide +kernel
theorem dL_print_11 : decode cL_print 11 = .ok (.astore_n 3, 1) := by decide +kernel
theorem dL_print_12 : decode cL_print 12 = .ok (.ldc 21, 2) := by decide +kernel
theorem dL_print_14 : decode cL_print 14 = .ok (.ireturn, 1) := by decide +kernel
theorem dL_print_15 : decode cL_print 15 = .ok (.astore_n 3, 1) := by decide +kernel
theorem dL_print_16 : decode cL_print 16 = .ok (.ldc 24, 2) := by decide +kernel
theorem dL_print_18 : decode cL_print 18 = .ok (.ireturn, 1) := by decide +kernel
theorem dL_sheets_0 : decode cL_sheets 0 = .ok (.aload_n 0, 1) := by decide +kernel
theorem dL_sheets_1 : decode cL_sheets 1 = .ok (.iconst 0, 1) := by decide +kernel
theorem dL_sheets_2 : decode cL_sheets 2 = .ok (.iaload, 1) := by decide +kernel
theorem dL_sheets_3 : decode cL_sheets 3 = .ok (.iconst 2, 1) := by decide +kernel
theorem dL_sheets_4 : decode cL_sheets 4 = .ok (.aload_n 0, 1) := by decide +kernel
theorem dL_sheets_5 : decode cL_sheets 5 = .ok (.iconst 3, 1) := by decide +kernel
theorem dL_sheets_6 : decode cL_sheets 6 = .ok (.iaload, 1) := by decide +kernel
theorem dL_sheets_7 : decode cL_sheets 7 = .ok (.imul, 1) := by decide +kernel
theorem dL_sheets_8 : decode cL_sheets 8 = .ok (.iadd, 1) := by decide +kernel
theorem dL_sheets_9 : decode cL_sheets 9 = .ok (.iconst 1, 1) := by decide +kernel
theorem dL_sheets_10 : decode cL_sheets 10 = .ok (.isub, 1) := by decide +kernel
theorem dL_sheets_11 : decode cL_sheets 11 = .ok (.iconst 2, 1) := by decide +kernel
theorem dL_sheets_12 : decode cL_sheets 12 = .ok (.aload_n 0, 1) := by decide +kernel
theorem dL_sheets_13 : decode cL_sheets 13 = .ok (.iconst 3, 1) := by decide +kernel
theorem dL_sheets_14 : decode cL_sheets 14 = .ok (.iaload, 1) := by decide +kernel
theorem dL_sheets_15 : decode cL_sheets 15 = .ok (.imul, 1) := by decide +kernel
theorem dL_sheets_16 : decode cL_sheets 16 = .ok (.idiv, 1) := by decide +kernel
theorem dL_sheets_17 : decode cL_sheets 17 = .ok (.ireturn, 1) := by decide +kernel
theorem dL_may_0 : decode cL_may 0 = .ok (.aload_n 0, 1) := by decide +kernel
theorem dL_may_1 : decode cL_may 1 = .ok (.iload_n 2, 1) := by decide +kernel
theorem dL_may_2 : decode cL_may 2 = .ok (.iaload, 1) := by decide +kernel
theorem dL_may_3 : decode cL_may 3 = .ok (.ifCond .le 30, 3) := by decide +kernel
theorem dL_may_6 : decode cL_may 6 = .ok (.aload_n 0, 1) := by decide +kernel
theorem dL_may_7 : decode cL_may 7 = .ok (.iload_n 2, 1) := by decide +kernel
theorem dL_may_8 : decode cL_may 8 = .ok (.iaload, 1) := by decide +kernel
theorem dL_may_9 : decode cL_may 9 = .ok (.iconst 1, 1) := by decide +kernel
theorem dL_may_10 : decode cL_may 10 = .ok (.isub, 1) := by decide +kernel
theorem dL_may_11 : decode cL_may 11 = .ok (.aload_n 1, 1) := by decide +kernel
theorem dL_may_12 : decode cL_may 12 = .ok (.iconst 2, 1) := by decide +kernel
theorem dL_may_13 : decode cL_may 13 = .ok (.iaload, 1) := by decide +kernel
theorem dL_may_14 : decode cL_may 14 = .ok (.if_icmp .gt 19, 3) := by decide +kernel
theorem dL_may_17 : decode cL_may 17 = .ok (.aload_n 0, 1) := by decide +kernel
theorem dL_may_18 : decode cL_may 18 = .ok (.bipush 8, 2) := by decide +kernel
theorem dL_may_20 : decode cL_may 20 = .ok (.iload_n 2, 1) := by decide +kernel
theorem dL_may_21 : decode cL_may 21 = .ok (.iadd, 1) := by decide +kernel
theorem dL_may_22 : decode cL_may 22 = .ok (.iaload, 1) := by decide +kernel
theorem dL_may_23 : decode cL_may 23 = .ok (.aload_n 1, 1) := by decide +kernel
theorem dL_may_24 : decode cL_may 24 = .ok (.iconst 2, 1) := by decide +kernel
theorem dL_may_25 : decode cL_may 25 = .ok (.iaload, 1) := by decide +kernel
theorem dL_may_26 : decode cL_may 26 = .ok (.if_icmp .lt 7, 3) := by decide +kernel
theorem dL_may_29 : decode cL_may 29 = .ok (.iconst 1, 1) := by decide +kernel
theorem dL_may_30 : decode cL_may 30 = .ok (.goto 4, 3) := by decide +kernel
theorem dL_may_33 : decode cL_may 33 = .ok (.iconst 0, 1) := by decide +kernel
theorem dL_may_34 : decode cL_may 34 = .ok (.ireturn, 1) := by decide +kernel
theorem dL_finished_0 : decode cL_finished 0 = .ok (.iconst 1, 1) := by decide +kernel
theorem dL_finished_1 : decode cL_finished 1 = .ok (.istore 5, 2) := by decide +kernel
theorem dL_finished_3 : decode cL_finished 3 = .ok (.iconst 0, 1) := by decide +kernel
theorem dL_finished_4 : decode cL_finished 4 = .ok (.istore 6, 2) := by decide +kernel
theorem dL_finished_6 : decode cL_finished 6 = .ok (.iload 6, 2) := by decide +kernel
theorem dL_finished_8 : decode cL_finished 8 = .ok (.bipush 8, 2) := by decide +kernel
theorem dL_finished_10 : decode cL_finished 10 = .ok (.if_icmp .ge 43, 3) := by decide +kernel
theorem dL_finished_13 : decode cL_finished 13 = .ok (.iload 5, 2) := by decide +kernel
theorem dL_finished_15 : decode cL_finished 15 = .ok (.ifCond .eq 29, 3) := by decide +kernel
theorem dL_finished_18 : decode cL_finished 18 = .ok (.aload_n 0, 1) := by decide +kernel
theorem dL_finished_19 : decode cL_finished 19 = .ok (.iload 4, 2) := by decide +kernel
theorem dL_finished_21 : decode cL_finished 21 = .ok (.iaload, 1) := by decide +kernel
theorem dL_finished_22 : decode cL_finished 22 = .ok (.iload 6, 2) := by decide +kernel
theorem dL_finished_24 : decode cL_finished 24 = .ok (.ishr, 1) := by decide +kernel
theorem dL_finished_25 : decode cL_finished 25 = .ok (.iconst 1, 1) := by decide +kernel
theorem dL_finished_26 : decode cL_finished 26 = .ok (.iand, 1) := by decide +kernel
theorem dL_finished_27 : decode cL_finished 27 = .ok (.ifCond .eq 13, 3) := by decide +kernel
theorem dL_finished_30 : decode cL_finished 30 = .ok (.aload_n 2, 1) := by decide +kernel
theorem dL_finished_31 : decode cL_finished 31 = .ok (.aload_n 3, 1) := by decide +kernel
theorem dL_finished_32 : decode cL_finished 32 = .ok (.iload 6, 2) := by decide +kernel
theorem dL_finished_34 : decode cL_finished 34 = .ok (.invokestatic 94, 3) := by decide +kernel
theorem dL_finished_37 : decode cL_finished 37 = .ok (.ifCond .eq 7, 3) := by decide +kernel
theorem dL_finished_40 : decode cL_finished 40 = .ok (.iconst 1, 1) := by decide +kernel
theorem dL_finished_41 : decode cL_finished 41 = .ok (.goto 4, 3) := by decide +kernel
theorem dL_finished_44 : decode cL_finished 44 = .ok (.iconst 0, 1) := by decide +kernel
theorem dL_finished_45 : decode cL_finished 45 = .ok (.istore 5, 2) := by decide +kernel
theorem dL_finished_47 : decode cL_finished 47 = .ok (.iinc 6 1, 3) := by decide +kernel
theorem dL_finished_50 : decode cL_finished 50 = .ok (.goto (-44), 3) := by decide +kernel
theorem dL_finished_53 : decode cL_finished 53 = .ok (.iconst 0, 1) := by decide +kernel
theorem dL_finished_54 : decode cL_finished 54 = .ok (.istore 6, 2) := by decide +kernel
theorem dL_finished_56 : decode cL_finished 56 = .ok (.iload 6, 2) := by decide +kernel
theorem dL_finished_58 : decode cL_finished 58 = .ok (.iconst 4, 1) := by decide +kernel
theorem dL_finished_59 : decode cL_finished 59 = .ok (.if_icmp .ge 51, 3) := by decide +kernel
theorem dL_finished_62 : decode cL_finished 62 = .ok (.iload 5, 2) := by decide +kernel
theorem dL_finished_64 : decode cL_finished 64 = .ok (.ifCond .eq 37, 3) := by decide +kernel
theorem dL_finished_67 : decode cL_finished 67 = .ok (.aload_n 0, 1) := by decide +kernel
theorem dL_finished_68 : decode cL_finished 68 = .ok (.iload 4, 2) := by decide +kernel
theorem dL_finished_70 : decode cL_finished 70 = .ok (.iaload, 1) := by decide +kernel
theorem dL_finished_71 : decode cL_finished 71 = .ok (.bipush 8, 2) := by decide +kernel
theorem dL_finished_73 : decode cL_finished 73 = .ok (.iload 6, 2) := by decide +kernel
theorem dL_finished_75 : decode cL_finished 75 = .ok (.iadd, 1) := by decide +kernel
theorem dL_finished_76 : decode cL_finished 76 = .ok (.ishr, 1) := by decide +kernel
theorem dL_finished_77 : decode cL_finished 77 = .ok (.iconst 1, 1) := by decide +kernel
theorem dL_finished_78 : decode cL_finished 78 = .ok (.iand, 1) := by decide +kernel
theorem dL_finished_79 : decode cL_finished 79 = .ok (.ifCond .eq 18, 3) := by decide +kernel
theorem dL_finished_82 : decode cL_finished 82 = .ok (.aload_n 1, 1) := by decide +kernel
theorem dL_finished_83 : decode cL_finished 83 = .ok (.iload 4, 2) := by decide +kernel
theorem dL_finished_85 : decode cL_finished 85 = .ok (.iaload, 1) := by decide +kernel
theorem dL_finished_86 : decode cL_finished 86 = .ok (.iconst 2, 1) := by decide +kernel
theorem dL_finished_87 : decode cL_finished 87 = .ok (.iload 6, 2) := by decide +kernel
theorem dL_finished_89 : decode cL_finished 89 = .ok (.imul, 1) := by decide +kernel
theorem dL_finished_90 : decode cL_finished 90 = .ok (.ishr, 1) := by decide +kernel
theorem dL_finished_91 : decode cL_finished 91 = .ok (.iconst 3, 1) := by decide +kernel
theorem dL_finished_92 : decode cL_finished 92 = .ok (.iand, 1) := by decide +kernel
theorem dL_finished_93 : decode cL_finished 93 = .ok (.iconst 2, 1) := by decide +kernel
theorem dL_finished_94 : decode cL_finished 94 = .ok (.if_icmp .ne 7, 3) := by decide +kernel
theorem dL_finished_97 : decode cL_finished 97 = .ok (.iconst 1, 1) := by decide +kernel
theorem dL_finished_98 : decode cL_finished 98 = .ok (.goto 4, 3) := by decide +kernel
theorem dL_finished_101 : decode cL_finished 101 = .ok (.iconst 0, 1) := by decide +kernel
theorem dL_finished_102 : decode cL_finished 102 = .ok (.istore 5, 2) := by decide +kernel
theorem dL_finished_104 : decode cL_finished 104 = .ok (.iinc 6 1, 3) := by decide +kernel
theorem dL_finished_107 : decode cL_finished 107 = .ok (.goto (-51), 3) := by decide +kernel
theorem dL_finished_110 : decode cL_finished 110 = .ok (.iload 5, 2) := by decide +kernel
theorem dL_finished_112 : decode cL_finished 112 = .ok (.ireturn, 1) := by decide +kernel
theorem dL_ready_0 : decode cL_ready 0 = .ok (.iconst 1, 1) := by decide +kernel
theorem dL_ready_1 : decode cL_ready 1 = .ok (.aload_n 3, 1) := by decide +kernel
theorem dL_ready_2 : decode cL_ready 2 = .ok (.invokestatic 100, 3) := by decide +kernel
theorem dL_ready_5 : decode cL_ready 5 = .ok (.ishl, 1) := by decide +kernel
theorem dL_ready_6 : decode cL_ready 6 = .ok (.iconst 1, 1) := by decide +kernel
theorem dL_ready_7 : decode cL_ready 7 = .ok (.isub, 1) := by decide +kernel
theorem dL_ready_8 : decode cL_ready 8 = .ok (.istore 4, 2) := by decide +kernel
theorem dL_ready_10 : decode cL_ready 10 = .ok (.iconst 0, 1) := by decide +kernel
theorem dL_ready_11 : decode cL_ready 11 = .ok (.istore 5, 2) := by decide +kernel
theorem dL_ready_13 : decode cL_ready 13 = .ok (.iload 5, 2) := by decide +kernel
theorem dL_ready_15 : decode cL_ready 15 = .ok (.aload_n 3, 1) := by decide +kernel
theorem dL_ready_16 : decode cL_ready 16 = .ok (.iconst 0, 1) := by decide +kernel
theorem dL_ready_17 : decode cL_ready 17 = .ok (.iaload, 1) := by decide +kernel
theorem dL_ready_18 : decode cL_ready 18 = .ok (.if_icmp .ge 42, 3) := by decide +kernel
theorem dL_ready_21 : decode cL_ready 21 = .ok (.iload 4, 2) := by decide +kernel
theorem dL_ready_23 : decode cL_ready 23 = .ok (.aload_n 0, 1) := by decide +kernel
theorem dL_ready_24 : decode cL_ready 24 = .ok (.aload_n 1, 1) := by decide +kernel
theorem dL_ready_25 : decode cL_ready 25 = .ok (.aload_n 2, 1) := by decide +kernel
theorem dL_ready_26 : decode cL_ready 26 = .ok (.aload_n 3, 1) := by decide +kernel
theorem dL_ready_27 : decode cL_ready 27 = .ok (.iload 5, 2) := by decide +kernel
theorem dL_ready_29 : decode cL_ready 29 = .ok (.invokestatic 104, 3) := by decide +kernel
theorem dL_ready_32 : decode cL_ready 32 = .ok (.ifCond .eq 7, 3) := by decide +kernel
theorem dL_ready_35 : decode cL_ready 35 = .ok (.iconst (-1), 1) := by decide +kernel
theorem dL_ready_36 : decode cL_ready 36 = .ok (.goto 15, 3) := by decide +kernel
theorem dL_ready_39 : decode cL_ready 39 = .ok (.iconst 1, 1) := by decide +kernel
theorem dL_ready_40 : decode cL_ready 40 = .ok (.iload 5, 2) := by decide +kernel
theorem dL_ready_42 : decode cL_ready 42 = .ok (.iconst 2, 1) := by decide +kernel
theorem dL_ready_43 : decode cL_ready 43 = .ok (.aload_n 3, 1) := by decide +kernel
theorem dL_ready_44 : decode cL_ready 44 = .ok (.iconst 3, 1) := by decide +kernel
theorem dL_ready_45 : decode cL_ready 45 = .ok (.iaload, 1) := by decide +kernel
theorem dL_ready_46 : decode cL_ready 46 = .ok (.imul, 1) := by decide +kernel
theorem dL_ready_47 : decode cL_ready 47 = .ok (.idiv, 1) := by decide +kernel
theorem dL_ready_48 : decode cL_ready 48 = .ok (.ishl, 1) := by decide +kernel
theorem dL_ready_49 : decode cL_ready 49 = .ok (.iconst (-1), 1) := by decide +kernel
theorem dL_ready_50 : decode cL_ready 50 = .ok (.ixor, 1) := by decide +kernel
theorem dL_ready_51 : decode cL_ready 51 = .ok (.iand, 1) := by decide +kernel
theorem dL_ready_52 : decode cL_ready 52 = .ok (.istore 4, 2) := by decide +kernel
theorem dL_ready_54 : decode cL_ready 54 = .ok (.iinc 5 1, 3) := by decide +kernel
theorem dL_ready_57 : decode cL_ready 57 = .ok (.goto (-44), 3) := by decide +kernel
theorem dL_ready_60 : decode cL_ready 60 = .ok (.iload 4, 2) := by decide +kernel
theorem dL_ready_62 : decode cL_ready 62 = .ok (.ireturn, 1) := by decide +kernel
theorem dL_count_0 : decode cL_count 0 = .ok (.iconst 0, 1) := by decide +kernel
theorem dL_count_1 : decode cL_count 1 = .ok (.istore_n 1, 1) := by decide +kernel
theorem dL_count_2 : decode cL_count 2 = .ok (.iconst 0, 1) := by decide +kernel
theorem dL_count_3 : decode cL_count 3 = .ok (.istore_n 2, 1) := by decide +kernel
theorem dL_count_4 : decode cL_count 4 = .ok (.iload_n 2, 1) := by decide +kernel
theorem dL_count_5 : decode cL_count 5 = .ok (.bipush 16, 2) := by decide +kernel
theorem dL_count_7 : decode cL_count 7 = .ok (.if_icmp .ge 17, 3) := by decide +kernel
theorem dL_count_10 : decode cL_count 10 = .ok (.iload_n 1, 1) := by decide +kernel
theorem dL_count_11 : decode cL_count 11 = .ok (.iload_n 0, 1) := by decide +kernel
theorem dL_count_12 : decode cL_count 12 = .ok (.iload_n 2, 1) := by decide +kernel
theorem dL_count_13 : decode cL_count 13 = .ok (.ishr, 1) := by decide +kernel
theorem dL_count_14 : decode cL_count 14 = .ok (.iconst 1, 1) := by decide +kernel
theorem dL_count_15 : decode cL_count 15 = .ok (.iand, 1) := by decide +kernel
theorem dL_count_16 : decode cL_count 16 = .ok (.iadd, 1) := by decide +kernel
theorem dL_count_17 : decode cL_count 17 = .ok (.istore_n 1, 1) := by decide +kernel
theorem dL_count_18 : decode cL_count 18 = .ok (.iinc 2 1, 3) := by decide +kernel
theorem dL_count_21 : decode cL_count 21 = .ok (.goto (-17), 3) := by decide +kernel
theorem dL_count_24 : decode cL_count 24 = .ok (.iload_n 1, 1) := by decide +kernel
theorem dL_count_25 : decode cL_count 25 = .ok (.ireturn, 1) := by decide +kernel
theorem dL_drops_0 : decode cL_drops 0 = .ok (.iconst 0, 1) := by decide +kernel
theorem dL_drops_1 : decode cL_drops 1 = .ok (.istore 5, 2) := by decide +kernel
theorem dL_drops_3 : decode cL_drops 3 = .ok (.iload 5, 2) := by decide +kernel
theorem dL_drops_5 : decode cL_drops 5 = .ok (.aload_n 3, 1) := by decide +kernel
theorem dL_drops_6 : decode cL_drops 6 = .ok (.iconst 0, 1) := by decide +kernel
theorem dL_drops_7 : decode cL_drops 7 = .ok (.iaload, 1) := by decide +kernel
theorem dL_drops_8 : decode cL_drops 8 = .ok (.if_icmp .ge 71, 3) := by decide +kernel
theorem dL_drops_11 : decode cL_drops 11 = .ok (.iconst 0, 1) := by decide +kernel
theorem dL_drops_12 : decode cL_drops 12 = .ok (.istore 6, 2) := by decide +kernel
theorem dL_drops_14 : decode cL_drops 14 = .ok (.iload 6, 2) := by decide +kernel
theorem dL_drops_16 : decode cL_drops 16 = .ok (.bipush 8, 2) := by decide +kernel
theorem dL_drops_18 : decode cL_drops 18 = .ok (.if_icmp .ge 55, 3) := by decide +kernel
theorem dL_drops_21 : decode cL_drops 21 = .ok (.aload_n 1, 1) := by decide +kernel
theorem dL_drops_22 : decode cL_drops 22 = .ok (.iload 5, 2) := by decide +kernel
theorem dL_drops_24 : decode cL_drops 24 = .ok (.aload_n 0, 1) := by decide +kernel
theorem dL_drops_25 : decode cL_drops 25 = .ok (.iload 5, 2) := by decide +kernel
theorem dL_drops_27 : decode cL_drops 27 = .ok (.iaload, 1) := by decide +kernel
theorem dL_drops_28 : decode cL_drops 28 = .ok (.iload 6, 2) := by decide +kernel
theorem dL_drops_30 : decode cL_drops 30 = .ok (.ishr, 1) := by decide +kernel
theorem dL_drops_31 : decode cL_drops 31 = .ok (.iconst 1, 1) := by decide +kernel
theorem dL_drops_32 : decode cL_drops 32 = .ok (.iand, 1) := by decide +kernel
theorem dL_drops_33 : decode cL_drops 33 = .ok (.iconst 1, 1) := by decide +kernel
theorem dL_drops_34 : decode cL_drops 34 = .ok (.if_icmp .ne 28, 3) := by decide +kernel
theorem dL_drops_37 : decode cL_drops 37 = .ok (.iload 4, 2) := by decide +kernel
theorem dL_drops_39 : decode cL_drops 39 = .ok (.iload 6, 2) := by decide +kernel
theorem dL_drops_41 : decode cL_drops 41 = .ok (.ishr, 1) := by decide +kernel
theorem dL_drops_42 : decode cL_drops 42 = .ok (.iconst 1, 1) := by decide +kernel
theorem dL_drops_43 : decode cL_drops 43 = .ok (.iand, 1) := by decide +kernel
theorem dL_drops_44 : decode cL_drops 44 = .ok (.iconst 1, 1) := by decide +kernel
theorem dL_drops_45 : decode cL_drops 45 = .ok (.if_icmp .ne 17, 3) := by decide +kernel
theorem dL_drops_48 : decode cL_drops 48 = .ok (.aload_n 2, 1) := by decide +kernel
theorem dL_drops_49 : decode cL_drops 49 = .ok (.aload_n 3, 1) := by decide +kernel
theorem dL_drops_50 : decode cL_drops 50 = .ok (.iload 6, 2) := by decide +kernel
theorem dL_drops_52 : decode cL_drops 52 = .ok (.invokestatic 94, 3) := by decide +kernel
theorem dL_drops_55 : decode cL_drops 55 = .ok (.ifCond .ne 7, 3) := by decide +kernel
theorem dL_drops_58 : decode cL_drops 58 = .ok (.iconst 0, 1) := by decide +kernel
theorem dL_drops_59 : decode cL_drops 59 = .ok (.goto 7, 3) := by decide +kernel
theorem dL_drops_62 : decode cL_drops 62 = .ok (.aload_n 1, 1) := by decide +kernel
theorem dL_drops_63 : decode cL_drops 63 = .ok (.iload 5, 2) := by decide +kernel
theorem dL_drops_65 : decode cL_drops 65 = .ok (.iaload, 1) := by decide +kernel
theorem dL_drops_66 : decode cL_drops 66 = .ok (.iastore, 1) := by decide +kernel
theorem dL_drops_67 : decode cL_drops 67 = .ok (.iinc 6 1, 3) := by decide +kernel
theorem dL_drops_70 : decode cL_drops 70 = .ok (.goto (-56), 3) := by decide +kernel
theorem dL_drops_73 : decode cL_drops 73 = .ok (.iinc 5 1, 3) := by decide +kernel
theorem dL_drops_76 : decode cL_drops 76 = .ok (.goto (-73), 3) := by decide +kernel
theorem dL_drops_79 : decode cL_drops 79 = .ok (.return_, 1) := by decide +kernel
theorem dL_could_0 : decode cL_could 0 = .ok (.iconst 0, 1) := by decide +kernel
theorem dL_could_1 : decode cL_could 1 = .ok (.istore_n 2, 1) := by decide +kernel
theorem dL_could_2 : decode cL_could 2 = .ok (.iconst 0, 1) := by decide +kernel
theorem dL_could_3 : decode cL_could 3 = .ok (.istore_n 3, 1) := by decide +kernel
theorem dL_could_4 : decode cL_could 4 = .ok (.iload_n 3, 1) := by decide +kernel
theorem dL_could_5 : decode cL_could 5 = .ok (.bipush 8, 2) := by decide +kernel
theorem dL_could_7 : decode cL_could 7 = .ok (.if_icmp .ge 28, 3) := by decide +kernel
theorem dL_could_10 : decode cL_could 10 = .ok (.iload_n 2, 1) := by decide +kernel
theorem dL_could_11 : decode cL_could 11 = .ok (.aload_n 0, 1) := by decide +kernel
theorem dL_could_12 : decode cL_could 12 = .ok (.aload_n 1, 1) := by decide +kernel
theorem dL_could_13 : decode cL_could 13 = .ok (.iload_n 3, 1) := by decide +kernel
theorem dL_could_14 : decode cL_could 14 = .ok (.invokestatic 94, 3) := by decide +kernel
theorem dL_could_17 : decode cL_could 17 = .ok (.ifCond .eq 9, 3) := by decide +kernel
theorem dL_could_20 : decode cL_could 20 = .ok (.iconst 1, 1) := by decide +kernel
theorem dL_could_21 : decode cL_could 21 = .ok (.iload_n 3, 1) := by decide +kernel
theorem dL_could_22 : decode cL_could 22 = .ok (.ishl, 1) := by decide +kernel
theorem dL_could_23 : decode cL_could 23 = .ok (.goto 4, 3) := by decide +kernel
theorem dL_could_26 : decode cL_could 26 = .ok (.iconst 0, 1) := by decide +kernel
theorem dL_could_27 : decode cL_could 27 = .ok (.ior, 1) := by decide +kernel
theorem dL_could_28 : decode cL_could 28 = .ok (.istore_n 2, 1) := by decide +kernel
theorem dL_could_29 : decode cL_could 29 = .ok (.iinc 3 1, 3) := by decide +kernel
theorem dL_could_32 : decode cL_could 32 = .ok (.goto (-28), 3) := by decide +kernel
theorem dL_could_35 : decode cL_could 35 = .ok (.iload_n 2, 1) := by decide +kernel
theorem dL_could_36 : decode cL_could 36 = .ok (.ireturn, 1) := by decide +kernel
theorem dL_law_0 : decode cL_law 0 = .ok (.new 11, 3) := by decide +kernel
theorem dL_law_3 : decode cL_law 3 = .ok (.dup, 1) := by decide +kernel
theorem dL_law_4 : decode cL_law 4 = .ok (.invokespecial 208, 3) := by decide +kernel
theorem dL_law_7 : decode cL_law 7 = .ok (.astore_n 1, 1) := by decide +kernel
theorem dL_law_8 : decode cL_law 8 = .ok (.bipush 24, 2) := by decide +kernel
theorem dL_law_10 : decode cL_law 10 = .ok (.newarray .int, 2) := by decide +kernel
theorem dL_law_12 : decode cL_law 12 = .ok (.astore_n 2, 1) := by decide +kernel
theorem dL_law_13 : decode cL_law 13 = .ok (.bipush 24, 2) := by decide +kernel
theorem dL_law_15 : decode cL_law 15 = .ok (.newarray .int, 2) := by decide +kernel
theorem dL_law_17 : decode cL_law 17 = .ok (.astore_n 3, 1) := by decide +kernel
theorem dL_law_18 : decode cL_law 18 = .ok (.bipush 16, 2) := by decide +kernel
theorem dL_law_20 : decode cL_law 20 = .ok (.newarray .int, 2) := by decide +kernel
theorem dL_law_22 : decode cL_law 22 = .ok (.astore 4, 2) := by decide +kernel
theorem dL_law_24 : decode cL_law 24 = .ok (.bipush 6, 2) := by decide +kernel
theorem dL_law_26 : decode cL_law 26 = .ok (.newarray .int, 2) := by decide +kernel
theorem dL_law_28 : decode cL_law 28 = .ok (.astore 5, 2) := by decide +kernel
theorem dL_law_30 : decode cL_law 30 = .ok (.aload 5, 2) := by decide +kernel
theorem dL_law_32 : decode cL_law 32 = .ok (.iconst 3, 1) := by decide +kernel
theorem dL_law_33 : decode cL_law 33 = .ok (.iconst 2, 1) := by decide +kernel
theorem dL_law_34 : decode cL_law 34 = .ok (.iastore, 1) := by decide +kernel
theorem dL_law_35 : decode cL_law 35 = .ok (.aload_n 1, 1) := by decide +kernel
theorem dL_law_36 : decode cL_law 36 = .ok (.aload_n 2, 1) := by decide +kernel
theorem dL_law_37 : decode cL_law 37 = .ok (.aload_n 3, 1) := by decide +kernel
theorem dL_law_38 : decode cL_law 38 = .ok (.aload 4, 2) := by decide +kernel
theorem dL_law_40 : decode cL_law 40 = .ok (.aload 5, 2) := by decide +kernel
theorem dL_law_42 : decode cL_law 42 = .ok (.invokestatic 209, 3) := by decide +kernel
theorem dL_law_45 : decode cL_law 45 = .ok (.istore 6, 2) := by decide +kernel
theorem dL_law_47 : decode cL_law 47 = .ok (.iconst 0, 1) := by decide +kernel
theorem dL_law_48 : decode cL_law 48 = .ok (.istore 7, 2) := by decide +kernel
theorem dL_law_50 : decode cL_law 50 = .ok (.iload 7, 2) := by decide +kernel
theorem dL_law_52 : decode cL_law 52 = .ok (.sipush 150, 3) := by decide +kernel
theorem dL_law_55 : decode cL_law 55 = .ok (.if_icmp .ge 75, 3) := by decide +kernel
theorem dL_law_58 : decode cL_law 58 = .ok (.iload 6, 2) := by decide +kernel
theorem dL_law_60 : decode cL_law 60 = .ok (.ifCond .eq 70, 3) := by decide +kernel
theorem dL_law_63 : decode cL_law 63 = .ok (.aload_n 1, 1) := by decide +kernel
theorem dL_law_64 : decode cL_law 64 = .ok (.aload_n 2, 1) := by decide +kernel
theorem dL_law_65 : decode cL_law 65 = .ok (.aload_n 3, 1) := by decide +kernel
theorem dL_law_66 : decode cL_law 66 = .ok (.aload 4, 2) := by decide +kernel
theorem dL_law_68 : decode cL_law 68 = .ok (.aload 5, 2) := by decide +kernel
theorem dL_law_70 : decode cL_law 70 = .ok (.aload_n 0, 1) := by decide +kernel
theorem dL_law_71 : decode cL_law 71 = .ok (.iconst 2, 1) := by decide +kernel
theorem dL_law_72 : decode cL_law 72 = .ok (.iload 7, 2) := by decide +kernel
theorem dL_law_74 : decode cL_law 74 = .ok (.imul, 1) := by decide +kernel
theorem dL_law_75 : decode cL_law 75 = .ok (.invokestatic 213, 3) := by decide +kernel
theorem dL_law_78 : decode cL_law 78 = .ok (.aload_n 0, 1) := by decide +kernel
theorem dL_law_79 : decode cL_law 79 = .ok (.iconst 2, 1) := by decide +kernel
theorem dL_law_80 : decode cL_law 80 = .ok (.iload 7, 2) := by decide +kernel
theorem dL_law_82 : decode cL_law 82 = .ok (.imul, 1) := by decide +kernel
theorem dL_law_83 : decode cL_law 83 = .ok (.iconst 1, 1) := by decide +kernel
theorem dL_law_84 : decode cL_law 84 = .ok (.iadd, 1) := by decide +kernel
theorem dL_law_85 : decode cL_law 85 = .ok (.invokestatic 213, 3) := by decide +kernel
theorem dL_law_88 : decode cL_law 88 = .ok (.invokestatic 217, 3) := by decide +kernel
theorem dL_law_91 : decode cL_law 91 = .ok (.ifCond .eq 30, 3) := by decide +kernel
theorem dL_law_94 : decode cL_law 94 = .ok (.iload 7, 2) := by decide +kernel
theorem dL_law_96 : decode cL_law 96 = .ok (.bipush 15, 2) := by decide +kernel
theorem dL_law_98 : decode cL_law 98 = .ok (.irem, 1) := by decide +kernel
theorem dL_law_99 : decode cL_law 99 = .ok (.bipush 14, 2) := by decide +kernel
theorem dL_law_101 : decode cL_law 101 = .ok (.if_icmp .lt 16, 3) := by decide +kernel
theorem dL_law_104 : decode cL_law 104 = .ok (.aload_n 1, 1) := by decide +kernel
theorem dL_law_105 : decode cL_law 105 = .ok (.aload_n 2, 1) := by decide +kernel
theorem dL_law_106 : decode cL_law 106 = .ok (.aload_n 3, 1) := by decide +kernel
theorem dL_law_107 : decode cL_law 107 = .ok (.aload 4, 2) := by decide +kernel
theorem dL_law_109 : decode cL_law 109 = .ok (.aload 5, 2) := by decide +kernel
theorem dL_law_111 : decode cL_law 111 = .ok (.invokestatic 209, 3) := by decide +kernel
theorem dL_law_114 : decode cL_law 114 = .ok (.ifCond .eq 7, 3) := by decide +kernel
theorem dL_law_117 : decode cL_law 117 = .ok (.iconst 1, 1) := by decide +kernel
theorem dL_law_118 : decode cL_law 118 = .ok (.goto 4, 3) := by decide +kernel
theorem dL_law_121 : decode cL_law 121 = .ok (.iconst 0, 1) := by decide +kernel
theorem dL_law_122 : decode cL_law 122 = .ok (.istore 6, 2) := by decide +kernel
theorem dL_law_124 : decode cL_law 124 = .ok (.iinc 7 1, 3) := by decide +kernel
theorem dL_law_127 : decode cL_law 127 = .ok (.goto (-77), 3) := by decide +kernel
theorem dL_law_130 : decode cL_law 130 = .ok (.iload 6, 2) := by decide +kernel
theorem dL_law_132 : decode cL_law 132 = .ok (.ireturn, 1) := by decide +kernel
