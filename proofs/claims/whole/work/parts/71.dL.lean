/-! ===== decode rows of the law's wrappers ===== -/
theorem dL_insert_0 : decode cL_insert 0 = .ok (.aload 4, 2) := by decide +kernel
theorem dL_insert_2 : decode cL_insert 2 = .ok (.iconst 0, 1) := by decide +kernel
theorem dL_insert_3 : decode cL_insert 3 = .ok (.aload_n 0, 1) := by decide +kernel
theorem dL_insert_4 : decode cL_insert 4 = .ok (.iload_n 1, 1) := by decide +kernel
theorem dL_insert_5 : decode cL_insert 5 = .ok (.iload_n 2, 1) := by decide +kernel
theorem dL_insert_6 : decode cL_insert 6 = .ok (.iload_n 3, 1) := by decide +kernel
theorem dL_insert_7 : decode cL_insert 7 = .ok (.invokevirtual 7, 3) := by decide +kernel
theorem dL_insert_10 : decode cL_insert 10 = .ok (.i2l, 1) := by decide +kernel
theorem dL_insert_11 : decode cL_insert 11 = .ok (.lastore, 1) := by decide +kernel
theorem dL_insert_12 : decode cL_insert 12 = .ok (.goto 15, 3) := by decide +kernel
theorem dL_insert_15 : decode cL_insert 15 = .ok (.astore 5, 2) := by decide +kernel
theorem dL_insert_17 : decode cL_insert 17 = .ok (.iconst 1, 1) := by decide +kernel
theorem dL_insert_18 : decode cL_insert 18 = .ok (.ireturn, 1) := by decide +kernel
theorem dL_insert_19 : decode cL_insert 19 = .ok (.astore 5, 2) := by decide +kernel
theorem dL_insert_21 : decode cL_insert 21 = .ok (.iconst 2, 1) := by decide +kernel
theorem dL_insert_22 : decode cL_insert 22 = .ok (.ireturn, 1) := by decide +kernel
theorem dL_insert_23 : decode cL_insert 23 = .ok (.astore 5, 2) := by decide +kernel
theorem dL_insert_25 : decode cL_insert 25 = .ok (.iconst 3, 1) := by decide +kernel
theorem dL_insert_26 : decode cL_insert 26 = .ok (.ireturn, 1) := by decide +kernel
theorem dL_insert_27 : decode cL_insert 27 = .ok (.iconst 0, 1) := by decide +kernel
theorem dL_insert_28 : decode cL_insert 28 = .ok (.ireturn, 1) := by decide +kernel
theorem dL_remove_0 : decode cL_remove 0 = .ok (.aload_n 2, 1) := by decide +kernel
theorem dL_remove_1 : decode cL_remove 1 = .ok (.iconst 0, 1) := by decide +kernel
theorem dL_remove_2 : decode cL_remove 2 = .ok (.aload_n 0, 1) := by decide +kernel
theorem dL_remove_3 : decode cL_remove 3 = .ok (.iload_n 1, 1) := by decide +kernel
theorem dL_remove_4 : decode cL_remove 4 = .ok (.invokevirtual 19, 3) := by decide +kernel
theorem dL_remove_7 : decode cL_remove 7 = .ok (.i2l, 1) := by decide +kernel
theorem dL_remove_8 : decode cL_remove 8 = .ok (.lastore, 1) := by decide +kernel
theorem dL_remove_9 : decode cL_remove 9 = .ok (.goto 6, 3) := by decide +kernel
theorem dL_remove_12 : decode cL_remove 12 = .ok (.astore_n 3, 1) := by decide +kernel
theorem dL_remove_13 : decode cL_remove 13 = .ok (.iconst 1, 1) := by decide +kernel
theorem dL_remove_14 : decode cL_remove 14 = .ok (.ireturn, 1) := by decide +kernel
theorem dL_remove_15 : decode cL_remove 15 = .ok (.iconst 0, 1) := by decide +kernel
theorem dL_remove_16 : decode cL_remove 16 = .ok (.ireturn, 1) := by decide +kernel
theorem dL_move_0 : decode cL_move 0 = .ok (.aload_n 0, 1) := by decide +kernel
theorem dL_move_1 : decode cL_move 1 = .ok (.iload_n 1, 1) := by decide +kernel
theorem dL_move_2 : decode cL_move 2 = .ok (.iload_n 2, 1) := by decide +kernel
theorem dL_move_3 : decode cL_move 3 = .ok (.invokevirtual 23, 3) := by decide +kernel
theorem dL_move_6 : decode cL_move 6 = .ok (.goto 6, 3) := by decide +kernel
theorem dL_move_9 : decode cL_move 9 = .ok (.astore_n 3, 1) := by decide +kernel
theorem dL_move_10 : decode cL_move 10 = .ok (.iconst 1, 1) := by decide +kernel
theorem dL_move_11 : decode cL_move 11 = .ok (.ireturn, 1) := by decide +kernel
theorem dL_move_12 : decode cL_move 12 = .ok (.iconst 0, 1) := by decide +kernel
theorem dL_move_13 : decode cL_move 13 = .ok (.ireturn, 1) := by decide +kernel
theorem dL_edit_0 : decode cL_edit 0 = .ok (.aload 4, 2) := by decide +kernel
theorem dL_edit_2 : decode cL_edit 2 = .ok (.iconst 0, 1) := by decide +kernel
theorem dL_edit_3 : decode cL_edit 3 = .ok (.aload_n 0, 1) := by decide +kernel
theorem dL_edit_4 : decode cL_edit 4 = .ok (.iload_n 1, 1) := by decide +kernel
theorem dL_edit_5 : decode cL_edit 5 = .ok (.iload_n 2, 1) := by decide +kernel
theorem dL_edit_6 : decode cL_edit 6 = .ok (.iload_n 3, 1) := by decide +kernel
theorem dL_edit_7 : decode cL_edit 7 = .ok (.invokevirtual 27, 3) := by decide +kernel
theorem dL_edit_10 : decode cL_edit 10 = .ok (.i2l, 1) := by decide +kernel
theorem dL_edit_11 : decode cL_edit 11 = .ok (.lastore, 1) := by decide +kernel
theorem dL_edit_12 : decode cL_edit 12 = .ok (.goto 11, 3) := by decide +kernel
theorem dL_edit_15 : decode cL_edit 15 = .ok (.astore 5, 2) := by decide +kernel
theorem dL_edit_17 : decode cL_edit 17 = .ok (.iconst 1, 1) := by decide +kernel
theorem dL_edit_18 : decode cL_edit 18 = .ok (.ireturn, 1) := by decide +kernel
theorem dL_edit_19 : decode cL_edit 19 = .ok (.astore 5, 2) := by decide +kernel
theorem dL_edit_21 : decode cL_edit 21 = .ok (.iconst 2, 1) := by decide +kernel
theorem dL_edit_22 : decode cL_edit 22 = .ok (.ireturn, 1) := by decide +kernel
theorem dL_edit_23 : decode cL_edit 23 = .ok (.iconst 0, 1) := by decide +kernel
theorem dL_edit_24 : decode cL_edit 24 = .ok (.ireturn, 1) := by decide +kernel
theorem dL_replace_0 : decode cL_replace 0 = .ok (.aload_n 3, 1) := by decide +kernel
theorem dL_replace_1 : decode cL_replace 1 = .ok (.iconst 0, 1) := by decide +kernel
theorem dL_replace_2 : decode cL_replace 2 = .ok (.aload_n 0, 1) := by decide +kernel
theorem dL_replace_3 : decode cL_replace 3 = .ok (.iload_n 1, 1) := by decide +kernel
theorem dL_replace_4 : decode cL_replace 4 = .ok (.iload_n 2, 1) := by decide +kernel
theorem dL_replace_5 : decode cL_replace 5 = .ok (.invokevirtual 30, 3) := by decide +kernel
theorem dL_replace_8 : decode cL_replace 8 = .ok (.i2l, 1) := by decide +kernel
theorem dL_replace_9 : decode cL_replace 9 = .ok (.lastore, 1) := by decide +kernel
theorem dL_replace_10 : decode cL_replace 10 = .ok (.goto 7, 3) := by decide +kernel
theorem dL_replace_13 : decode cL_replace 13 = .ok (.astore 4, 2) := by decide +kernel
theorem dL_replace_15 : decode cL_replace 15 = .ok (.iconst 1, 1) := by decide +kernel
theorem dL_replace_16 : decode cL_replace 16 = .ok (.ireturn, 1) := by decide +kernel
theorem dL_replace_17 : decode cL_replace 17 = .ok (.iconst 0, 1) := by decide +kernel
theorem dL_replace_18 : decode cL_replace 18 = .ok (.ireturn, 1) := by decide +kernel
theorem dL_edition_0 : decode cL_edition 0 = .ok (.aload_n 2, 1) := by decide +kernel
theorem dL_edition_1 : decode cL_edition 1 = .ok (.iconst 0, 1) := by decide +kernel
theorem dL_edition_2 : decode cL_edition 2 = .ok (.aload_n 0, 1) := by decide +kernel
theorem dL_edition_3 : decode cL_edition 3 = .ok (.iload_n 1, 1) := by decide +kernel
theorem dL_edition_4 : decode cL_edition 4 = .ok (.invokevirtual 34, 3) := by decide +kernel
theorem dL_edition_7 : decode cL_edition 7 = .ok (.i2l, 1) := by decide +kernel
theorem dL_edition_8 : decode cL_edition 8 = .ok (.lastore, 1) := by decide +kernel
theorem dL_edition_9 : decode cL_edition 9 = .ok (.goto 6, 3) := by decide +kernel
theorem dL_edition_12 : decode cL_edition 12 = .ok (.astore_n 3, 1) := by decide +kernel
theorem dL_edition_13 : decode cL_edition 13 = .ok (.iconst 1, 1) := by decide +kernel
theorem dL_edition_14 : decode cL_edition 14 = .ok (.ireturn, 1) := by decide +kernel
theorem dL_edition_15 : decode cL_edition 15 = .ok (.iconst 0, 1) := by decide +kernel
theorem dL_edition_16 : decode cL_edition 16 = .ok (.ireturn, 1) := by decide +kernel
theorem dL_setFolds_0 : decode cL_setFolds 0 = .ok (.aload_n 3, 1) := by decide +kernel
theorem dL_setFolds_1 : decode cL_setFolds 1 = .ok (.iconst 0, 1) := by decide +kernel
theorem dL_setFolds_2 : decode cL_setFolds 2 = .ok (.aload_n 0, 1) := by decide +kernel
theorem dL_setFolds_3 : decode cL_setFolds 3 = .ok (.iload_n 1, 1) := by decide +kernel
theorem dL_setFolds_4 : decode cL_setFolds 4 = .ok (.iload_n 2, 1) := by decide +kernel
theorem dL_setFolds_5 : decode cL_setFolds 5 = .ok (.invokevirtual 37, 3) := by decide +kernel
theorem dL_setFolds_8 : decode cL_setFolds 8 = .ok (.i2l, 1) := by decide +kernel
theorem dL_setFolds_9 : decode cL_setFolds 9 = .ok (.lastore, 1) := by decide +kernel
theorem dL_setFolds_10 : decode cL_setFolds 10 = .ok (.goto 7, 3) := by decide +kernel
theorem dL_setFolds_13 : decode cL_setFolds 13 = .ok (.astore 4, 2) := by decide +kernel
theorem dL_setFolds_15 : decode cL_setFolds 15 = .ok (.iconst 1, 1) := by decide +kernel
theorem dL_setFolds_16 : decode cL_setFolds 16 = .ok (.ireturn, 1) := by decide +kernel
theorem dL_setFolds_17 : decode cL_setFolds 17 = .ok (.iconst 0, 1) := by decide +kernel
theorem dL_setFolds_18 : decode cL_setFolds 18 = .ok (.ireturn, 1) := by decide +kernel
theorem dL_pageAt_0 : decode cL_pageAt 0 = .ok (.aload 5, 2) := by decide +kernel
theorem dL_pageAt_2 : decode cL_pageAt 2 = .ok (.iconst 0, 1) := by decide +kernel
theorem dL_pageAt_3 : decode cL_pageAt 3 = .ok (.aload_n 0, 1) := by decide +kernel
theorem dL_pageAt_4 : decode cL_pageAt 4 = .ok (.iload_n 1, 1) := by decide +kernel
theorem dL_pageAt_5 : decode cL_pageAt 5 = .ok (.iload_n 2, 1) := by decide +kernel
theorem dL_pageAt_6 : decode cL_pageAt 6 = .ok (.iload_n 3, 1) := by decide +kernel
theorem dL_pageAt_7 : decode cL_pageAt 7 = .ok (.iload 4, 2) := by decide +kernel
theorem dL_pageAt_9 : decode cL_pageAt 9 = .ok (.invokevirtual 40, 3) := by decide +kernel
theorem dL_pageAt_12 : decode cL_pageAt 12 = .ok (.i2l, 1) := by decide +kernel
theorem dL_pageAt_13 : decode cL_pageAt 13 = .ok (.lastore, 1) := by decide +kernel
theorem dL_pageAt_14 : decode cL_pageAt 14 = .ok (.goto 11, 3) := by decide +kernel
theorem dL_pageAt_17 : decode cL_pageAt 17 = .ok (.astore 6, 2) := by decide +kernel
theorem dL_pageAt_19 : decode cL_pageAt 19 = .ok (.iconst 1, 1) := by decide +kernel
theorem dL_pageAt_20 : decode cL_pageAt 20 = .ok (.ireturn, 1) := by decide +kernel
theorem dL_pageAt_21 : decode cL_pageAt 21 = .ok (.astore 6, 2) := by decide +kernel
theorem dL_pageAt_23 : decode cL_pageAt 23 = .ok (.iconst 2, 1) := by decide +kernel
theorem dL_pageAt_24 : decode cL_pageAt 24 = .ok (.ireturn, 1) := by decide +kernel
theorem dL_pageAt_25 : decode cL_pageAt 25 = .ok (.iconst 0, 1) := by decide +kernel
theorem dL_pageAt_26 : decode cL_pageAt 26 = .ok (.ireturn, 1) := by decide +kernel
theorem dL_pageByRule_0 : decode cL_pageByRule 0 = .ok (.aload 5, 2) := by decide +kernel
theorem dL_pageByRule_2 : decode cL_pageByRule 2 = .ok (.iconst 0, 1) := by decide +kernel
theorem dL_pageByRule_3 : decode cL_pageByRule 3 = .ok (.aload_n 0, 1) := by decide +kernel
theorem dL_pageByRule_4 : decode cL_pageByRule 4 = .ok (.iload_n 1, 1) := by decide +kernel
theorem dL_pageByRule_5 : decode cL_pageByRule 5 = .ok (.iload_n 2, 1) := by decide +kernel
theorem dL_pageByRule_6 : decode cL_pageByRule 6 = .ok (.iload_n 3, 1) := by decide +kernel
theorem dL_pageByRule_7 : decode cL_pageByRule 7 = .ok (.iload 4, 2) := by decide +kernel
theorem dL_pageByRule_9 : decode cL_pageByRule 9 = .ok (.invokevirtual 44, 3) := by decide +kernel
theorem dL_pageByRule_12 : decode cL_pageByRule 12 = .ok (.i2l, 1) := by decide +kernel
theorem dL_pageByRule_13 : decode cL_pageByRule 13 = .ok (.lastore, 1) := by decide +kernel
theorem dL_pageByRule_14 : decode cL_pageByRule 14 = .ok (.goto 11, 3) := by decide +kernel
theorem dL_pageByRule_17 : decode cL_pageByRule 17 = .ok (.astore 6, 2) := by decide +kernel
theorem dL_pageByRule_19 : decode cL_pageByRule 19 = .ok (.iconst 1, 1) := by decide +kernel
theorem dL_pageByRule_20 : decode cL_pageByRule 20 = .ok (.ireturn, 1) := by decide +kernel
theorem dL_pageByRule_21 : decode cL_pageByRule 21 = .ok (.astore 6, 2) := by decide +kernel
theorem dL_pageByRule_23 : decode cL_pageByRule 23 = .ok (.iconst 2, 1) := by decide +kernel
theorem dL_pageByRule_24 : decode cL_pageByRule 24 = .ok (.ireturn, 1) := by decide +kernel
theorem dL_pageByRule_25 : decode cL_pageByRule 25 = .ok (.iconst 0, 1) := by decide +kernel
theorem dL_pageByRule_26 : decode cL_pageByRule 26 = .ok (.ireturn, 1) := by decide +kernel
theorem dL_leafOf_0 : decode cL_leafOf 0 = .ok (.aload_n 2, 1) := by decide +kernel
theorem dL_leafOf_1 : decode cL_leafOf 1 = .ok (.iconst 0, 1) := by decide +kernel
theorem dL_leafOf_2 : decode cL_leafOf 2 = .ok (.aload_n 0, 1) := by decide +kernel
theorem dL_leafOf_3 : decode cL_leafOf 3 = .ok (.iload_n 1, 1) := by decide +kernel
theorem dL_leafOf_4 : decode cL_leafOf 4 = .ok (.invokevirtual 47, 3) := by decide +kernel
theorem dL_leafOf_7 : decode cL_leafOf 7 = .ok (.i2l, 1) := by decide +kernel
theorem dL_leafOf_8 : decode cL_leafOf 8 = .ok (.lastore, 1) := by decide +kernel
theorem dL_leafOf_9 : decode cL_leafOf 9 = .ok (.goto 6, 3) := by decide +kernel
theorem dL_leafOf_12 : decode cL_leafOf 12 = .ok (.astore_n 3, 1) := by decide +kernel
theorem dL_leafOf_13 : decode cL_leafOf 13 = .ok (.iconst 1, 1) := by decide +kernel
theorem dL_leafOf_14 : decode cL_leafOf 14 = .ok (.ireturn, 1) := by decide +kernel
theorem dL_leafOf_15 : decode cL_leafOf 15 = .ok (.iconst 0, 1) := by decide +kernel
theorem dL_leafOf_16 : decode cL_leafOf 16 = .ok (.ireturn, 1) := by decide +kernel
theorem dL_isTurned_0 : decode cL_isTurned 0 = .ok (.aload_n 2, 1) := by decide +kernel
theorem dL_isTurned_1 : decode cL_isTurned 1 = .ok (.iconst 0, 1) := by decide +kernel
theorem dL_isTurned_2 : decode cL_isTurned 2 = .ok (.aload_n 0, 1) := by decide +kernel
theorem dL_isTurned_3 : decode cL_isTurned 3 = .ok (.iload_n 1, 1) := by decide +kernel
theorem dL_isTurned_4 : decode cL_isTurned 4 = .ok (.invokevirtual 50, 3) := by decide +kernel
theorem dL_isTurned_7 : decode cL_isTurned 7 = .ok (.ifCond .eq 7, 3) := by decide +kernel
theorem dL_isTurned_10 : decode cL_isTurned 10 = .ok (.lconst 1, 1) := by decide +kernel
theorem dL_isTurned_11 : decode cL_isTurned 11 = .ok (.goto 4, 3) := by decide +kernel
theorem dL_isTurned_14 : decode cL_isTurned 14 = .ok (.lconst 0, 1) := by decide +kernel
theorem dL_isTurned_15 : decode cL_isTurned 15 = .ok (.lastore, 1) := by decide +kernel
theorem dL_isTurned_16 : decode cL_isTurned 16 = .ok (.goto 6, 3) := by decide +kernel
theorem dL_isTurned_19 : decode cL_isTurned 19 = .ok (.astore_n 3, 1) := by decide +kernel
theorem dL_isTurned_20 : decode cL_isTurned 20 = .ok (.iconst 1, 1) := by decide +kernel
theorem dL_isTurned_21 : decode cL_isTurned 21 = .ok (.ireturn, 1) := by decide +kernel
theorem dL_isTurned_22 : decode cL_isTurned 22 = .ok (.iconst 0, 1) := by decide +kernel
theorem dL_isTurned_23 : decode cL_isTurned 23 = .ok (.ireturn, 1) := by decide +kernel
theorem dL_setRight_0 : decode cL_setRight 0 = .ok (.aload 4, 2) := by decide +kernel
theorem dL_setRight_2 : decode cL_setRight 2 = .ok (.iconst 0, 1) := by decide +kernel
theorem dL_setRight_3 : decode cL_setRight 3 = .ok (.aload_n 0, 1) := by decide +kernel
theorem dL_setRight_4 : decode cL_setRight 4 = .ok (.iload_n 1, 1) := by decide +kernel
theorem dL_setRight_5 : decode cL_setRight 5 = .ok (.iload_n 2, 1) := by decide +kernel
theorem dL_setRight_6 : decode cL_setRight 6 = .ok (.iload_n 3, 1) := by decide +kernel
theorem dL_setRight_7 : decode cL_setRight 7 = .ok (.invokevirtual 54, 3) := by decide +kernel
theorem dL_setRight_10 : decode cL_setRight 10 = .ok (.i2l, 1) := by decide +kernel
theorem dL_setRight_11 : decode cL_setRight 11 = .ok (.lastore, 1) := by decide +kernel
theorem dL_setRight_12 : decode cL_setRight 12 = .ok (.goto 7, 3) := by decide +kernel
theorem dL_setRight_15 : decode cL_setRight 15 = .ok (.astore 5, 2) := by decide +kernel
theorem dL_setRight_17 : decode cL_setRight 17 = .ok (.iconst 1, 1) := by decide +kernel
theorem dL_setRight_18 : decode cL_setRight 18 = .ok (.ireturn, 1) := by decide +kernel
theorem dL_setRight_19 : decode cL_setRight 19 = .ok (.iconst 0, 1) := by decide +kernel
theorem dL_setRight_20 : decode cL_setRight 20 = .ok (.ireturn, 1) := by decide +kernel
theorem dL_withdraw_0 : decode cL_withdraw 0 = .ok (.aload_n 2, 1) := by decide +kernel
theorem dL_withdraw_1 : decode cL_withdraw 1 = .ok (.iconst 0, 1) := by decide +kernel
theorem dL_withdraw_2 : decode cL_withdraw 2 = .ok (.aload_n 0, 1) := by decide +kernel
theorem dL_withdraw_3 : decode cL_withdraw 3 = .ok (.iload_n 1, 1) := by decide +kernel
theorem dL_withdraw_4 : decode cL_withdraw 4 = .ok (.invokevirtual 57, 3) := by decide +kernel
theorem dL_withdraw_7 : decode cL_withdraw 7 = .ok (.i2l, 1) := by decide +kernel
theorem dL_withdraw_8 : decode cL_withdraw 8 = .ok (.lastore, 1) := by decide +kernel
theorem dL_withdraw_9 : decode cL_withdraw 9 = .ok (.goto 9, 3) := by decide +kernel
theorem dL_withdraw_12 : decode cL_withdraw 12 = .ok (.astore_n 3, 1) := by decide +kernel
theorem dL_withdraw_13 : decode cL_withdraw 13 = .ok (.iconst 1, 1) := by decide +kernel
theorem dL_withdraw_14 : decode cL_withdraw 14 = .ok (.ireturn, 1) := by decide +kernel
theorem dL_withdraw_15 : decode cL_withdraw 15 = .ok (.astore_n 3, 1) := by decide +kernel
theorem dL_withdraw_16 : decode cL_withdraw 16 = .ok (.iconst 2, 1) := by decide +kernel
theorem dL_withdraw_17 : decode cL_withdraw 17 = .ok (.ireturn, 1) := by decide +kernel
theorem dL_withdraw_18 : decode cL_withdraw 18 = .ok (.iconst 0, 1) := by decide +kernel
theorem dL_withdraw_19 : decode cL_withdraw 19 = .ok (.ireturn, 1) := by decide +kernel
theorem dL_pass_0 : decode cL_pass 0 = .ok (.aload_n 2, 1) := by decide +kernel
theorem dL_pass_1 : decode cL_pass 1 = .ok (.iconst 0, 1) := by decide +kernel
theorem dL_pass_2 : decode cL_pass 2 = .ok (.aload_n 0, 1) := by decide +kernel
theorem dL_pass_3 : decode cL_pass 3 = .ok (.iload_n 1, 1) := by decide +kernel
theorem dL_pass_4 : decode cL_pass 4 = .ok (.invokevirtual 60, 3) := by decide +kernel
theorem dL_pass_7 : decode cL_pass 7 = .ok (.i2l, 1) := by decide +kernel
theorem dL_pass_8 : decode cL_pass 8 = .ok (.lastore, 1) := by decide +kernel
theorem dL_pass_9 : decode cL_pass 9 = .ok (.goto 6, 3) := by decide +kernel
theorem dL_pass_12 : decode cL_pass 12 = .ok (.astore_n 3, 1) := by decide +kernel
theorem dL_pass_13 : decode cL_pass 13 = .ok (.iconst 1, 1) := by decide +kernel
theorem dL_pass_14 : decode cL_pass 14 = .ok (.ireturn, 1) := by decide +kernel
theorem dL_pass_15 : decode cL_pass 15 = .ok (.iconst 0, 1) := by decide +kernel
theorem dL_pass_16 : decode cL_pass 16 = .ok (.ireturn, 1) := by decide +kernel
theorem dL_mayUse_0 : decode cL_mayUse 0 = .ok (.aload_n 2, 1) := by decide +kernel
theorem dL_mayUse_1 : decode cL_mayUse 1 = .ok (.iconst 0, 1) := by decide +kernel
theorem dL_mayUse_2 : decode cL_mayUse 2 = .ok (.aload_n 0, 1) := by decide +kernel
theorem dL_mayUse_3 : decode cL_mayUse 3 = .ok (.iload_n 1, 1) := by decide +kernel
theorem dL_mayUse_4 : decode cL_mayUse 4 = .ok (.invokevirtual 63, 3) := by decide +kernel
theorem dL_mayUse_7 : decode cL_mayUse 7 = .ok (.ifCond .eq 7, 3) := by decide +kernel
theorem dL_mayUse_10 : decode cL_mayUse 10 = .ok (.lconst 1, 1) := by decide +kernel
theorem dL_mayUse_11 : decode cL_mayUse 11 = .ok (.goto 4, 3) := by decide +kernel
theorem dL_mayUse_14 : decode cL_mayUse 14 = .ok (.lconst 0, 1) := by decide +kernel
theorem dL_mayUse_15 : decode cL_mayUse 15 = .ok (.lastore, 1) := by decide +kernel
theorem dL_mayUse_16 : decode cL_mayUse 16 = .ok (.goto 6, 3) := by decide +kernel
theorem dL_mayUse_19 : decode cL_mayUse 19 = .ok (.astore_n 3, 1) := by decide +kernel
theorem dL_mayUse_20 : decode cL_mayUse 20 = .ok (.iconst 1, 1) := by decide +kernel
theorem dL_mayUse_21 : decode cL_mayUse 21 = .ok (.ireturn, 1) := by decide +kernel
theorem dL_mayUse_22 : decode cL_mayUse 22 = .ok (.iconst 0, 1) := by decide +kernel
theorem dL_mayUse_23 : decode cL_mayUse 23 = .ok (.ireturn, 1) := by decide +kernel
theorem dL_prove_0 : decode cL_prove 0 = .ok (.aload_n 3, 1) := by decide +kernel
theorem dL_prove_1 : decode cL_prove 1 = .ok (.iconst 0, 1) := by decide +kernel
theorem dL_prove_2 : decode cL_prove 2 = .ok (.aload_n 0, 1) := by decide +kernel
theorem dL_prove_3 : decode cL_prove 3 = .ok (.iload_n 1, 1) := by decide +kernel
theorem dL_prove_4 : decode cL_prove 4 = .ok (.iload_n 2, 1) := by decide +kernel
theorem dL_prove_5 : decode cL_prove 5 = .ok (.invokevirtual 66, 3) := by decide +kernel
theorem dL_prove_8 : decode cL_prove 8 = .ok (.i2l, 1) := by decide +kernel
theorem dL_prove_9 : decode cL_prove 9 = .ok (.lastore, 1) := by decide +kernel
theorem dL_prove_10 : decode cL_prove 10 = .ok (.goto 15, 3) := by decide +kernel
theorem dL_prove_13 : decode cL_prove 13 = .ok (.astore 4, 2) := by decide +kernel
theorem dL_prove_15 : decode cL_prove 15 = .ok (.iconst 1, 1) := by decide +kernel
theorem dL_prove_16 : decode cL_prove 16 = .ok (.ireturn, 1) := by decide +kernel
theorem dL_prove_17 : decode cL_prove 17 = .ok (.astore 4, 2) := by decide +kernel
theorem dL_prove_19 : decode cL_prove 19 = .ok (.iconst 2, 1) := by decide +kernel
theorem dL_prove_20 : decode cL_prove 20 = .ok (.ireturn, 1) := by decide +kernel
theorem dL_prove_21 : decode cL_prove 21 = .ok (.astore 4, 2) := by decide +kernel
theorem dL_prove_23 : decode cL_prove 23 = .ok (.iconst 3, 1) := by decide +kernel
theorem dL_prove_24 : decode cL_prove 24 = .ok (.ireturn, 1) := by decide +kernel
theorem dL_prove_25 : decode cL_prove 25 = .ok (.iconst 0, 1) := by decide +kernel
theorem dL_prove_26 : decode cL_prove 26 = .ok (.ireturn, 1) := by decide +kernel
theorem dL_judge_0 : decode cL_judge 0 = .ok (.aload 4, 2) := by decide +kernel
theorem dL_judge_2 : decode cL_judge 2 = .ok (.iconst 0, 1) := by decide +kernel
theorem dL_judge_3 : decode cL_judge 3 = .ok (.aload_n 0, 1) := by decide +kernel
theorem dL_judge_4 : decode cL_judge 4 = .ok (.iload_n 1, 1) := by decide +kernel
theorem dL_judge_5 : decode cL_judge 5 = .ok (.iload_n 2, 1) := by decide +kernel
theorem dL_judge_6 : decode cL_judge 6 = .ok (.iload_n 3, 1) := by decide +kernel
theorem dL_judge_7 : decode cL_judge 7 = .ok (.invokevirtual 69, 3) := by decide +kernel
theorem dL_judge_10 : decode cL_judge 10 = .ok (.ifCond .eq 7, 3) := by decide +kernel
theorem dL_judge_13 : decode cL_judge 13 = .ok (.lconst 1, 1) := by decide +kernel
theorem dL_judge_14 : decode cL_judge 14 = .ok (.goto 4, 3) := by decide +kernel
theorem dL_judge_17 : decode cL_judge 17 = .ok (.lconst 0, 1) := by decide +kernel
theorem dL_judge_18 : decode cL_judge 18 = .ok (.lastore, 1) := by decide +kernel
theorem dL_judge_19 : decode cL_judge 19 = .ok (.goto 15, 3) := by decide +kernel
theorem dL_judge_22 : decode cL_judge 22 = .ok (.astore 5, 2) := by decide +kernel
theorem dL_judge_24 : decode cL_judge 24 = .ok (.iconst 1, 1) := by decide +kernel
theorem dL_judge_25 : decode cL_judge 25 = .ok (.ireturn, 1) := by decide +kernel
theorem dL_judge_26 : decode cL_judge 26 = .ok (.astore 5, 2) := by decide +kernel
theorem dL_judge_28 : decode cL_judge 28 = .ok (.iconst 2, 1) := by decide +kernel
theorem dL_judge_29 : decode cL_judge 29 = .ok (.ireturn, 1) := by decide +kernel
theorem dL_judge_30 : decode cL_judge 30 = .ok (.astore 5, 2) := by decide +kernel
theorem dL_judge_32 : decode cL_judge 32 = .ok (.iconst 3, 1) := by decide +kernel
theorem dL_judge_33 : decode cL_judge 33 = .ok (.ireturn, 1) := by decide +kernel
theorem dL_judge_34 : decode cL_judge 34 = .ok (.iconst 0, 1) := by decide +kernel
theorem dL_judge_35 : decode cL_judge 35 = .ok (.ireturn, 1) := by decide +kernel
theorem dL_proof_0 : decode cL_proof 0 = .ok (.aload_n 3, 1) := by decide +kernel
theorem dL_proof_1 : decode cL_proof 1 = .ok (.iconst 0, 1) := by decide +kernel
theorem dL_proof_2 : decode cL_proof 2 = .ok (.aload_n 0, 1) := by decide +kernel
theorem dL_proof_3 : decode cL_proof 3 = .ok (.iload_n 1, 1) := by decide +kernel
theorem dL_proof_4 : decode cL_proof 4 = .ok (.iload_n 2, 1) := by decide +kernel
theorem dL_proof_5 : decode cL_proof 5 = .ok (.invokevirtual 73, 3) := by decide +kernel
theorem dL_proof_8 : decode cL_proof 8 = .ok (.i2l, 1) := by decide +kernel
theorem dL_proof_9 : decode cL_proof 9 = .ok (.lastore, 1) := by decide +kernel
theorem dL_proof_10 : decode cL_proof 10 = .ok (.goto 11, 3) := by decide +kernel
theorem dL_proof_13 : decode cL_proof 13 = .ok (.astore 4, 2) := by decide +kernel
theorem dL_proof_15 : decode cL_proof 15 = .ok (.iconst 1, 1) := by decide +kernel
theorem dL_proof_16 : decode cL_proof 16 = .ok (.ireturn, 1) := by decide +kernel
theorem dL_proof_17 : decode cL_proof 17 = .ok (.astore 4, 2) := by decide +kernel
theorem dL_proof_19 : decode cL_proof 19 = .ok (.iconst 2, 1) := by decide +kernel
theorem dL_proof_20 : decode cL_proof 20 = .ok (.ireturn, 1) := by decide +kernel
theorem dL_proof_21 : decode cL_proof 21 = .ok (.iconst 0, 1) := by decide +kernel
theorem dL_proof_22 : decode cL_proof 22 = .ok (.ireturn, 1) := by decide +kernel
theorem dL_isReady_0 : decode cL_isReady 0 = .ok (.aload_n 2, 1) := by decide +kernel
theorem dL_isReady_1 : decode cL_isReady 1 = .ok (.iconst 0, 1) := by decide +kernel
theorem dL_isReady_2 : decode cL_isReady 2 = .ok (.aload_n 0, 1) := by decide +kernel
theorem dL_isReady_3 : decode cL_isReady 3 = .ok (.iload_n 1, 1) := by decide +kernel
theorem dL_isReady_4 : decode cL_isReady 4 = .ok (.invokevirtual 76, 3) := by decide +kernel
theorem dL_isReady_7 : decode cL_isReady 7 = .ok (.ifCond .eq 7, 3) := by decide +kernel
theorem dL_isReady_10 : decode cL_isReady 10 = .ok (.lconst 1, 1) := by decide +kernel
theorem dL_isReady_11 : decode cL_isReady 11 = .ok (.goto 4, 3) := by decide +kernel
theorem dL_isReady_14 : decode cL_isReady 14 = .ok (.lconst 0, 1) := by decide +kernel
theorem dL_isReady_15 : decode cL_isReady 15 = .ok (.lastore, 1) := by decide +kernel
theorem dL_isReady_16 : decode cL_isReady 16 = .ok (.goto 6, 3) := by decide +kernel
theorem dL_isReady_19 : decode cL_isReady 19 = .ok (.astore_n 3, 1) := by decide +kernel
theorem dL_isReady_20 : decode cL_isReady 20 = .ok (.iconst 1, 1) := by decide +kernel
theorem dL_isReady_21 : decode cL_isReady 21 = .ok (.ireturn, 1) := by decide +kernel
theorem dL_isReady_22 : decode cL_isReady 22 = .ok (.iconst 0, 1) := by decide +kernel
theorem dL_isReady_23 : decode cL_isReady 23 = .ok (.ireturn, 1) := by decide +kernel
theorem dL_makePlates_0 : decode cL_makePlates 0 = .ok (.aload_n 2, 1) := by decide +kernel
theorem dL_makePlates_1 : decode cL_makePlates 1 = .ok (.iconst 0, 1) := by decide +kernel
theorem dL_makePlates_2 : decode cL_makePlates 2 = .ok (.aload_n 0, 1) := by decide +kernel
theorem dL_makePlates_3 : decode cL_makePlates 3 = .ok (.iload_n 1, 1) := by decide +kernel
theorem dL_makePlates_4 : decode cL_makePlates 4 = .ok (.invokevirtual 79, 3) := by decide +kernel
theorem dL_makePlates_7 : decode cL_makePlates 7 = .ok (.i2l, 1) := by decide +kernel
theorem dL_makePlates_8 : decode cL_makePlates 8 = .ok (.lastore, 1) := by decide +kernel
theorem dL_makePlates_9 : decode cL_makePlates 9 = .ok (.goto 9, 3) := by decide +kernel
theorem dL_makePlates_12 : decode cL_makePlates 12 = .ok (.astore_n 3, 1) := by decide +kernel
theorem dL_makePlates_13 : decode cL_makePlates 13 = .ok (.iconst 1, 1) := by decide +kernel
theorem dL_makePlates_14 : decode cL_makePlates 14 = .ok (.ireturn, 1) := by decide +kernel
theorem dL_makePlates_15 : decode cL_makePlates 15 = .ok (.astore_n 3, 1) := by decide +kernel
theorem dL_makePlates_16 : decode cL_makePlates 16 = .ok (.iconst 2, 1) := by decide +kernel
theorem dL_makePlates_17 : decode cL_makePlates 17 = .ok (.ireturn, 1) := by decide +kernel
theorem dL_makePlates_18 : decode cL_makePlates 18 = .ok (.iconst 0, 1) := by decide +kernel
theorem dL_makePlates_19 : decode cL_makePlates 19 = .ok (.ireturn, 1) := by decide +kernel
theorem dL_wear_0 : decode cL_wear 0 = .ok (.aload 4, 2) := by decide +kernel
theorem dL_wear_2 : decode cL_wear 2 = .ok (.iconst 0, 1) := by decide +kernel
theorem dL_wear_3 : decode cL_wear 3 = .ok (.aload_n 0, 1) := by decide +kernel
theorem dL_wear_4 : decode cL_wear 4 = .ok (.iload_n 1, 1) := by decide +kernel
theorem dL_wear_5 : decode cL_wear 5 = .ok (.iload_n 2, 1) := by decide +kernel
theorem dL_wear_6 : decode cL_wear 6 = .ok (.iload_n 3, 1) := by decide +kernel
theorem dL_wear_7 : decode cL_wear 7 = .ok (.invokevirtual 82, 3) := by decide +kernel
theorem dL_wear_10 : decode cL_wear 10 = .ok (.i2l, 1) := by decide +kernel
theorem dL_wear_11 : decode cL_wear 11 = .ok (.lastore, 1) := by decide +kernel
theorem dL_wear_12 : decode cL_wear 12 = .ok (.goto 11, 3) := by decide +kernel
theorem dL_wear_15 : decode cL_wear 15 = .ok (.astore 5, 2) := by decide +kernel
theorem dL_wear_17 : decode cL_wear 17 = .ok (.iconst 1, 1) := by decide +kernel
theorem dL_wear_18 : decode cL_wear 18 = .ok (.ireturn, 1) := by decide +kernel
theorem dL_wear_19 : decode cL_wear 19 = .ok (.astore 5, 2) := by decide +kernel
theorem dL_wear_21 : decode cL_wear 21 = .ok (.iconst 2, 1) := by decide +kernel
theorem dL_wear_22 : decode cL_wear 22 = .ok (.ireturn, 1) := by decide +kernel
theorem dL_wear_23 : decode cL_wear 23 = .ok (.iconst 0, 1) := by decide +kernel
theorem dL_wear_24 : decode cL_wear 24 = .ok (.ireturn, 1) := by decide +kernel
theorem dL_print_0 : decode cL_print 0 = .ok (.aload_n 3, 1) := by decide +kernel
theorem dL_print_1 : decode cL_print 1 = .ok (.iconst 0, 1) := by decide +kernel
theorem dL_print_2 : decode cL_print 2 = .ok (.aload_n 0, 1) := by decide +kernel
theorem dL_print_3 : decode cL_print 3 = .ok (.iload_n 1, 1) := by decide +kernel
theorem dL_print_4 : decode cL_print 4 = .ok (.iload_n 2, 1) := by decide +kernel
theorem dL_print_5 : decode cL_print 5 = .ok (.invokevirtual 85, 3) := by decide +kernel
theorem dL_print_8 : decode cL_print 8 = .ok (.i2l, 1) := by decide +kernel
theorem dL_print_9 : decode cL_print 9 = .ok (.lastore, 1) := by decide +kernel
theorem dL_print_10 : decode cL_print 10 = .ok (.goto 15, 3) := by decide +kernel
theorem dL_print_13 : decode cL_print 13 = .ok (.astore 4, 2) := by decide +kernel
theorem dL_print_15 : decode cL_print 15 = .ok (.iconst 1, 1) := by decide +kernel
theorem dL_print_16 : decode cL_print 16 = .ok (.ireturn, 1) := by decide +kernel
theorem dL_print_17 : decode cL_print 17 = .ok (.astore 4, 2) := by decide +kernel
theorem dL_print_19 : decode cL_print 19 = .ok (.iconst 2, 1) := by decide +kernel
theorem dL_print_20 : decode cL_print 20 = .ok (.ireturn, 1) := by decide +kernel
theorem dL_print_21 : decode cL_print 21 = .ok (.astore 4, 2) := by decide +kernel
theorem dL_print_23 : decode cL_print 23 = .ok (.iconst 3, 1) := by decide +kernel
theorem dL_print_24 : decode cL_print 24 = .ok (.ireturn, 1) := by decide +kernel
theorem dL_print_25 : decode cL_print 25 = .ok (.iconst 0, 1) := by decide +kernel
theorem dL_print_26 : decode cL_print 26 = .ok (.ireturn, 1) := by decide +kernel
