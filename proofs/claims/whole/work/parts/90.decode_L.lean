theorem dx_L_variable_0 : decode cd_L_variable 0 = .ok (.aload_n 1, 1) := by decide +kernel
theorem dx_L_variable_1 : decode cd_L_variable 1 = .ok (.iconst 0, 1) := by decide +kernel
theorem dx_L_variable_2 : decode cd_L_variable 2 = .ok (.aload_n 0, 1) := by decide +kernel
theorem dx_L_variable_3 : decode cd_L_variable 3 = .ok (.invokevirtual 7, 3) := by decide +kernel
theorem dx_L_variable_6 : decode cd_L_variable 6 = .ok (.i2l, 1) := by decide +kernel
theorem dx_L_variable_7 : decode cd_L_variable 7 = .ok (.lastore, 1) := by decide +kernel
theorem dx_L_variable_8 : decode cd_L_variable 8 = .ok (.goto 6, 3) := by decide +kernel
theorem dx_L_variable_11 : decode cd_L_variable 11 = .ok (.astore_n 2, 1) := by decide +kernel
theorem dx_L_variable_12 : decode cd_L_variable 12 = .ok (.iconst 1, 1) := by decide +kernel
theorem dx_L_variable_13 : decode cd_L_variable 13 = .ok (.ireturn, 1) := by decide +kernel
theorem dx_L_variable_14 : decode cd_L_variable 14 = .ok (.iconst 0, 1) := by decide +kernel
theorem dx_L_variable_15 : decode cd_L_variable 15 = .ok (.ireturn, 1) := by decide +kernel
theorem dx_L_term_0 : decode cd_L_term 0 = .ok (.aload 4, 2) := by decide +kernel
theorem dx_L_term_2 : decode cd_L_term 2 = .ok (.iconst 0, 1) := by decide +kernel
theorem dx_L_term_3 : decode cd_L_term 3 = .ok (.aload_n 0, 1) := by decide +kernel
theorem dx_L_term_4 : decode cd_L_term 4 = .ok (.iload_n 1, 1) := by decide +kernel
theorem dx_L_term_5 : decode cd_L_term 5 = .ok (.iload_n 2, 1) := by decide +kernel
theorem dx_L_term_6 : decode cd_L_term 6 = .ok (.iload_n 3, 1) := by decide +kernel
theorem dx_L_term_7 : decode cd_L_term 7 = .ok (.invokevirtual 15, 3) := by decide +kernel
theorem dx_L_term_10 : decode cd_L_term 10 = .ok (.i2l, 1) := by decide +kernel
theorem dx_L_term_11 : decode cd_L_term 11 = .ok (.lastore, 1) := by decide +kernel
theorem dx_L_term_12 : decode cd_L_term 12 = .ok (.goto 11, 3) := by decide +kernel
theorem dx_L_term_15 : decode cd_L_term 15 = .ok (.astore 5, 2) := by decide +kernel
theorem dx_L_term_17 : decode cd_L_term 17 = .ok (.iconst 1, 1) := by decide +kernel
theorem dx_L_term_18 : decode cd_L_term 18 = .ok (.ireturn, 1) := by decide +kernel
theorem dx_L_term_19 : decode cd_L_term 19 = .ok (.astore 5, 2) := by decide +kernel
theorem dx_L_term_21 : decode cd_L_term 21 = .ok (.iconst 2, 1) := by decide +kernel
theorem dx_L_term_22 : decode cd_L_term 22 = .ok (.ireturn, 1) := by decide +kernel
theorem dx_L_term_23 : decode cd_L_term 23 = .ok (.iconst 0, 1) := by decide +kernel
theorem dx_L_term_24 : decode cd_L_term 24 = .ok (.ireturn, 1) := by decide +kernel
theorem dx_L_unify_0 : decode cd_L_unify 0 = .ok (.aload_n 3, 1) := by decide +kernel
theorem dx_L_unify_1 : decode cd_L_unify 1 = .ok (.iconst 0, 1) := by decide +kernel
theorem dx_L_unify_2 : decode cd_L_unify 2 = .ok (.aload_n 0, 1) := by decide +kernel
theorem dx_L_unify_3 : decode cd_L_unify 3 = .ok (.iload_n 1, 1) := by decide +kernel
theorem dx_L_unify_4 : decode cd_L_unify 4 = .ok (.iload_n 2, 1) := by decide +kernel
theorem dx_L_unify_5 : decode cd_L_unify 5 = .ok (.invokevirtual 21, 3) := by decide +kernel
theorem dx_L_unify_8 : decode cd_L_unify 8 = .ok (.i2l, 1) := by decide +kernel
theorem dx_L_unify_9 : decode cd_L_unify 9 = .ok (.lastore, 1) := by decide +kernel
theorem dx_L_unify_10 : decode cd_L_unify 10 = .ok (.goto 11, 3) := by decide +kernel
theorem dx_L_unify_13 : decode cd_L_unify 13 = .ok (.astore 4, 2) := by decide +kernel
theorem dx_L_unify_15 : decode cd_L_unify 15 = .ok (.iconst 1, 1) := by decide +kernel
theorem dx_L_unify_16 : decode cd_L_unify 16 = .ok (.ireturn, 1) := by decide +kernel
theorem dx_L_unify_17 : decode cd_L_unify 17 = .ok (.astore 4, 2) := by decide +kernel
theorem dx_L_unify_19 : decode cd_L_unify 19 = .ok (.iconst 2, 1) := by decide +kernel
theorem dx_L_unify_20 : decode cd_L_unify 20 = .ok (.ireturn, 1) := by decide +kernel
theorem dx_L_unify_21 : decode cd_L_unify 21 = .ok (.iconst 0, 1) := by decide +kernel
theorem dx_L_unify_22 : decode cd_L_unify 22 = .ok (.ireturn, 1) := by decide +kernel
theorem dx_L_undo_0 : decode cd_L_undo 0 = .ok (.aload_n 2, 1) := by decide +kernel
theorem dx_L_undo_1 : decode cd_L_undo 1 = .ok (.iconst 0, 1) := by decide +kernel
theorem dx_L_undo_2 : decode cd_L_undo 2 = .ok (.aload_n 0, 1) := by decide +kernel
theorem dx_L_undo_3 : decode cd_L_undo 3 = .ok (.iload_n 1, 1) := by decide +kernel
theorem dx_L_undo_4 : decode cd_L_undo 4 = .ok (.invokevirtual 25, 3) := by decide +kernel
theorem dx_L_undo_7 : decode cd_L_undo 7 = .ok (.i2l, 1) := by decide +kernel
theorem dx_L_undo_8 : decode cd_L_undo 8 = .ok (.lastore, 1) := by decide +kernel
theorem dx_L_undo_9 : decode cd_L_undo 9 = .ok (.goto 6, 3) := by decide +kernel
theorem dx_L_undo_12 : decode cd_L_undo 12 = .ok (.astore_n 3, 1) := by decide +kernel
theorem dx_L_undo_13 : decode cd_L_undo 13 = .ok (.iconst 1, 1) := by decide +kernel
theorem dx_L_undo_14 : decode cd_L_undo 14 = .ok (.ireturn, 1) := by decide +kernel
theorem dx_L_undo_15 : decode cd_L_undo 15 = .ok (.iconst 0, 1) := by decide +kernel
theorem dx_L_undo_16 : decode cd_L_undo 16 = .ok (.ireturn, 1) := by decide +kernel
theorem dx_L_count_0 : decode cd_L_count 0 = .ok (.aload_n 2, 1) := by decide +kernel
theorem dx_L_count_1 : decode cd_L_count 1 = .ok (.iconst 0, 1) := by decide +kernel
theorem dx_L_count_2 : decode cd_L_count 2 = .ok (.aload_n 0, 1) := by decide +kernel
theorem dx_L_count_3 : decode cd_L_count 3 = .ok (.iload_n 1, 1) := by decide +kernel
theorem dx_L_count_4 : decode cd_L_count 4 = .ok (.invokevirtual 29, 3) := by decide +kernel
theorem dx_L_count_7 : decode cd_L_count 7 = .ok (.i2l, 1) := by decide +kernel
theorem dx_L_count_8 : decode cd_L_count 8 = .ok (.lastore, 1) := by decide +kernel
theorem dx_L_count_9 : decode cd_L_count 9 = .ok (.goto 6, 3) := by decide +kernel
theorem dx_L_count_12 : decode cd_L_count 12 = .ok (.astore_n 3, 1) := by decide +kernel
theorem dx_L_count_13 : decode cd_L_count 13 = .ok (.iconst 1, 1) := by decide +kernel
theorem dx_L_count_14 : decode cd_L_count 14 = .ok (.ireturn, 1) := by decide +kernel
theorem dx_L_count_15 : decode cd_L_count 15 = .ok (.iconst 0, 1) := by decide +kernel
theorem dx_L_count_16 : decode cd_L_count 16 = .ok (.ireturn, 1) := by decide +kernel
theorem dx_L_same_0 : decode cd_L_same 0 = .ok (.aload_n 3, 1) := by decide +kernel
theorem dx_L_same_1 : decode cd_L_same 1 = .ok (.iconst 0, 1) := by decide +kernel
theorem dx_L_same_2 : decode cd_L_same 2 = .ok (.aload_n 0, 1) := by decide +kernel
theorem dx_L_same_3 : decode cd_L_same 3 = .ok (.iload_n 1, 1) := by decide +kernel
theorem dx_L_same_4 : decode cd_L_same 4 = .ok (.iload_n 2, 1) := by decide +kernel
theorem dx_L_same_5 : decode cd_L_same 5 = .ok (.invokevirtual 32, 3) := by decide +kernel
theorem dx_L_same_8 : decode cd_L_same 8 = .ok (.ifCond .eq 7, 3) := by decide +kernel
theorem dx_L_same_11 : decode cd_L_same 11 = .ok (.lconst 1, 1) := by decide +kernel
theorem dx_L_same_12 : decode cd_L_same 12 = .ok (.goto 4, 3) := by decide +kernel
theorem dx_L_same_15 : decode cd_L_same 15 = .ok (.lconst 0, 1) := by decide +kernel
theorem dx_L_same_16 : decode cd_L_same 16 = .ok (.lastore, 1) := by decide +kernel
theorem dx_L_same_17 : decode cd_L_same 17 = .ok (.goto 7, 3) := by decide +kernel
theorem dx_L_same_20 : decode cd_L_same 20 = .ok (.astore 4, 2) := by decide +kernel
theorem dx_L_same_22 : decode cd_L_same 22 = .ok (.iconst 1, 1) := by decide +kernel
theorem dx_L_same_23 : decode cd_L_same 23 = .ok (.ireturn, 1) := by decide +kernel
theorem dx_L_same_24 : decode cd_L_same 24 = .ok (.iconst 0, 1) := by decide +kernel
theorem dx_L_same_25 : decode cd_L_same 25 = .ok (.ireturn, 1) := by decide +kernel
theorem dx_L_leader_0 : decode cd_L_leader 0 = .ok (.aload_n 2, 1) := by decide +kernel
theorem dx_L_leader_1 : decode cd_L_leader 1 = .ok (.iconst 0, 1) := by decide +kernel
theorem dx_L_leader_2 : decode cd_L_leader 2 = .ok (.aload_n 0, 1) := by decide +kernel
theorem dx_L_leader_3 : decode cd_L_leader 3 = .ok (.iload_n 1, 1) := by decide +kernel
theorem dx_L_leader_4 : decode cd_L_leader 4 = .ok (.invokevirtual 36, 3) := by decide +kernel
theorem dx_L_leader_7 : decode cd_L_leader 7 = .ok (.i2l, 1) := by decide +kernel
theorem dx_L_leader_8 : decode cd_L_leader 8 = .ok (.lastore, 1) := by decide +kernel
theorem dx_L_leader_9 : decode cd_L_leader 9 = .ok (.goto 6, 3) := by decide +kernel
theorem dx_L_leader_12 : decode cd_L_leader 12 = .ok (.astore_n 3, 1) := by decide +kernel
theorem dx_L_leader_13 : decode cd_L_leader 13 = .ok (.iconst 1, 1) := by decide +kernel
theorem dx_L_leader_14 : decode cd_L_leader 14 = .ok (.ireturn, 1) := by decide +kernel
theorem dx_L_leader_15 : decode cd_L_leader 15 = .ok (.iconst 0, 1) := by decide +kernel
theorem dx_L_leader_16 : decode cd_L_leader 16 = .ok (.ireturn, 1) := by decide +kernel
theorem dx_L_size_0 : decode cd_L_size 0 = .ok (.aload_n 2, 1) := by decide +kernel
theorem dx_L_size_1 : decode cd_L_size 1 = .ok (.iconst 0, 1) := by decide +kernel
theorem dx_L_size_2 : decode cd_L_size 2 = .ok (.aload_n 0, 1) := by decide +kernel
theorem dx_L_size_3 : decode cd_L_size 3 = .ok (.iload_n 1, 1) := by decide +kernel
theorem dx_L_size_4 : decode cd_L_size 4 = .ok (.invokevirtual 39, 3) := by decide +kernel
theorem dx_L_size_7 : decode cd_L_size 7 = .ok (.lastore, 1) := by decide +kernel
theorem dx_L_size_8 : decode cd_L_size 8 = .ok (.goto 6, 3) := by decide +kernel
theorem dx_L_size_11 : decode cd_L_size 11 = .ok (.astore_n 3, 1) := by decide +kernel
theorem dx_L_size_12 : decode cd_L_size 12 = .ok (.iconst 1, 1) := by decide +kernel
theorem dx_L_size_13 : decode cd_L_size 13 = .ok (.ireturn, 1) := by decide +kernel
theorem dx_L_size_14 : decode cd_L_size 14 = .ok (.iconst 0, 1) := by decide +kernel
theorem dx_L_size_15 : decode cd_L_size 15 = .ok (.ireturn, 1) := by decide +kernel
theorem dx_L_depth_0 : decode cd_L_depth 0 = .ok (.aload_n 2, 1) := by decide +kernel
theorem dx_L_depth_1 : decode cd_L_depth 1 = .ok (.iconst 0, 1) := by decide +kernel
theorem dx_L_depth_2 : decode cd_L_depth 2 = .ok (.aload_n 0, 1) := by decide +kernel
theorem dx_L_depth_3 : decode cd_L_depth 3 = .ok (.iload_n 1, 1) := by decide +kernel
theorem dx_L_depth_4 : decode cd_L_depth 4 = .ok (.invokevirtual 43, 3) := by decide +kernel
theorem dx_L_depth_7 : decode cd_L_depth 7 = .ok (.i2l, 1) := by decide +kernel
theorem dx_L_depth_8 : decode cd_L_depth 8 = .ok (.lastore, 1) := by decide +kernel
theorem dx_L_depth_9 : decode cd_L_depth 9 = .ok (.goto 6, 3) := by decide +kernel
theorem dx_L_depth_12 : decode cd_L_depth 12 = .ok (.astore_n 3, 1) := by decide +kernel
theorem dx_L_depth_13 : decode cd_L_depth 13 = .ok (.iconst 1, 1) := by decide +kernel
theorem dx_L_depth_14 : decode cd_L_depth 14 = .ok (.ireturn, 1) := by decide +kernel
theorem dx_L_depth_15 : decode cd_L_depth 15 = .ok (.iconst 0, 1) := by decide +kernel
theorem dx_L_depth_16 : decode cd_L_depth 16 = .ok (.ireturn, 1) := by decide +kernel
theorem dx_L_variables_0 : decode cd_L_variables 0 = .ok (.aload_n 2, 1) := by decide +kernel
theorem dx_L_variables_1 : decode cd_L_variables 1 = .ok (.iconst 0, 1) := by decide +kernel
theorem dx_L_variables_2 : decode cd_L_variables 2 = .ok (.aload_n 0, 1) := by decide +kernel
theorem dx_L_variables_3 : decode cd_L_variables 3 = .ok (.iload_n 1, 1) := by decide +kernel
theorem dx_L_variables_4 : decode cd_L_variables 4 = .ok (.invokevirtual 46, 3) := by decide +kernel
theorem dx_L_variables_7 : decode cd_L_variables 7 = .ok (.i2l, 1) := by decide +kernel
theorem dx_L_variables_8 : decode cd_L_variables 8 = .ok (.lastore, 1) := by decide +kernel
theorem dx_L_variables_9 : decode cd_L_variables 9 = .ok (.goto 6, 3) := by decide +kernel
theorem dx_L_variables_12 : decode cd_L_variables 12 = .ok (.astore_n 3, 1) := by decide +kernel
theorem dx_L_variables_13 : decode cd_L_variables 13 = .ok (.iconst 1, 1) := by decide +kernel
theorem dx_L_variables_14 : decode cd_L_variables 14 = .ok (.ireturn, 1) := by decide +kernel
theorem dx_L_variables_15 : decode cd_L_variables 15 = .ok (.iconst 0, 1) := by decide +kernel
theorem dx_L_variables_16 : decode cd_L_variables 16 = .ok (.ireturn, 1) := by decide +kernel
theorem dx_L_at_0 : decode cd_L_at 0 = .ok (.aload 4, 2) := by decide +kernel
theorem dx_L_at_2 : decode cd_L_at 2 = .ok (.iconst 0, 1) := by decide +kernel
theorem dx_L_at_3 : decode cd_L_at 3 = .ok (.aload_n 0, 1) := by decide +kernel
theorem dx_L_at_4 : decode cd_L_at 4 = .ok (.iload_n 1, 1) := by decide +kernel
theorem dx_L_at_5 : decode cd_L_at 5 = .ok (.lload_n 2, 1) := by decide +kernel
theorem dx_L_at_6 : decode cd_L_at 6 = .ok (.invokevirtual 49, 3) := by decide +kernel
theorem dx_L_at_9 : decode cd_L_at 9 = .ok (.i2l, 1) := by decide +kernel
theorem dx_L_at_10 : decode cd_L_at 10 = .ok (.lastore, 1) := by decide +kernel
theorem dx_L_at_11 : decode cd_L_at 11 = .ok (.goto 11, 3) := by decide +kernel
theorem dx_L_at_14 : decode cd_L_at 14 = .ok (.astore 5, 2) := by decide +kernel
theorem dx_L_at_16 : decode cd_L_at 16 = .ok (.iconst 1, 1) := by decide +kernel
theorem dx_L_at_17 : decode cd_L_at 17 = .ok (.ireturn, 1) := by decide +kernel
theorem dx_L_at_18 : decode cd_L_at 18 = .ok (.astore 5, 2) := by decide +kernel
theorem dx_L_at_20 : decode cd_L_at 20 = .ok (.iconst 2, 1) := by decide +kernel
theorem dx_L_at_21 : decode cd_L_at 21 = .ok (.ireturn, 1) := by decide +kernel
theorem dx_L_at_22 : decode cd_L_at 22 = .ok (.iconst 0, 1) := by decide +kernel
theorem dx_L_at_23 : decode cd_L_at 23 = .ok (.ireturn, 1) := by decide +kernel
theorem dx_L_matches_0 : decode cd_L_matches 0 = .ok (.aload_n 3, 1) := by decide +kernel
theorem dx_L_matches_1 : decode cd_L_matches 1 = .ok (.iconst 0, 1) := by decide +kernel
theorem dx_L_matches_2 : decode cd_L_matches 2 = .ok (.aload_n 0, 1) := by decide +kernel
theorem dx_L_matches_3 : decode cd_L_matches 3 = .ok (.iload_n 1, 1) := by decide +kernel
theorem dx_L_matches_4 : decode cd_L_matches 4 = .ok (.iload_n 2, 1) := by decide +kernel
theorem dx_L_matches_5 : decode cd_L_matches 5 = .ok (.invokevirtual 55, 3) := by decide +kernel
theorem dx_L_matches_8 : decode cd_L_matches 8 = .ok (.ifCond .eq 7, 3) := by decide +kernel
theorem dx_L_matches_11 : decode cd_L_matches 11 = .ok (.lconst 1, 1) := by decide +kernel
theorem dx_L_matches_12 : decode cd_L_matches 12 = .ok (.goto 4, 3) := by decide +kernel
theorem dx_L_matches_15 : decode cd_L_matches 15 = .ok (.lconst 0, 1) := by decide +kernel
theorem dx_L_matches_16 : decode cd_L_matches 16 = .ok (.lastore, 1) := by decide +kernel
theorem dx_L_matches_17 : decode cd_L_matches 17 = .ok (.goto 7, 3) := by decide +kernel
theorem dx_L_matches_20 : decode cd_L_matches 20 = .ok (.astore 4, 2) := by decide +kernel
theorem dx_L_matches_22 : decode cd_L_matches 22 = .ok (.iconst 1, 1) := by decide +kernel
theorem dx_L_matches_23 : decode cd_L_matches 23 = .ok (.ireturn, 1) := by decide +kernel
theorem dx_L_matches_24 : decode cd_L_matches 24 = .ok (.iconst 0, 1) := by decide +kernel
theorem dx_L_matches_25 : decode cd_L_matches 25 = .ok (.ireturn, 1) := by decide +kernel
theorem dx_L_common_0 : decode cd_L_common 0 = .ok (.aload_n 3, 1) := by decide +kernel
theorem dx_L_common_1 : decode cd_L_common 1 = .ok (.iconst 0, 1) := by decide +kernel
theorem dx_L_common_2 : decode cd_L_common 2 = .ok (.aload_n 0, 1) := by decide +kernel
theorem dx_L_common_3 : decode cd_L_common 3 = .ok (.iload_n 1, 1) := by decide +kernel
theorem dx_L_common_4 : decode cd_L_common 4 = .ok (.iload_n 2, 1) := by decide +kernel
theorem dx_L_common_5 : decode cd_L_common 5 = .ok (.invokevirtual 58, 3) := by decide +kernel
theorem dx_L_common_8 : decode cd_L_common 8 = .ok (.lastore, 1) := by decide +kernel
theorem dx_L_common_9 : decode cd_L_common 9 = .ok (.goto 7, 3) := by decide +kernel
theorem dx_L_common_12 : decode cd_L_common 12 = .ok (.astore 4, 2) := by decide +kernel
theorem dx_L_common_14 : decode cd_L_common 14 = .ok (.iconst 1, 1) := by decide +kernel
theorem dx_L_common_15 : decode cd_L_common 15 = .ok (.ireturn, 1) := by decide +kernel
theorem dx_L_common_16 : decode cd_L_common 16 = .ok (.iconst 0, 1) := by decide +kernel
theorem dx_L_common_17 : decode cd_L_common 17 = .ok (.ireturn, 1) := by decide +kernel
