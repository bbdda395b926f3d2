theorem dL_tell_0 : decode cL_tell 0 = .ok (.aload 6, 2) := by decide +kernel
theorem dL_tell_2 : decode cL_tell 2 = .ok (.iconst 0, 1) := by decide +kernel
theorem dL_tell_3 : decode cL_tell 3 = .ok (.aload_n 0, 1) := by decide +kernel
theorem dL_tell_4 : decode cL_tell 4 = .ok (.iload_n 1, 1) := by decide +kernel
theorem dL_tell_5 : decode cL_tell 5 = .ok (.iload_n 2, 1) := by decide +kernel
theorem dL_tell_6 : decode cL_tell 6 = .ok (.iload_n 3, 1) := by decide +kernel
theorem dL_tell_7 : decode cL_tell 7 = .ok (.iload 4, 2) := by decide +kernel
theorem dL_tell_9 : decode cL_tell 9 = .ok (.iload 5, 2) := by decide +kernel
theorem dL_tell_11 : decode cL_tell 11 = .ok (.invokevirtual 7, 3) := by decide +kernel
theorem dL_tell_14 : decode cL_tell 14 = .ok (.i2l, 1) := by decide +kernel
theorem dL_tell_15 : decode cL_tell 15 = .ok (.lastore, 1) := by decide +kernel
theorem dL_tell_16 : decode cL_tell 16 = .ok (.goto 15, 3) := by decide +kernel
theorem dL_tell_19 : decode cL_tell 19 = .ok (.astore 7, 2) := by decide +kernel
theorem dL_tell_21 : decode cL_tell 21 = .ok (.iconst 1, 1) := by decide +kernel
theorem dL_tell_22 : decode cL_tell 22 = .ok (.ireturn, 1) := by decide +kernel
theorem dL_tell_23 : decode cL_tell 23 = .ok (.astore 7, 2) := by decide +kernel
theorem dL_tell_25 : decode cL_tell 25 = .ok (.iconst 2, 1) := by decide +kernel
theorem dL_tell_26 : decode cL_tell 26 = .ok (.ireturn, 1) := by decide +kernel
theorem dL_tell_27 : decode cL_tell 27 = .ok (.astore 7, 2) := by decide +kernel
theorem dL_tell_29 : decode cL_tell 29 = .ok (.iconst 3, 1) := by decide +kernel
theorem dL_tell_30 : decode cL_tell 30 = .ok (.ireturn, 1) := by decide +kernel
theorem dL_tell_31 : decode cL_tell 31 = .ok (.iconst 0, 1) := by decide +kernel
theorem dL_tell_32 : decode cL_tell 32 = .ok (.ireturn, 1) := by decide +kernel
theorem dL_draft_0 : decode cL_draft 0 = .ok (.aload 6, 2) := by decide +kernel
theorem dL_draft_2 : decode cL_draft 2 = .ok (.iconst 0, 1) := by decide +kernel
theorem dL_draft_3 : decode cL_draft 3 = .ok (.aload_n 0, 1) := by decide +kernel
theorem dL_draft_4 : decode cL_draft 4 = .ok (.iload_n 1, 1) := by decide +kernel
theorem dL_draft_5 : decode cL_draft 5 = .ok (.iload_n 2, 1) := by decide +kernel
theorem dL_draft_6 : decode cL_draft 6 = .ok (.iload_n 3, 1) := by decide +kernel
theorem dL_draft_7 : decode cL_draft 7 = .ok (.iload 4, 2) := by decide +kernel
theorem dL_draft_9 : decode cL_draft 9 = .ok (.iload 5, 2) := by decide +kernel
theorem dL_draft_11 : decode cL_draft 11 = .ok (.invokevirtual 19, 3) := by decide +kernel
theorem dL_draft_14 : decode cL_draft 14 = .ok (.i2l, 1) := by decide +kernel
theorem dL_draft_15 : decode cL_draft 15 = .ok (.lastore, 1) := by decide +kernel
theorem dL_draft_16 : decode cL_draft 16 = .ok (.goto 15, 3) := by decide +kernel
theorem dL_draft_19 : decode cL_draft 19 = .ok (.astore 7, 2) := by decide +kernel
theorem dL_draft_21 : decode cL_draft 21 = .ok (.iconst 1, 1) := by decide +kernel
theorem dL_draft_22 : decode cL_draft 22 = .ok (.ireturn, 1) := by decide +kernel
theorem dL_draft_23 : decode cL_draft 23 = .ok (.astore 7, 2) := by decide +kernel
theorem dL_draft_25 : decode cL_draft 25 = .ok (.iconst 2, 1) := by decide +kernel
theorem dL_draft_26 : decode cL_draft 26 = .ok (.ireturn, 1) := by decide +kernel
theorem dL_draft_27 : decode cL_draft 27 = .ok (.astore 7, 2) := by decide +kernel
theorem dL_draft_29 : decode cL_draft 29 = .ok (.iconst 3, 1) := by decide +kernel
theorem dL_draft_30 : decode cL_draft 30 = .ok (.ireturn, 1) := by decide +kernel
theorem dL_draft_31 : decode cL_draft 31 = .ok (.iconst 0, 1) := by decide +kernel
theorem dL_draft_32 : decode cL_draft 32 = .ok (.ireturn, 1) := by decide +kernel
theorem dL_publish_0 : decode cL_publish 0 = .ok (.aload_n 2, 1) := by decide +kernel
theorem dL_publish_1 : decode cL_publish 1 = .ok (.iconst 0, 1) := by decide +kernel
theorem dL_publish_2 : decode cL_publish 2 = .ok (.aload_n 0, 1) := by decide +kernel
theorem dL_publish_3 : decode cL_publish 3 = .ok (.iload_n 1, 1) := by decide +kernel
theorem dL_publish_4 : decode cL_publish 4 = .ok (.invokevirtual 22, 3) := by decide +kernel
theorem dL_publish_7 : decode cL_publish 7 = .ok (.i2l, 1) := by decide +kernel
theorem dL_publish_8 : decode cL_publish 8 = .ok (.lastore, 1) := by decide +kernel
theorem dL_publish_9 : decode cL_publish 9 = .ok (.goto 9, 3) := by decide +kernel
theorem dL_publish_12 : decode cL_publish 12 = .ok (.astore_n 3, 1) := by decide +kernel
theorem dL_publish_13 : decode cL_publish 13 = .ok (.iconst 1, 1) := by decide +kernel
theorem dL_publish_14 : decode cL_publish 14 = .ok (.ireturn, 1) := by decide +kernel
theorem dL_publish_15 : decode cL_publish 15 = .ok (.astore_n 3, 1) := by decide +kernel
theorem dL_publish_16 : decode cL_publish 16 = .ok (.iconst 2, 1) := by decide +kernel
theorem dL_publish_17 : decode cL_publish 17 = .ok (.ireturn, 1) := by decide +kernel
theorem dL_publish_18 : decode cL_publish 18 = .ok (.iconst 0, 1) := by decide +kernel
theorem dL_publish_19 : decode cL_publish 19 = .ok (.ireturn, 1) := by decide +kernel
theorem dL_remove_0 : decode cL_remove 0 = .ok (.aload_n 2, 1) := by decide +kernel
theorem dL_remove_1 : decode cL_remove 1 = .ok (.iconst 0, 1) := by decide +kernel
theorem dL_remove_2 : decode cL_remove 2 = .ok (.aload_n 0, 1) := by decide +kernel
theorem dL_remove_3 : decode cL_remove 3 = .ok (.iload_n 1, 1) := by decide +kernel
theorem dL_remove_4 : decode cL_remove 4 = .ok (.invokevirtual 26, 3) := by decide +kernel
theorem dL_remove_7 : decode cL_remove 7 = .ok (.i2l, 1) := by decide +kernel
theorem dL_remove_8 : decode cL_remove 8 = .ok (.lastore, 1) := by decide +kernel
theorem dL_remove_9 : decode cL_remove 9 = .ok (.goto 6, 3) := by decide +kernel
theorem dL_remove_12 : decode cL_remove 12 = .ok (.astore_n 3, 1) := by decide +kernel
theorem dL_remove_13 : decode cL_remove 13 = .ok (.iconst 1, 1) := by decide +kernel
theorem dL_remove_14 : decode cL_remove 14 = .ok (.ireturn, 1) := by decide +kernel
theorem dL_remove_15 : decode cL_remove 15 = .ok (.iconst 0, 1) := by decide +kernel
theorem dL_remove_16 : decode cL_remove 16 = .ok (.ireturn, 1) := by decide +kernel
theorem dL_setLayer_0 : decode cL_setLayer 0 = .ok (.aload_n 3, 1) := by decide +kernel
theorem dL_setLayer_1 : decode cL_setLayer 1 = .ok (.iconst 0, 1) := by decide +kernel
theorem dL_setLayer_2 : decode cL_setLayer 2 = .ok (.aload_n 0, 1) := by decide +kernel
theorem dL_setLayer_3 : decode cL_setLayer 3 = .ok (.iload_n 1, 1) := by decide +kernel
theorem dL_setLayer_4 : decode cL_setLayer 4 = .ok (.iload_n 2, 1) := by decide +kernel
theorem dL_setLayer_5 : decode cL_setLayer 5 = .ok (.invokevirtual 29, 3) := by decide +kernel
theorem dL_setLayer_8 : decode cL_setLayer 8 = .ok (.i2l, 1) := by decide +kernel
theorem dL_setLayer_9 : decode cL_setLayer 9 = .ok (.lastore, 1) := by decide +kernel
theorem dL_setLayer_10 : decode cL_setLayer 10 = .ok (.goto 7, 3) := by decide +kernel
theorem dL_setLayer_13 : decode cL_setLayer 13 = .ok (.astore 4, 2) := by decide +kernel
theorem dL_setLayer_15 : decode cL_setLayer 15 = .ok (.iconst 1, 1) := by decide +kernel
theorem dL_setLayer_16 : decode cL_setLayer 16 = .ok (.ireturn, 1) := by decide +kernel
theorem dL_setLayer_17 : decode cL_setLayer 17 = .ok (.iconst 0, 1) := by decide +kernel
theorem dL_setLayer_18 : decode cL_setLayer 18 = .ok (.ireturn, 1) := by decide +kernel
theorem dL_lock_0 : decode cL_lock 0 = .ok (.aload_n 3, 1) := by decide +kernel
theorem dL_lock_1 : decode cL_lock 1 = .ok (.iconst 0, 1) := by decide +kernel
theorem dL_lock_2 : decode cL_lock 2 = .ok (.aload_n 0, 1) := by decide +kernel
theorem dL_lock_3 : decode cL_lock 3 = .ok (.iload_n 1, 1) := by decide +kernel
theorem dL_lock_4 : decode cL_lock 4 = .ok (.iload_n 2, 1) := by decide +kernel
theorem dL_lock_5 : decode cL_lock 5 = .ok (.invokevirtual 33, 3) := by decide +kernel
theorem dL_lock_8 : decode cL_lock 8 = .ok (.i2l, 1) := by decide +kernel
theorem dL_lock_9 : decode cL_lock 9 = .ok (.lastore, 1) := by decide +kernel
theorem dL_lock_10 : decode cL_lock 10 = .ok (.goto 7, 3) := by decide +kernel
theorem dL_lock_13 : decode cL_lock 13 = .ok (.astore 4, 2) := by decide +kernel
theorem dL_lock_15 : decode cL_lock 15 = .ok (.iconst 1, 1) := by decide +kernel
theorem dL_lock_16 : decode cL_lock 16 = .ok (.ireturn, 1) := by decide +kernel
theorem dL_lock_17 : decode cL_lock 17 = .ok (.iconst 0, 1) := by decide +kernel
theorem dL_lock_18 : decode cL_lock 18 = .ok (.ireturn, 1) := by decide +kernel
theorem dL_except_0 : decode cL_except 0 = .ok (.aload 4, 2) := by decide +kernel
theorem dL_except_2 : decode cL_except 2 = .ok (.iconst 0, 1) := by decide +kernel
theorem dL_except_3 : decode cL_except 3 = .ok (.aload_n 0, 1) := by decide +kernel
theorem dL_except_4 : decode cL_except 4 = .ok (.iload_n 1, 1) := by decide +kernel
theorem dL_except_5 : decode cL_except 5 = .ok (.iload_n 2, 1) := by decide +kernel
theorem dL_except_6 : decode cL_except 6 = .ok (.iload_n 3, 1) := by decide +kernel
theorem dL_except_7 : decode cL_except 7 = .ok (.invokevirtual 36, 3) := by decide +kernel
theorem dL_except_10 : decode cL_except 10 = .ok (.i2l, 1) := by decide +kernel
theorem dL_except_11 : decode cL_except 11 = .ok (.lastore, 1) := by decide +kernel
theorem dL_except_12 : decode cL_except 12 = .ok (.goto 11, 3) := by decide +kernel
theorem dL_except_15 : decode cL_except 15 = .ok (.astore 5, 2) := by decide +kernel
theorem dL_except_17 : decode cL_except 17 = .ok (.iconst 1, 1) := by decide +kernel
theorem dL_except_18 : decode cL_except 18 = .ok (.ireturn, 1) := by decide +kernel
theorem dL_except_19 : decode cL_except 19 = .ok (.astore 5, 2) := by decide +kernel
theorem dL_except_21 : decode cL_except 21 = .ok (.iconst 2, 1) := by decide +kernel
theorem dL_except_22 : decode cL_except 22 = .ok (.ireturn, 1) := by decide +kernel
theorem dL_except_23 : decode cL_except 23 = .ok (.iconst 0, 1) := by decide +kernel
theorem dL_except_24 : decode cL_except 24 = .ok (.ireturn, 1) := by decide +kernel
theorem dL_pass_0 : decode cL_pass 0 = .ok (.aload_n 2, 1) := by decide +kernel
theorem dL_pass_1 : decode cL_pass 1 = .ok (.iconst 0, 1) := by decide +kernel
theorem dL_pass_2 : decode cL_pass 2 = .ok (.aload_n 0, 1) := by decide +kernel
theorem dL_pass_3 : decode cL_pass 3 = .ok (.iload_n 1, 1) := by decide +kernel
theorem dL_pass_4 : decode cL_pass 4 = .ok (.invokevirtual 40, 3) := by decide +kernel
theorem dL_pass_7 : decode cL_pass 7 = .ok (.i2l, 1) := by decide +kernel
theorem dL_pass_8 : decode cL_pass 8 = .ok (.lastore, 1) := by decide +kernel
theorem dL_pass_9 : decode cL_pass 9 = .ok (.goto 6, 3) := by decide +kernel
theorem dL_pass_12 : decode cL_pass 12 = .ok (.astore_n 3, 1) := by decide +kernel
theorem dL_pass_13 : decode cL_pass 13 = .ok (.iconst 1, 1) := by decide +kernel
theorem dL_pass_14 : decode cL_pass 14 = .ok (.ireturn, 1) := by decide +kernel
theorem dL_pass_15 : decode cL_pass 15 = .ok (.iconst 0, 1) := by decide +kernel
theorem dL_pass_16 : decode cL_pass 16 = .ok (.ireturn, 1) := by decide +kernel
theorem dL_standing_0 : decode cL_standing 0 = .ok (.aload_n 2, 1) := by decide +kernel
theorem dL_standing_1 : decode cL_standing 1 = .ok (.iconst 0, 1) := by decide +kernel
theorem dL_standing_2 : decode cL_standing 2 = .ok (.aload_n 0, 1) := by decide +kernel
theorem dL_standing_3 : decode cL_standing 3 = .ok (.iload_n 1, 1) := by decide +kernel
theorem dL_standing_4 : decode cL_standing 4 = .ok (.invokevirtual 43, 3) := by decide +kernel
theorem dL_standing_7 : decode cL_standing 7 = .ok (.i2l, 1) := by decide +kernel
theorem dL_standing_8 : decode cL_standing 8 = .ok (.lastore, 1) := by decide +kernel
theorem dL_standing_9 : decode cL_standing 9 = .ok (.goto 6, 3) := by decide +kernel
theorem dL_standing_12 : decode cL_standing 12 = .ok (.astore_n 3, 1) := by decide +kernel
theorem dL_standing_13 : decode cL_standing 13 = .ok (.iconst 1, 1) := by decide +kernel
theorem dL_standing_14 : decode cL_standing 14 = .ok (.ireturn, 1) := by decide +kernel
theorem dL_standing_15 : decode cL_standing 15 = .ok (.iconst 0, 1) := by decide +kernel
theorem dL_standing_16 : decode cL_standing 16 = .ok (.ireturn, 1) := by decide +kernel
theorem dL_value_0 : decode cL_value 0 = .ok (.aload_n 2, 1) := by decide +kernel
theorem dL_value_1 : decode cL_value 1 = .ok (.iconst 0, 1) := by decide +kernel
theorem dL_value_2 : decode cL_value 2 = .ok (.aload_n 0, 1) := by decide +kernel
theorem dL_value_3 : decode cL_value 3 = .ok (.iload_n 1, 1) := by decide +kernel
theorem dL_value_4 : decode cL_value 4 = .ok (.invokevirtual 46, 3) := by decide +kernel
theorem dL_value_7 : decode cL_value 7 = .ok (.i2l, 1) := by decide +kernel
theorem dL_value_8 : decode cL_value 8 = .ok (.lastore, 1) := by decide +kernel
theorem dL_value_9 : decode cL_value 9 = .ok (.goto 6, 3) := by decide +kernel
theorem dL_value_12 : decode cL_value 12 = .ok (.astore_n 3, 1) := by decide +kernel
theorem dL_value_13 : decode cL_value 13 = .ok (.iconst 1, 1) := by decide +kernel
theorem dL_value_14 : decode cL_value 14 = .ok (.ireturn, 1) := by decide +kernel
theorem dL_value_15 : decode cL_value 15 = .ok (.iconst 0, 1) := by decide +kernel
theorem dL_value_16 : decode cL_value 16 = .ok (.ireturn, 1) := by decide +kernel
theorem dL_set_0 : decode cL_set 0 = .ok (.aload_n 2, 1) := by decide +kernel
theorem dL_set_1 : decode cL_set 1 = .ok (.iconst 0, 1) := by decide +kernel
theorem dL_set_2 : decode cL_set 2 = .ok (.aload_n 0, 1) := by decide +kernel
theorem dL_set_3 : decode cL_set 3 = .ok (.iload_n 1, 1) := by decide +kernel
theorem dL_set_4 : decode cL_set 4 = .ok (.invokevirtual 49, 3) := by decide +kernel
theorem dL_set_7 : decode cL_set 7 = .ok (.i2l, 1) := by decide +kernel
theorem dL_set_8 : decode cL_set 8 = .ok (.lastore, 1) := by decide +kernel
theorem dL_set_9 : decode cL_set 9 = .ok (.goto 6, 3) := by decide +kernel
theorem dL_set_12 : decode cL_set 12 = .ok (.astore_n 3, 1) := by decide +kernel
theorem dL_set_13 : decode cL_set 13 = .ok (.iconst 1, 1) := by decide +kernel
theorem dL_set_14 : decode cL_set 14 = .ok (.ireturn, 1) := by decide +kernel
theorem dL_set_15 : decode cL_set 15 = .ok (.iconst 0, 1) := by decide +kernel
theorem dL_set_16 : decode cL_set 16 = .ok (.ireturn, 1) := by decide +kernel
theorem dL_setAnew_0 : decode cL_setAnew 0 = .ok (.aload_n 2, 1) := by decide +kernel
theorem dL_setAnew_1 : decode cL_setAnew 1 = .ok (.iconst 0, 1) := by decide +kernel
theorem dL_setAnew_2 : decode cL_setAnew 2 = .ok (.aload_n 0, 1) := by decide +kernel
theorem dL_setAnew_3 : decode cL_setAnew 3 = .ok (.iload_n 1, 1) := by decide +kernel
theorem dL_setAnew_4 : decode cL_setAnew 4 = .ok (.invokevirtual 52, 3) := by decide +kernel
theorem dL_setAnew_7 : decode cL_setAnew 7 = .ok (.i2l, 1) := by decide +kernel
theorem dL_setAnew_8 : decode cL_setAnew 8 = .ok (.lastore, 1) := by decide +kernel
theorem dL_setAnew_9 : decode cL_setAnew 9 = .ok (.goto 6, 3) := by decide +kernel
theorem dL_setAnew_12 : decode cL_setAnew 12 = .ok (.astore_n 3, 1) := by decide +kernel
theorem dL_setAnew_13 : decode cL_setAnew 13 = .ok (.iconst 1, 1) := by decide +kernel
theorem dL_setAnew_14 : decode cL_setAnew 14 = .ok (.ireturn, 1) := by decide +kernel
theorem dL_setAnew_15 : decode cL_setAnew 15 = .ok (.iconst 0, 1) := by decide +kernel
theorem dL_setAnew_16 : decode cL_setAnew 16 = .ok (.ireturn, 1) := by decide +kernel
theorem dL_policy_0 : decode cL_policy 0 = .ok (.aload 4, 2) := by decide +kernel
theorem dL_policy_2 : decode cL_policy 2 = .ok (.iconst 0, 1) := by decide +kernel
theorem dL_policy_3 : decode cL_policy 3 = .ok (.aload_n 0, 1) := by decide +kernel
theorem dL_policy_4 : decode cL_policy 4 = .ok (.iload_n 1, 1) := by decide +kernel
theorem dL_policy_5 : decode cL_policy 5 = .ok (.iload_n 2, 1) := by decide +kernel
theorem dL_policy_6 : decode cL_policy 6 = .ok (.iload_n 3, 1) := by decide +kernel
theorem dL_policy_7 : decode cL_policy 7 = .ok (.invokevirtual 55, 3) := by decide +kernel
theorem dL_policy_10 : decode cL_policy 10 = .ok (.i2l, 1) := by decide +kernel
theorem dL_policy_11 : decode cL_policy 11 = .ok (.lastore, 1) := by decide +kernel
theorem dL_policy_12 : decode cL_policy 12 = .ok (.goto 15, 3) := by decide +kernel
theorem dL_policy_15 : decode cL_policy 15 = .ok (.astore 5, 2) := by decide +kernel
theorem dL_policy_17 : decode cL_policy 17 = .ok (.iconst 1, 1) := by decide +kernel
theorem dL_policy_18 : decode cL_policy 18 = .ok (.ireturn, 1) := by decide +kernel
theorem dL_policy_19 : decode cL_policy 19 = .ok (.astore 5, 2) := by decide +kernel
theorem dL_policy_21 : decode cL_policy 21 = .ok (.iconst 2, 1) := by decide +kernel
theorem dL_policy_22 : decode cL_policy 22 = .ok (.ireturn, 1) := by decide +kernel
theorem dL_policy_23 : decode cL_policy 23 = .ok (.astore 5, 2) := by decide +kernel
theorem dL_policy_25 : decode cL_policy 25 = .ok (.iconst 3, 1) := by decide +kernel
theorem dL_policy_26 : decode cL_policy 26 = .ok (.ireturn, 1) := by decide +kernel
theorem dL_policy_27 : decode cL_policy 27 = .ok (.iconst 0, 1) := by decide +kernel
theorem dL_policy_28 : decode cL_policy 28 = .ok (.ireturn, 1) := by decide +kernel
theorem dL_proof_0 : decode cL_proof 0 = .ok (.aload_n 2, 1) := by decide +kernel
theorem dL_proof_1 : decode cL_proof 1 = .ok (.iconst 0, 1) := by decide +kernel
theorem dL_proof_2 : decode cL_proof 2 = .ok (.aload_n 0, 1) := by decide +kernel
theorem dL_proof_3 : decode cL_proof 3 = .ok (.iload_n 1, 1) := by decide +kernel
theorem dL_proof_4 : decode cL_proof 4 = .ok (.invokevirtual 58, 3) := by decide +kernel
theorem dL_proof_7 : decode cL_proof 7 = .ok (.i2l, 1) := by decide +kernel
theorem dL_proof_8 : decode cL_proof 8 = .ok (.lastore, 1) := by decide +kernel
theorem dL_proof_9 : decode cL_proof 9 = .ok (.goto 6, 3) := by decide +kernel
theorem dL_proof_12 : decode cL_proof 12 = .ok (.astore_n 3, 1) := by decide +kernel
theorem dL_proof_13 : decode cL_proof 13 = .ok (.iconst 1, 1) := by decide +kernel
theorem dL_proof_14 : decode cL_proof 14 = .ok (.ireturn, 1) := by decide +kernel
theorem dL_proof_15 : decode cL_proof 15 = .ok (.iconst 0, 1) := by decide +kernel
theorem dL_proof_16 : decode cL_proof 16 = .ok (.ireturn, 1) := by decide +kernel
theorem dL_setType_0 : decode cL_setType 0 = .ok (.aload_n 0, 1) := by decide +kernel
theorem dL_setType_1 : decode cL_setType 1 = .ok (.iload_n 1, 1) := by decide +kernel
theorem dL_setType_2 : decode cL_setType 2 = .ok (.iload_n 2, 1) := by decide +kernel
theorem dL_setType_3 : decode cL_setType 3 = .ok (.iload_n 3, 1) := by decide +kernel
theorem dL_setType_4 : decode cL_setType 4 = .ok (.iload 4, 2) := by decide +kernel
theorem dL_setType_6 : decode cL_setType 6 = .ok (.iload 5, 2) := by decide +kernel
theorem dL_setType_8 : decode cL_setType 8 = .ok (.iload 6, 2) := by decide +kernel
theorem dL_setType_10 : decode cL_setType 10 = .ok (.invokevirtual 61, 3) := by decide +kernel
theorem dL_setType_13 : decode cL_setType 13 = .ok (.goto 15, 3) := by decide +kernel
theorem dL_setType_16 : decode cL_setType 16 = .ok (.astore 7, 2) := by decide +kernel
theorem dL_setType_18 : decode cL_setType 18 = .ok (.iconst 1, 1) := by decide +kernel
theorem dL_setType_19 : decode cL_setType 19 = .ok (.ireturn, 1) := by decide +kernel
theorem dL_setType_20 : decode cL_setType 20 = .ok (.astore 7, 2) := by decide +kernel
theorem dL_setType_22 : decode cL_setType 22 = .ok (.iconst 2, 1) := by decide +kernel
theorem dL_setType_23 : decode cL_setType 23 = .ok (.ireturn, 1) := by decide +kernel
theorem dL_setType_24 : decode cL_setType 24 = .ok (.astore 7, 2) := by decide +kernel
theorem dL_setType_26 : decode cL_setType 26 = .ok (.iconst 3, 1) := by decide +kernel
theorem dL_setType_27 : decode cL_setType 27 = .ok (.ireturn, 1) := by decide +kernel
theorem dL_setType_28 : decode cL_setType 28 = .ok (.iconst 0, 1) := by decide +kernel
theorem dL_setType_29 : decode cL_setType 29 = .ok (.ireturn, 1) := by decide +kernel
theorem dL_generator_0 : decode cL_generator 0 = .ok (.aload_n 2, 1) := by decide +kernel
theorem dL_generator_1 : decode cL_generator 1 = .ok (.iconst 0, 1) := by decide +kernel
theorem dL_generator_2 : decode cL_generator 2 = .ok (.aload_n 0, 1) := by decide +kernel
theorem dL_generator_3 : decode cL_generator 3 = .ok (.iload_n 1, 1) := by decide +kernel
theorem dL_generator_4 : decode cL_generator 4 = .ok (.invokevirtual 65, 3) := by decide +kernel
theorem dL_generator_7 : decode cL_generator 7 = .ok (.i2l, 1) := by decide +kernel
theorem dL_generator_8 : decode cL_generator 8 = .ok (.lastore, 1) := by decide +kernel
theorem dL_generator_9 : decode cL_generator 9 = .ok (.goto 9, 3) := by decide +kernel
theorem dL_generator_12 : decode cL_generator 12 = .ok (.astore_n 3, 1) := by decide +kernel
theorem dL_generator_13 : decode cL_generator 13 = .ok (.iconst 1, 1) := by decide +kernel
theorem dL_generator_14 : decode cL_generator 14 = .ok (.ireturn, 1) := by decide +kernel
theorem dL_generator_15 : decode cL_generator 15 = .ok (.astore_n 3, 1) := by decide +kernel
theorem dL_generator_16 : decode cL_generator 16 = .ok (.iconst 2, 1) := by decide +kernel
theorem dL_generator_17 : decode cL_generator 17 = .ok (.ireturn, 1) := by decide +kernel
theorem dL_generator_18 : decode cL_generator 18 = .ok (.iconst 0, 1) := by decide +kernel
theorem dL_generator_19 : decode cL_generator 19 = .ok (.ireturn, 1) := by decide +kernel
theorem dL_key_0 : decode cL_key 0 = .ok (.aload 4, 2) := by decide +kernel
theorem dL_key_2 : decode cL_key 2 = .ok (.iconst 0, 1) := by decide +kernel
theorem dL_key_3 : decode cL_key 3 = .ok (.aload_n 0, 1) := by decide +kernel
theorem dL_key_4 : decode cL_key 4 = .ok (.iload_n 1, 1) := by decide +kernel
theorem dL_key_5 : decode cL_key 5 = .ok (.iload_n 2, 1) := by decide +kernel
theorem dL_key_6 : decode cL_key 6 = .ok (.iload_n 3, 1) := by decide +kernel
theorem dL_key_7 : decode cL_key 7 = .ok (.invokevirtual 68, 3) := by decide +kernel
theorem dL_key_10 : decode cL_key 10 = .ok (.i2l, 1) := by decide +kernel
theorem dL_key_11 : decode cL_key 11 = .ok (.lastore, 1) := by decide +kernel
theorem dL_key_12 : decode cL_key 12 = .ok (.goto 15, 3) := by decide +kernel
theorem dL_key_15 : decode cL_key 15 = .ok (.astore 5, 2) := by decide +kernel
theorem dL_key_17 : decode cL_key 17 = .ok (.iconst 1, 1) := by decide +kernel
theorem dL_key_18 : decode cL_key 18 = .ok (.ireturn, 1) := by decide +kernel
theorem dL_key_19 : decode cL_key 19 = .ok (.astore 5, 2) := by decide +kernel
theorem dL_key_21 : decode cL_key 21 = .ok (.iconst 2, 1) := by decide +kernel
theorem dL_key_22 : decode cL_key 22 = .ok (.ireturn, 1) := by decide +kernel
theorem dL_key_23 : decode cL_key 23 = .ok (.astore 5, 2) := by decide +kernel
theorem dL_key_25 : decode cL_key 25 = .ok (.iconst 3, 1) := by decide +kernel
theorem dL_key_26 : decode cL_key 26 = .ok (.ireturn, 1) := by decide +kernel
theorem dL_key_27 : decode cL_key 27 = .ok (.iconst 0, 1) := by decide +kernel
theorem dL_key_28 : decode cL_key 28 = .ok (.ireturn, 1) := by decide +kernel
theorem dL_unkey_0 : decode cL_unkey 0 = .ok (.aload_n 3, 1) := by decide +kernel
theorem dL_unkey_1 : decode cL_unkey 1 = .ok (.iconst 0, 1) := by decide +kernel
theorem dL_unkey_2 : decode cL_unkey 2 = .ok (.aload_n 0, 1) := by decide +kernel
theorem dL_unkey_3 : decode cL_unkey 3 = .ok (.iload_n 1, 1) := by decide +kernel
theorem dL_unkey_4 : decode cL_unkey 4 = .ok (.iload_n 2, 1) := by decide +kernel
theorem dL_unkey_5 : decode cL_unkey 5 = .ok (.invokevirtual 71, 3) := by decide +kernel
theorem dL_unkey_8 : decode cL_unkey 8 = .ok (.i2l, 1) := by decide +kernel
theorem dL_unkey_9 : decode cL_unkey 9 = .ok (.lastore, 1) := by decide +kernel
theorem dL_unkey_10 : decode cL_unkey 10 = .ok (.goto 7, 3) := by decide +kernel
theorem dL_unkey_13 : decode cL_unkey 13 = .ok (.astore 4, 2) := by decide +kernel
theorem dL_unkey_15 : decode cL_unkey 15 = .ok (.iconst 1, 1) := by decide +kernel
theorem dL_unkey_16 : decode cL_unkey 16 = .ok (.ireturn, 1) := by decide +kernel
theorem dL_unkey_17 : decode cL_unkey 17 = .ok (.iconst 0, 1) := by decide +kernel
theorem dL_unkey_18 : decode cL_unkey 18 = .ok (.ireturn, 1) := by decide +kernel
theorem dL_bind_0 : decode cL_bind 0 = .ok (.aload 4, 2) := by decide +kernel
theorem dL_bind_2 : decode cL_bind 2 = .ok (.iconst 0, 1) := by decide +kernel
theorem dL_bind_3 : decode cL_bind 3 = .ok (.aload_n 0, 1) := by decide +kernel
theorem dL_bind_4 : decode cL_bind 4 = .ok (.iload_n 1, 1) := by decide +kernel
theorem dL_bind_5 : decode cL_bind 5 = .ok (.iload_n 2, 1) := by decide +kernel
theorem dL_bind_6 : decode cL_bind 6 = .ok (.iload_n 3, 1) := by decide +kernel
theorem dL_bind_7 : decode cL_bind 7 = .ok (.invokevirtual 74, 3) := by decide +kernel
theorem dL_bind_10 : decode cL_bind 10 = .ok (.i2l, 1) := by decide +kernel
theorem dL_bind_11 : decode cL_bind 11 = .ok (.lastore, 1) := by decide +kernel
theorem dL_bind_12 : decode cL_bind 12 = .ok (.goto 11, 3) := by decide +kernel
theorem dL_bind_15 : decode cL_bind 15 = .ok (.astore 5, 2) := by decide +kernel
theorem dL_bind_17 : decode cL_bind 17 = .ok (.iconst 1, 1) := by decide +kernel
theorem dL_bind_18 : decode cL_bind 18 = .ok (.ireturn, 1) := by decide +kernel
theorem dL_bind_19 : decode cL_bind 19 = .ok (.astore 5, 2) := by decide +kernel
theorem dL_bind_21 : decode cL_bind 21 = .ok (.iconst 2, 1) := by decide +kernel
theorem dL_bind_22 : decode cL_bind 22 = .ok (.ireturn, 1) := by decide +kernel
theorem dL_bind_23 : decode cL_bind 23 = .ok (.iconst 0, 1) := by decide +kernel
theorem dL_bind_24 : decode cL_bind 24 = .ok (.ireturn, 1) := by decide +kernel
theorem dL_upgrade_0 : decode cL_upgrade 0 = .ok (.aload_n 2, 1) := by decide +kernel
theorem dL_upgrade_1 : decode cL_upgrade 1 = .ok (.iconst 0, 1) := by decide +kernel
theorem dL_upgrade_2 : decode cL_upgrade 2 = .ok (.aload_n 0, 1) := by decide +kernel
theorem dL_upgrade_3 : decode cL_upgrade 3 = .ok (.iload_n 1, 1) := by decide +kernel
theorem dL_upgrade_4 : decode cL_upgrade 4 = .ok (.invokevirtual 77, 3) := by decide +kernel
theorem dL_upgrade_7 : decode cL_upgrade 7 = .ok (.i2l, 1) := by decide +kernel
theorem dL_upgrade_8 : decode cL_upgrade 8 = .ok (.lastore, 1) := by decide +kernel
theorem dL_upgrade_9 : decode cL_upgrade 9 = .ok (.goto 9, 3) := by decide +kernel
theorem dL_upgrade_12 : decode cL_upgrade 12 = .ok (.astore_n 3, 1) := by decide +kernel
theorem dL_upgrade_13 : decode cL_upgrade 13 = .ok (.iconst 1, 1) := by decide +kernel
theorem dL_upgrade_14 : decode cL_upgrade 14 = .ok (.ireturn, 1) := by decide +kernel
theorem dL_upgrade_15 : decode cL_upgrade 15 = .ok (.astore_n 3, 1) := by decide +kernel
theorem dL_upgrade_16 : decode cL_upgrade 16 = .ok (.iconst 2, 1) := by decide +kernel
theorem dL_upgrade_17 : decode cL_upgrade 17 = .ok (.ireturn, 1) := by decide +kernel
theorem dL_upgrade_18 : decode cL_upgrade 18 = .ok (.iconst 0, 1) := by decide +kernel
theorem dL_upgrade_19 : decode cL_upgrade 19 = .ok (.ireturn, 1) := by decide +kernel
theorem dL_given_0 : decode cL_given 0 = .ok (.aload_n 3, 1) := by decide +kernel
theorem dL_given_1 : decode cL_given 1 = .ok (.iconst 0, 1) := by decide +kernel
theorem dL_given_2 : decode cL_given 2 = .ok (.aload_n 0, 1) := by decide +kernel
theorem dL_given_3 : decode cL_given 3 = .ok (.iload_n 1, 1) := by decide +kernel
theorem dL_given_4 : decode cL_given 4 = .ok (.iload_n 2, 1) := by decide +kernel
theorem dL_given_5 : decode cL_given 5 = .ok (.invokevirtual 80, 3) := by decide +kernel
theorem dL_given_8 : decode cL_given 8 = .ok (.i2l, 1) := by decide +kernel
theorem dL_given_9 : decode cL_given 9 = .ok (.lastore, 1) := by decide +kernel
theorem dL_given_10 : decode cL_given 10 = .ok (.goto 7, 3) := by decide +kernel
theorem dL_given_13 : decode cL_given 13 = .ok (.astore 4, 2) := by decide +kernel
theorem dL_given_15 : decode cL_given 15 = .ok (.iconst 1, 1) := by decide +kernel
theorem dL_given_16 : decode cL_given 16 = .ok (.ireturn, 1) := by decide +kernel
theorem dL_given_17 : decode cL_given 17 = .ok (.iconst 0, 1) := by decide +kernel
theorem dL_given_18 : decode cL_given 18 = .ok (.ireturn, 1) := by decide +kernel
theorem dL_plan_0 : decode cL_plan 0 = .ok (.aload_n 2, 1) := by decide +kernel
theorem dL_plan_1 : decode cL_plan 1 = .ok (.iconst 0, 1) := by decide +kernel
theorem dL_plan_2 : decode cL_plan 2 = .ok (.aload_n 0, 1) := by decide +kernel
theorem dL_plan_3 : decode cL_plan 3 = .ok (.iload_n 1, 1) := by decide +kernel
theorem dL_plan_4 : decode cL_plan 4 = .ok (.invokevirtual 83, 3) := by decide +kernel
theorem dL_plan_7 : decode cL_plan 7 = .ok (.i2l, 1) := by decide +kernel
theorem dL_plan_8 : decode cL_plan 8 = .ok (.lastore, 1) := by decide +kernel
theorem dL_plan_9 : decode cL_plan 9 = .ok (.goto 9, 3) := by decide +kernel
theorem dL_plan_12 : decode cL_plan 12 = .ok (.astore_n 3, 1) := by decide +kernel
theorem dL_plan_13 : decode cL_plan 13 = .ok (.iconst 1, 1) := by decide +kernel
theorem dL_plan_14 : decode cL_plan 14 = .ok (.ireturn, 1) := by decide +kernel
theorem dL_plan_15 : decode cL_plan 15 = .ok (.astore_n 3, 1) := by decide +kernel
theorem dL_plan_16 : decode cL_plan 16 = .ok (.iconst 2, 1) := by decide +kernel
theorem dL_plan_17 : decode cL_plan 17 = .ok (.ireturn, 1) := by decide +kernel
theorem dL_plan_18 : decode cL_plan 18 = .ok (.iconst 0, 1) := by decide +kernel
theorem dL_plan_19 : decode cL_plan 19 = .ok (.ireturn, 1) := by decide +kernel
theorem dL_action_0 : decode cL_action 0 = .ok (.aload_n 3, 1) := by decide +kernel
theorem dL_action_1 : decode cL_action 1 = .ok (.iconst 0, 1) := by decide +kernel
theorem dL_action_2 : decode cL_action 2 = .ok (.aload_n 0, 1) := by decide +kernel
theorem dL_action_3 : decode cL_action 3 = .ok (.iload_n 1, 1) := by decide +kernel
theorem dL_action_4 : decode cL_action 4 = .ok (.iload_n 2, 1) := by decide +kernel
theorem dL_action_5 : decode cL_action 5 = .ok (.invokevirtual 86, 3) := by decide +kernel
theorem dL_action_8 : decode cL_action 8 = .ok (.i2l, 1) := by decide +kernel
theorem dL_action_9 : decode cL_action 9 = .ok (.lastore, 1) := by decide +kernel
theorem dL_action_10 : decode cL_action 10 = .ok (.goto 7, 3) := by decide +kernel
theorem dL_action_13 : decode cL_action 13 = .ok (.astore 4, 2) := by decide +kernel
theorem dL_action_15 : decode cL_action 15 = .ok (.iconst 1, 1) := by decide +kernel
theorem dL_action_16 : decode cL_action 16 = .ok (.ireturn, 1) := by decide +kernel
theorem dL_action_17 : decode cL_action 17 = .ok (.iconst 0, 1) := by decide +kernel
theorem dL_action_18 : decode cL_action 18 = .ok (.ireturn, 1) := by decide +kernel
theorem dL_approve_0 : decode cL_approve 0 = .ok (.aload_n 3, 1) := by decide +kernel
theorem dL_approve_1 : decode cL_approve 1 = .ok (.iconst 0, 1) := by decide +kernel
theorem dL_approve_2 : decode cL_approve 2 = .ok (.aload_n 0, 1) := by decide +kernel
theorem dL_approve_3 : decode cL_approve 3 = .ok (.iload_n 1, 1) := by decide +kernel
theorem dL_approve_4 : decode cL_approve 4 = .ok (.iload_n 2, 1) := by decide +kernel
theorem dL_approve_5 : decode cL_approve 5 = .ok (.invokevirtual 89, 3) := by decide +kernel
theorem dL_approve_8 : decode cL_approve 8 = .ok (.ifCond .eq 7, 3) := by decide +kernel
theorem dL_approve_11 : decode cL_approve 11 = .ok (.lconst 1, 1) := by decide +kernel
theorem dL_approve_12 : decode cL_approve 12 = .ok (.goto 4, 3) := by decide +kernel
theorem dL_approve_15 : decode cL_approve 15 = .ok (.lconst 0, 1) := by decide +kernel
theorem dL_approve_16 : decode cL_approve 16 = .ok (.lastore, 1) := by decide +kernel
theorem dL_approve_17 : decode cL_approve 17 = .ok (.goto 11, 3) := by decide +kernel
theorem dL_approve_20 : decode cL_approve 20 = .ok (.astore 4, 2) := by decide +kernel
theorem dL_approve_22 : decode cL_approve 22 = .ok (.iconst 1, 1) := by decide +kernel
theorem dL_approve_23 : decode cL_approve 23 = .ok (.ireturn, 1) := by decide +kernel
theorem dL_approve_24 : decode cL_approve 24 = .ok (.astore 4, 2) := by decide +kernel
theorem dL_approve_26 : decode cL_approve 26 = .ok (.iconst 2, 1) := by decide +kernel
theorem dL_approve_27 : decode cL_approve 27 = .ok (.ireturn, 1) := by decide +kernel
theorem dL_approve_28 : decode cL_approve 28 = .ok (.iconst 0, 1) := by decide +kernel
theorem dL_approve_29 : decode cL_approve 29 = .ok (.ireturn, 1) := by decide +kernel
theorem dL_isStale_0 : decode cL_isStale 0 = .ok (.aload_n 2, 1) := by decide +kernel
theorem dL_isStale_1 : decode cL_isStale 1 = .ok (.iconst 0, 1) := by decide +kernel
theorem dL_isStale_2 : decode cL_isStale 2 = .ok (.aload_n 0, 1) := by decide +kernel
theorem dL_isStale_3 : decode cL_isStale 3 = .ok (.iload_n 1, 1) := by decide +kernel
theorem dL_isStale_4 : decode cL_isStale 4 = .ok (.invokevirtual 93, 3) := by decide +kernel
theorem dL_isStale_7 : decode cL_isStale 7 = .ok (.ifCond .eq 7, 3) := by decide +kernel
theorem dL_isStale_10 : decode cL_isStale 10 = .ok (.lconst 1, 1) := by decide +kernel
theorem dL_isStale_11 : decode cL_isStale 11 = .ok (.goto 4, 3) := by decide +kernel
theorem dL_isStale_14 : decode cL_isStale 14 = .ok (.lconst 0, 1) := by decide +kernel
theorem dL_isStale_15 : decode cL_isStale 15 = .ok (.lastore, 1) := by decide +kernel
theorem dL_isStale_16 : decode cL_isStale 16 = .ok (.goto 6, 3) := by decide +kernel
theorem dL_isStale_19 : decode cL_isStale 19 = .ok (.astore_n 3, 1) := by decide +kernel
theorem dL_isStale_20 : decode cL_isStale 20 = .ok (.iconst 1, 1) := by decide +kernel
theorem dL_isStale_21 : decode cL_isStale 21 = .ok (.ireturn, 1) := by decide +kernel
theorem dL_isStale_22 : decode cL_isStale 22 = .ok (.iconst 0, 1) := by decide +kernel
theorem dL_isStale_23 : decode cL_isStale 23 = .ok (.ireturn, 1) := by decide +kernel
theorem dL_rebase_0 : decode cL_rebase 0 = .ok (.aload_n 2, 1) := by decide +kernel
theorem dL_rebase_1 : decode cL_rebase 1 = .ok (.iconst 0, 1) := by decide +kernel
theorem dL_rebase_2 : decode cL_rebase 2 = .ok (.aload_n 0, 1) := by decide +kernel
theorem dL_rebase_3 : decode cL_rebase 3 = .ok (.iload_n 1, 1) := by decide +kernel
theorem dL_rebase_4 : decode cL_rebase 4 = .ok (.invokevirtual 97, 3) := by decide +kernel
theorem dL_rebase_7 : decode cL_rebase 7 = .ok (.ifCond .eq 7, 3) := by decide +kernel
theorem dL_rebase_10 : decode cL_rebase 10 = .ok (.lconst 1, 1) := by decide +kernel
theorem dL_rebase_11 : decode cL_rebase 11 = .ok (.goto 4, 3) := by decide +kernel
theorem dL_rebase_14 : decode cL_rebase 14 = .ok (.lconst 0, 1) := by decide +kernel
theorem dL_rebase_15 : decode cL_rebase 15 = .ok (.lastore, 1) := by decide +kernel
theorem dL_rebase_16 : decode cL_rebase 16 = .ok (.goto 9, 3) := by decide +kernel
theorem dL_rebase_19 : decode cL_rebase 19 = .ok (.astore_n 3, 1) := by decide +kernel
theorem dL_rebase_20 : decode cL_rebase 20 = .ok (.iconst 1, 1) := by decide +kernel
theorem dL_rebase_21 : decode cL_rebase 21 = .ok (.ireturn, 1) := by decide +kernel
theorem dL_rebase_22 : decode cL_rebase 22 = .ok (.astore_n 3, 1) := by decide +kernel
theorem dL_rebase_23 : decode cL_rebase 23 = .ok (.iconst 2, 1) := by decide +kernel
theorem dL_rebase_24 : decode cL_rebase 24 = .ok (.ireturn, 1) := by decide +kernel
theorem dL_rebase_25 : decode cL_rebase 25 = .ok (.iconst 0, 1) := by decide +kernel
theorem dL_rebase_26 : decode cL_rebase 26 = .ok (.ireturn, 1) := by decide +kernel
theorem dL_apply_0 : decode cL_apply 0 = .ok (.aload_n 2, 1) := by decide +kernel
theorem dL_apply_1 : decode cL_apply 1 = .ok (.iconst 0, 1) := by decide +kernel
theorem dL_apply_2 : decode cL_apply 2 = .ok (.aload_n 0, 1) := by decide +kernel
theorem dL_apply_3 : decode cL_apply 3 = .ok (.iload_n 1, 1) := by decide +kernel
theorem dL_apply_4 : decode cL_apply 4 = .ok (.invokevirtual 100, 3) := by decide +kernel
theorem dL_apply_7 : decode cL_apply 7 = .ok (.i2l, 1) := by decide +kernel
theorem dL_apply_8 : decode cL_apply 8 = .ok (.lastore, 1) := by decide +kernel
theorem dL_apply_9 : decode cL_apply 9 = .ok (.goto 9, 3) := by decide +kernel
theorem dL_apply_12 : decode cL_apply 12 = .ok (.astore_n 3, 1) := by decide +kernel
theorem dL_apply_13 : decode cL_apply 13 = .ok (.iconst 1, 1) := by decide +kernel
theorem dL_apply_14 : decode cL_apply 14 = .ok (.ireturn, 1) := by decide +kernel
theorem dL_apply_15 : decode cL_apply 15 = .ok (.astore_n 3, 1) := by decide +kernel
theorem dL_apply_16 : decode cL_apply 16 = .ok (.iconst 2, 1) := by decide +kernel
theorem dL_apply_17 : decode cL_apply 17 = .ok (.ireturn, 1) := by decide +kernel
theorem dL_apply_18 : decode cL_apply 18 = .ok (.iconst 0, 1) := by decide +kernel
theorem dL_apply_19 : decode cL_apply 19 = .ok (.ireturn, 1) := by decide +kernel
theorem dL_step_0 : decode cL_step 0 = .ok (.aload_n 2, 1) := by decide +kernel
theorem dL_step_1 : decode cL_step 1 = .ok (.iconst 0, 1) := by decide +kernel
theorem dL_step_2 : decode cL_step 2 = .ok (.aload_n 0, 1) := by decide +kernel
theorem dL_step_3 : decode cL_step 3 = .ok (.iload_n 1, 1) := by decide +kernel
theorem dL_step_4 : decode cL_step 4 = .ok (.invokevirtual 103, 3) := by decide +kernel
theorem dL_step_7 : decode cL_step 7 = .ok (.i2l, 1) := by decide +kernel
theorem dL_step_8 : decode cL_step 8 = .ok (.lastore, 1) := by decide +kernel
theorem dL_step_9 : decode cL_step 9 = .ok (.goto 9, 3) := by decide +kernel
theorem dL_step_12 : decode cL_step 12 = .ok (.astore_n 3, 1) := by decide +kernel
theorem dL_step_13 : decode cL_step 13 = .ok (.iconst 1, 1) := by decide +kernel
theorem dL_step_14 : decode cL_step 14 = .ok (.ireturn, 1) := by decide +kernel
theorem dL_step_15 : decode cL_step 15 = .ok (.astore_n 3, 1) := by decide +kernel
theorem dL_step_16 : decode cL_step 16 = .ok (.iconst 2, 1) := by decide +kernel
theorem dL_step_17 : decode cL_step 17 = .ok (.ireturn, 1) := by decide +kernel
theorem dL_step_18 : decode cL_step 18 = .ok (.iconst 0, 1) := by decide +kernel
theorem dL_step_19 : decode cL_step 19 = .ok (.ireturn, 1) := by decide +kernel
theorem dL_entry_0 : decode cL_entry 0 = .ok (.aload_n 2, 1) := by decide +kernel
theorem dL_entry_1 : decode cL_entry 1 = .ok (.iconst 0, 1) := by decide +kernel
theorem dL_entry_2 : decode cL_entry 2 = .ok (.aload_n 0, 1) := by decide +kernel
theorem dL_entry_3 : decode cL_entry 3 = .ok (.iload_n 1, 1) := by decide +kernel
theorem dL_entry_4 : decode cL_entry 4 = .ok (.invokevirtual 106, 3) := by decide +kernel
theorem dL_entry_7 : decode cL_entry 7 = .ok (.i2l, 1) := by decide +kernel
theorem dL_entry_8 : decode cL_entry 8 = .ok (.lastore, 1) := by decide +kernel
theorem dL_entry_9 : decode cL_entry 9 = .ok (.goto 6, 3) := by decide +kernel
theorem dL_entry_12 : decode cL_entry 12 = .ok (.astore_n 3, 1) := by decide +kernel
theorem dL_entry_13 : decode cL_entry 13 = .ok (.iconst 1, 1) := by decide +kernel
theorem dL_entry_14 : decode cL_entry 14 = .ok (.ireturn, 1) := by decide +kernel
theorem dL_entry_15 : decode cL_entry 15 = .ok (.iconst 0, 1) := by decide +kernel
theorem dL_entry_16 : decode cL_entry 16 = .ok (.ireturn, 1) := by decide +kernel
theorem dL_stored_0 : decode cL_stored 0 = .ok (.aload_n 3, 1) := by decide +kernel
theorem dL_stored_1 : decode cL_stored 1 = .ok (.iconst 0, 1) := by decide +kernel
theorem dL_stored_2 : decode cL_stored 2 = .ok (.aload_n 0, 1) := by decide +kernel
theorem dL_stored_3 : decode cL_stored 3 = .ok (.iload_n 1, 1) := by decide +kernel
theorem dL_stored_4 : decode cL_stored 4 = .ok (.iload_n 2, 1) := by decide +kernel
theorem dL_stored_5 : decode cL_stored 5 = .ok (.invokevirtual 109, 3) := by decide +kernel
theorem dL_stored_8 : decode cL_stored 8 = .ok (.i2l, 1) := by decide +kernel
theorem dL_stored_9 : decode cL_stored 9 = .ok (.lastore, 1) := by decide +kernel
theorem dL_stored_10 : decode cL_stored 10 = .ok (.goto 7, 3) := by decide +kernel
theorem dL_stored_13 : decode cL_stored 13 = .ok (.astore 4, 2) := by decide +kernel
theorem dL_stored_15 : decode cL_stored 15 = .ok (.iconst 1, 1) := by decide +kernel
theorem dL_stored_16 : decode cL_stored 16 = .ok (.ireturn, 1) := by decide +kernel
theorem dL_stored_17 : decode cL_stored 17 = .ok (.iconst 0, 1) := by decide +kernel
theorem dL_stored_18 : decode cL_stored 18 = .ok (.ireturn, 1) := by decide +kernel
theorem dL_real_0 : decode cL_real 0 = .ok (.aload_n 3, 1) := by decide +kernel
theorem dL_real_1 : decode cL_real 1 = .ok (.iconst 0, 1) := by decide +kernel
theorem dL_real_2 : decode cL_real 2 = .ok (.aload_n 0, 1) := by decide +kernel
theorem dL_real_3 : decode cL_real 3 = .ok (.iload_n 1, 1) := by decide +kernel
theorem dL_real_4 : decode cL_real 4 = .ok (.iload_n 2, 1) := by decide +kernel
theorem dL_real_5 : decode cL_real 5 = .ok (.invokevirtual 112, 3) := by decide +kernel
theorem dL_real_8 : decode cL_real 8 = .ok (.i2l, 1) := by decide +kernel
theorem dL_real_9 : decode cL_real 9 = .ok (.lastore, 1) := by decide +kernel
theorem dL_real_10 : decode cL_real 10 = .ok (.goto 7, 3) := by decide +kernel
theorem dL_real_13 : decode cL_real 13 = .ok (.astore 4, 2) := by decide +kernel
theorem dL_real_15 : decode cL_real 15 = .ok (.iconst 1, 1) := by decide +kernel
theorem dL_real_16 : decode cL_real 16 = .ok (.ireturn, 1) := by decide +kernel
theorem dL_real_17 : decode cL_real 17 = .ok (.iconst 0, 1) := by decide +kernel
theorem dL_real_18 : decode cL_real 18 = .ok (.ireturn, 1) := by decide +kernel
theorem dL_change_0 : decode cL_change 0 = .ok (.aload 4, 2) := by decide +kernel
theorem dL_change_2 : decode cL_change 2 = .ok (.iconst 0, 1) := by decide +kernel
theorem dL_change_3 : decode cL_change 3 = .ok (.aload_n 0, 1) := by decide +kernel
theorem dL_change_4 : decode cL_change 4 = .ok (.iload_n 1, 1) := by decide +kernel
theorem dL_change_5 : decode cL_change 5 = .ok (.iload_n 2, 1) := by decide +kernel
theorem dL_change_6 : decode cL_change 6 = .ok (.iload_n 3, 1) := by decide +kernel
theorem dL_change_7 : decode cL_change 7 = .ok (.invokevirtual 115, 3) := by decide +kernel
theorem dL_change_10 : decode cL_change 10 = .ok (.i2l, 1) := by decide +kernel
theorem dL_change_11 : decode cL_change 11 = .ok (.lastore, 1) := by decide +kernel
theorem dL_change_12 : decode cL_change 12 = .ok (.goto 15, 3) := by decide +kernel
theorem dL_change_15 : decode cL_change 15 = .ok (.astore 5, 2) := by decide +kernel
theorem dL_change_17 : decode cL_change 17 = .ok (.iconst 1, 1) := by decide +kernel
theorem dL_change_18 : decode cL_change 18 = .ok (.ireturn, 1) := by decide +kernel
theorem dL_change_19 : decode cL_change 19 = .ok (.astore 5, 2) := by decide +kernel
theorem dL_change_21 : decode cL_change 21 = .ok (.iconst 2, 1) := by decide +kernel
theorem dL_change_22 : decode cL_change 22 = .ok (.ireturn, 1) := by decide +kernel
theorem dL_change_23 : decode cL_change 23 = .ok (.astore 5, 2) := by decide +kernel
theorem dL_change_25 : decode cL_change 25 = .ok (.iconst 3, 1) := by decide +kernel
theorem dL_change_26 : decode cL_change 26 = .ok (.ireturn, 1) := by decide +kernel
theorem dL_change_27 : decode cL_change 27 = .ok (.iconst 0, 1) := by decide +kernel
theorem dL_change_28 : decode cL_change 28 = .ok (.ireturn, 1) := by decide +kernel
theorem dL_destroy_0 : decode cL_destroy 0 = .ok (.aload_n 2, 1) := by decide +kernel
theorem dL_destroy_1 : decode cL_destroy 1 = .ok (.iconst 0, 1) := by decide +kernel
theorem dL_destroy_2 : decode cL_destroy 2 = .ok (.aload_n 0, 1) := by decide +kernel
theorem dL_destroy_3 : decode cL_destroy 3 = .ok (.iload_n 1, 1) := by decide +kernel
theorem dL_destroy_4 : decode cL_destroy 4 = .ok (.invokevirtual 118, 3) := by decide +kernel
theorem dL_destroy_7 : decode cL_destroy 7 = .ok (.ifCond .eq 7, 3) := by decide +kernel
theorem dL_destroy_10 : decode cL_destroy 10 = .ok (.lconst 1, 1) := by decide +kernel
theorem dL_destroy_11 : decode cL_destroy 11 = .ok (.goto 4, 3) := by decide +kernel
theorem dL_destroy_14 : decode cL_destroy 14 = .ok (.lconst 0, 1) := by decide +kernel
theorem dL_destroy_15 : decode cL_destroy 15 = .ok (.lastore, 1) := by decide +kernel
theorem dL_destroy_16 : decode cL_destroy 16 = .ok (.goto 6, 3) := by decide +kernel
theorem dL_destroy_19 : decode cL_destroy 19 = .ok (.astore_n 3, 1) := by decide +kernel
theorem dL_destroy_20 : decode cL_destroy 20 = .ok (.iconst 1, 1) := by decide +kernel
theorem dL_destroy_21 : decode cL_destroy 21 = .ok (.ireturn, 1) := by decide +kernel
theorem dL_destroy_22 : decode cL_destroy 22 = .ok (.iconst 0, 1) := by decide +kernel
theorem dL_destroy_23 : decode cL_destroy 23 = .ok (.ireturn, 1) := by decide +kernel
theorem dL_make_0 : decode cL_make 0 = .ok (.aload_n 2, 1) := by decide +kernel
theorem dL_make_1 : decode cL_make 1 = .ok (.iconst 0, 1) := by decide +kernel
theorem dL_make_2 : decode cL_make 2 = .ok (.aload_n 0, 1) := by decide +kernel
theorem dL_make_3 : decode cL_make 3 = .ok (.iload_n 1, 1) := by decide +kernel
theorem dL_make_4 : decode cL_make 4 = .ok (.invokevirtual 121, 3) := by decide +kernel
theorem dL_make_7 : decode cL_make 7 = .ok (.i2l, 1) := by decide +kernel
theorem dL_make_8 : decode cL_make 8 = .ok (.lastore, 1) := by decide +kernel
theorem dL_make_9 : decode cL_make 9 = .ok (.goto 9, 3) := by decide +kernel
theorem dL_make_12 : decode cL_make 12 = .ok (.astore_n 3, 1) := by decide +kernel
theorem dL_make_13 : decode cL_make 13 = .ok (.iconst 1, 1) := by decide +kernel
theorem dL_make_14 : decode cL_make 14 = .ok (.ireturn, 1) := by decide +kernel
theorem dL_make_15 : decode cL_make 15 = .ok (.astore_n 3, 1) := by decide +kernel
theorem dL_make_16 : decode cL_make 16 = .ok (.iconst 2, 1) := by decide +kernel
theorem dL_make_17 : decode cL_make 17 = .ok (.ireturn, 1) := by decide +kernel
theorem dL_make_18 : decode cL_make 18 = .ok (.iconst 0, 1) := by decide +kernel
theorem dL_make_19 : decode cL_make 19 = .ok (.ireturn, 1) := by decide +kernel
theorem dL_read_0 : decode cL_read 0 = .ok (.aload_n 1, 1) := by decide +kernel
theorem dL_read_1 : decode cL_read 1 = .ok (.iconst 0, 1) := by decide +kernel
theorem dL_read_2 : decode cL_read 2 = .ok (.aload_n 0, 1) := by decide +kernel
theorem dL_read_3 : decode cL_read 3 = .ok (.invokevirtual 124, 3) := by decide +kernel
theorem dL_read_6 : decode cL_read 6 = .ok (.i2l, 1) := by decide +kernel
theorem dL_read_7 : decode cL_read 7 = .ok (.lastore, 1) := by decide +kernel
theorem dL_read_8 : decode cL_read 8 = .ok (.goto 6, 3) := by decide +kernel
theorem dL_read_11 : decode cL_read 11 = .ok (.astore_n 2, 1) := by decide +kernel
theorem dL_read_12 : decode cL_read 12 = .ok (.iconst 1, 1) := by decide +kernel
theorem dL_read_13 : decode cL_read 13 = .ok (.ireturn, 1) := by decide +kernel
theorem dL_read_14 : decode cL_read 14 = .ok (.iconst 0, 1) := by decide +kernel
theorem dL_read_15 : decode cL_read 15 = .ok (.ireturn, 1) := by decide +kernel
theorem dL_move_0 : decode cL_move 0 = .ok (.aload_n 3, 1) := by decide +kernel
theorem dL_move_1 : decode cL_move 1 = .ok (.iconst 0, 1) := by decide +kernel
theorem dL_move_2 : decode cL_move 2 = .ok (.aload_n 0, 1) := by decide +kernel
theorem dL_move_3 : decode cL_move 3 = .ok (.iload_n 1, 1) := by decide +kernel
theorem dL_move_4 : decode cL_move 4 = .ok (.iload_n 2, 1) := by decide +kernel
theorem dL_move_5 : decode cL_move 5 = .ok (.invokevirtual 128, 3) := by decide +kernel
theorem dL_move_8 : decode cL_move 8 = .ok (.i2l, 1) := by decide +kernel
theorem dL_move_9 : decode cL_move 9 = .ok (.lastore, 1) := by decide +kernel
theorem dL_move_10 : decode cL_move 10 = .ok (.goto 11, 3) := by decide +kernel
theorem dL_move_13 : decode cL_move 13 = .ok (.astore 4, 2) := by decide +kernel
theorem dL_move_15 : decode cL_move 15 = .ok (.iconst 1, 1) := by decide +kernel
theorem dL_move_16 : decode cL_move 16 = .ok (.ireturn, 1) := by decide +kernel
theorem dL_move_17 : decode cL_move 17 = .ok (.astore 4, 2) := by decide +kernel
theorem dL_move_19 : decode cL_move 19 = .ok (.iconst 2, 1) := by decide +kernel
theorem dL_move_20 : decode cL_move 20 = .ok (.ireturn, 1) := by decide +kernel
theorem dL_move_21 : decode cL_move 21 = .ok (.iconst 0, 1) := by decide +kernel
theorem dL_move_22 : decode cL_move 22 = .ok (.ireturn, 1) := by decide +kernel
theorem dL_take_0 : decode cL_take 0 = .ok (.aload_n 3, 1) := by decide +kernel
theorem dL_take_1 : decode cL_take 1 = .ok (.iconst 0, 1) := by decide +kernel
theorem dL_take_2 : decode cL_take 2 = .ok (.aload_n 0, 1) := by decide +kernel
theorem dL_take_3 : decode cL_take 3 = .ok (.iload_n 1, 1) := by decide +kernel
theorem dL_take_4 : decode cL_take 4 = .ok (.iload_n 2, 1) := by decide +kernel
theorem dL_take_5 : decode cL_take 5 = .ok (.invokevirtual 131, 3) := by decide +kernel
theorem dL_take_8 : decode cL_take 8 = .ok (.i2l, 1) := by decide +kernel
theorem dL_take_9 : decode cL_take 9 = .ok (.lastore, 1) := by decide +kernel
theorem dL_take_10 : decode cL_take 10 = .ok (.goto 11, 3) := by decide +kernel
theorem dL_take_13 : decode cL_take 13 = .ok (.astore 4, 2) := by decide +kernel
theorem dL_take_15 : decode cL_take 15 = .ok (.iconst 1, 1) := by decide +kernel
theorem dL_take_16 : decode cL_take 16 = .ok (.ireturn, 1) := by decide +kernel
theorem dL_take_17 : decode cL_take 17 = .ok (.astore 4, 2) := by decide +kernel
theorem dL_take_19 : decode cL_take 19 = .ok (.iconst 2, 1) := by decide +kernel
theorem dL_take_20 : decode cL_take 20 = .ok (.ireturn, 1) := by decide +kernel
theorem dL_take_21 : decode cL_take 21 = .ok (.iconst 0, 1) := by decide +kernel
theorem dL_take_22 : decode cL_take 22 = .ok (.ireturn, 1) := by decide +kernel
