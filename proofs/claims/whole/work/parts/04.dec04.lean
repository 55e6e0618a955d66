theorem dL_addFix_12 : decode cL_addFix 12 = .ok (.i2l, 1) := by decide +kernel
theorem dL_addFix_13 : decode cL_addFix 13 = .ok (.lastore, 1) := by decide +kernel
theorem dL_addFix_14 : decode cL_addFix 14 = .ok (.goto 15, 3) := by decide +kernel
theorem dL_addFix_17 : decode cL_addFix 17 = .ok (.astore 6, 2) := by decide +kernel
theorem dL_addFix_19 : decode cL_addFix 19 = .ok (.iconst 1, 1) := by decide +kernel
theorem dL_addFix_20 : decode cL_addFix 20 = .ok (.ireturn, 1) := by decide +kernel
theorem dL_addFix_21 : decode cL_addFix 21 = .ok (.astore 6, 2) := by decide +kernel
theorem dL_addFix_23 : decode cL_addFix 23 = .ok (.iconst 2, 1) := by decide +kernel
theorem dL_addFix_24 : decode cL_addFix 24 = .ok (.ireturn, 1) := by decide +kernel
theorem dL_addFix_25 : decode cL_addFix 25 = .ok (.astore 6, 2) := by decide +kernel
theorem dL_addFix_27 : decode cL_addFix 27 = .ok (.iconst 3, 1) := by decide +kernel
theorem dL_addFix_28 : decode cL_addFix 28 = .ok (.ireturn, 1) := by decide +kernel
theorem dL_addFix_29 : decode cL_addFix 29 = .ok (.iconst 0, 1) := by decide +kernel
theorem dL_addFix_30 : decode cL_addFix 30 = .ok (.ireturn, 1) := by decide +kernel
theorem dL_submit_0 : decode cL_submit 0 = .ok (.aload_n 2, 1) := by decide +kernel
theorem dL_submit_1 : decode cL_submit 1 = .ok (.iconst 0, 1) := by decide +kernel
theorem dL_submit_2 : decode cL_submit 2 = .ok (.aload_n 0, 1) := by decide +kernel
theorem dL_submit_3 : decode cL_submit 3 = .ok (.iload_n 1, 1) := by decide +kernel
theorem dL_submit_4 : decode cL_submit 4 = .ok (.invokevirtual 27, 3) := by decide +kernel
theorem dL_submit_7 : decode cL_submit 7 = .ok (.i2l, 1) := by decide +kernel
theorem dL_submit_8 : decode cL_submit 8 = .ok (.lastore, 1) := by decide +kernel
theorem dL_submit_9 : decode cL_submit 9 = .ok (.goto 9, 3) := by decide +kernel
theorem dL_submit_12 : decode cL_submit 12 = .ok (.astore_n 3, 1) := by decide +kernel
theorem dL_submit_13 : decode cL_submit 13 = .ok (.iconst 1, 1) := by decide +kernel
theorem dL_submit_14 : decode cL_submit 14 = .ok (.ireturn, 1) := by decide +kernel
theorem dL_submit_15 : decode cL_submit 15 = .ok (.astore_n 3, 1) := by decide +kernel
theorem dL_submit_16 : decode cL_submit 16 = .ok (.iconst 2, 1) := by decide +kernel
theorem dL_submit_17 : decode cL_submit 17 = .ok (.ireturn, 1) := by decide +kernel
theorem dL_submit_18 : decode cL_submit 18 = .ok (.iconst 0, 1) := by decide +kernel
theorem dL_submit_19 : decode cL_submit 19 = .ok (.ireturn, 1) := by decide +kernel
theorem dL_nextInReview_0 : decode cL_nextInReview 0 = .ok (.aload_n 1, 1) := by decide +kernel
theorem dL_nextInReview_1 : decode cL_nextInReview 1 = .ok (.iconst 0, 1) := by decide +kernel
theorem dL_nextInReview_2 : decode cL_nextInReview 2 = .ok (.aload_n 0, 1) := by decide +kernel
theorem dL_nextInReview_3 : decode cL_nextInReview 3 = .ok (.invokevirtual 31, 3) := by decide +kernel
theorem dL_nextInReview_6 : decode cL_nextInReview 6 = .ok (.i2l, 1) := by decide +kernel
theorem dL_nextInReview_7 : decode cL_nextInReview 7 = .ok (.lastore, 1) := by decide +kernel
theorem dL_nextInReview_8 : decode cL_nextInReview 8 = .ok (.goto 6, 3) := by decide +kernel
theorem dL_nextInReview_11 : decode cL_nextInReview 11 = .ok (.astore_n 2, 1) := by decide +kernel
theorem dL_nextInReview_12 : decode cL_nextInReview 12 = .ok (.iconst 1, 1) := by decide +kernel
theorem dL_nextInReview_13 : decode cL_nextInReview 13 = .ok (.ireturn, 1) := by decide +kernel
theorem dL_nextInReview_14 : decode cL_nextInReview 14 = .ok (.iconst 0, 1) := by decide +kernel
theorem dL_nextInReview_15 : decode cL_nextInReview 15 = .ok (.ireturn, 1) := by decide +kernel
theorem dL_review_0 : decode cL_review 0 = .ok (.aload_n 1, 1) := by decide +kernel
theorem dL_review_1 : decode cL_review 1 = .ok (.iconst 0, 1) := by decide +kernel
theorem dL_review_2 : decode cL_review 2 = .ok (.aload_n 0, 1) := by decide +kernel
theorem dL_review_3 : decode cL_review 3 = .ok (.invokevirtual 35, 3) := by decide +kernel
theorem dL_review_6 : decode cL_review 6 = .ok (.i2l, 1) := by decide +kernel
theorem dL_review_7 : decode cL_review 7 = .ok (.lastore, 1) := by decide +kernel
theorem dL_review_8 : decode cL_review 8 = .ok (.goto 6, 3) := by decide +kernel
theorem dL_review_11 : decode cL_review 11 = .ok (.astore_n 2, 1) := by decide +kernel
theorem dL_review_12 : decode cL_review 12 = .ok (.iconst 1, 1) := by decide +kernel
theorem dL_review_13 : decode cL_review 13 = .ok (.ireturn, 1) := by decide +kernel
theorem dL_review_14 : decode cL_review 14 = .ok (.iconst 0, 1) := by decide +kernel
theorem dL_review_15 : decode cL_review 15 = .ok (.ireturn, 1) := by decide +kernel
theorem dL_appeal_0 : decode cL_appeal 0 = .ok (.aload_n 2, 1) := by decide +kernel
theorem dL_appeal_1 : decode cL_appeal 1 = .ok (.iconst 0, 1) := by decide +kernel
theorem dL_appeal_2 : decode cL_appeal 2 = .ok (.aload_n 0, 1) := by decide +kernel
theorem dL_appeal_3 : decode cL_appeal 3 = .ok (.iload_n 1, 1) := by decide +kernel
theorem dL_appeal_4 : decode cL_appeal 4 = .ok (.invokevirtual 39, 3) := by decide +kernel
theorem dL_appeal_7 : decode cL_appeal 7 = .ok (.i2l, 1) := by decide +kernel
theorem dL_appeal_8 : decode cL_appeal 8 = .ok (.lastore, 1) := by decide +kernel
theorem dL_appeal_9 : decode cL_appeal 9 = .ok (.goto 9, 3) := by decide +kernel
theorem dL_appeal_12 : decode cL_appeal 12 = .ok (.astore_n 3, 1) := by decide +kernel
theorem dL_appeal_13 : decode cL_appeal 13 = .ok (.iconst 1, 1) := by decide +kernel
theorem dL_appeal_14 : decode cL_appeal 14 = .ok (.ireturn, 1) := by decide +kernel
theorem dL_appeal_15 : decode cL_appeal 15 = .ok (.astore_n 3, 1) := by decide +kernel
theorem dL_appeal_16 : decode cL_appeal 16 = .ok (.iconst 2, 1) := by decide +kernel
theorem dL_appeal_17 : decode cL_appeal 17 = .ok (.ireturn, 1) := by decide +kernel
theorem dL_appeal_18 : decode cL_appeal 18 = .ok (.iconst 0, 1) := by decide +kernel
theorem dL_appeal_19 : decode cL_appeal 19 = .ok (.ireturn, 1) := by decide +kernel
theorem dL_setSize_0 : decode cL_setSize 0 = .ok (.aload_n 2, 1) := by decide +kernel
theorem dL_setSize_1 : decode cL_setSize 1 = .ok (.iconst 0, 1) := by decide +kernel
theorem dL_setSize_2 : decode cL_setSize 2 = .ok (.aload_n 0, 1) := by decide +kernel
theorem dL_setSize_3 : decode cL_setSize 3 = .ok (.iload_n 1, 1) := by decide +kernel
theorem dL_setSize_4 : decode cL_setSize 4 = .ok (.invokevirtual 42, 3) := by decide +kernel
theorem dL_setSize_7 : decode cL_setSize 7 = .ok (.i2l, 1) := by decide +kernel
theorem dL_setSize_8 : decode cL_setSize 8 = .ok (.lastore, 1) := by decide +kernel
theorem dL_setSize_9 : decode cL_setSize 9 = .ok (.goto 6, 3) := by decide +kernel
theorem dL_setSize_12 : decode cL_setSize 12 = .ok (.astore_n 3, 1) := by decide +kernel
theorem dL_setSize_13 : decode cL_setSize 13 = .ok (.iconst 1, 1) := by decide +kernel
theorem dL_setSize_14 : decode cL_setSize 14 = .ok (.ireturn, 1) := by decide +kernel
theorem dL_setSize_15 : decode cL_setSize 15 = .ok (.iconst 0, 1) := by decide +kernel
theorem dL_setSize_16 : decode cL_setSize 16 = .ok (.ireturn, 1) := by decide +kernel
theorem dL_setBarred_0 : decode cL_setBarred 0 = .ok (.aload_n 2, 1) := by decide +kernel
theorem dL_setBarred_1 : decode cL_setBarred 1 = .ok (.iconst 0, 1) := by decide +kernel
theorem dL_setBarred_2 : decode cL_setBarred 2 = .ok (.aload_n 0, 1) := by decide +kernel
theorem dL_setBarred_3 : decode cL_setBarred 3 = .ok (.iload_n 1, 1) := by decide +kernel
theorem dL_setBarred_4 : decode cL_setBarred 4 = .ok (.invokevirtual 45, 3) := by decide +kernel
theorem dL_setBarred_7 : decode cL_setBarred 7 = .ok (.i2l, 1) := by decide +kernel
theorem dL_setBarred_8 : decode cL_setBarred 8 = .ok (.lastore, 1) := by decide +kernel
theorem dL_setBarred_9 : decode cL_setBarred 9 = .ok (.goto 6, 3) := by decide +kernel
theorem dL_setBarred_12 : decode cL_setBarred 12 = .ok (.astore_n 3, 1) := by decide +kernel
theorem dL_setBarred_13 : decode cL_setBarred 13 = .ok (.iconst 1, 1) := by decide +kernel
theorem dL_setBarred_14 : decode cL_setBarred 14 = .ok (.ireturn, 1) := by decide +kernel
theorem dL_setBarred_15 : decode cL_setBarred 15 = .ok (.iconst 0, 1) := by decide +kernel
theorem dL_setBarred_16 : decode cL_setBarred 16 = .ok (.ireturn, 1) := by decide +kernel
theorem dL_stateOf_0 : decode cL_stateOf 0 = .ok (.aload_n 2, 1) := by decide +kernel
theorem dL_stateOf_1 : decode cL_stateOf 1 = .ok (.iconst 0, 1) := by decide +kernel
theorem dL_stateOf_2 : decode cL_stateOf 2 = .ok (.aload_n 0, 1) := by decide +kernel
theorem dL_stateOf_3 : decode cL_stateOf 3 = .ok (.iload_n 1, 1) := by decide +kernel
theorem dL_stateOf_4 : decode cL_stateOf 4 = .ok (.invokevirtual 48, 3) := by decide +kernel
theorem dL_stateOf_7 : decode cL_stateOf 7 = .ok (.i2l, 1) := by decide +kernel
theorem dL_stateOf_8 : decode cL_stateOf 8 = .ok (.lastore, 1) := by decide +kernel
theorem dL_stateOf_9 : decode cL_stateOf 9 = .ok (.goto 6, 3) := by decide +kernel
theorem dL_stateOf_12 : decode cL_stateOf 12 = .ok (.astore_n 3, 1) := by decide +kernel
theorem dL_stateOf_13 : decode cL_stateOf 13 = .ok (.iconst 1, 1) := by decide +kernel
theorem dL_stateOf_14 : decode cL_stateOf 14 = .ok (.ireturn, 1) := by decide +kernel
theorem dL_stateOf_15 : decode cL_stateOf 15 = .ok (.iconst 0, 1) := by decide +kernel
theorem dL_stateOf_16 : decode cL_stateOf 16 = .ok (.ireturn, 1) := by decide +kernel
theorem dL_stage_0 : decode cL_stage 0 = .ok (.aload 4, 2) := by decide +kernel
theorem dL_stage_2 : decode cL_stage 2 = .ok (.iconst 0, 1) := by decide +kernel
theorem dL_stage_3 : decode cL_stage 3 = .ok (.aload_n 0, 1) := by decide +kernel
theorem dL_stage_4 : decode cL_stage 4 = .ok (.iload_n 1, 1) := by decide +kernel
theorem dL_stage_5 : decode cL_stage 5 = .ok (.iload_n 2, 1) := by decide +kernel
theorem dL_stage_6 : decode cL_stage 6 = .ok (.iload_n 3, 1) := by decide +kernel
theorem dL_stage_7 : decode cL_stage 7 = .ok (.invokevirtual 52, 3) := by decide +kernel
theorem dL_stage_10 : decode cL_stage 10 = .ok (.i2l, 1) := by decide +kernel
theorem dL_stage_11 : decode cL_stage 11 = .ok (.lastore, 1) := by decide +kernel
theorem dL_stage_12 : decode cL_stage 12 = .ok (.goto 19, 3) := by decide +kernel
theorem dL_stage_15 : decode cL_stage 15 = .ok (.astore 5, 2) := by decide +kernel
theorem dL_stage_17 : decode cL_stage 17 = .ok (.iconst 1, 1) := by decide +kernel
theorem dL_stage_18 : decode cL_stage 18 = .ok (.ireturn, 1) := by decide +kernel
theorem dL_stage_19 : decode cL_stage 19 = .ok (.astore 5, 2) := by decide +kernel
theorem dL_stage_21 : decode cL_stage 21 = .ok (.iconst 2, 1) := by decide +kernel
theorem dL_stage_22 : decode cL_stage 22 = .ok (.ireturn, 1) := by decide +kernel
theorem dL_stage_23 : decode cL_stage 23 = .ok (.astore 5, 2) := by decide +kernel
theorem dL_stage_25 : decode cL_stage 25 = .ok (.iconst 3, 1) := by decide +kernel
theorem dL_stage_26 : decode cL_stage 26 = .ok (.ireturn, 1) := by decide +kernel
theorem dL_stage_27 : decode cL_stage 27 = .ok (.astore 5, 2) := by decide +kernel
theorem dL_stage_29 : decode cL_stage 29 = .ok (.iconst 4, 1) := by decide +kernel
theorem dL_stage_30 : decode cL_stage 30 = .ok (.ireturn, 1) := by decide +kernel
theorem dL_stage_31 : decode cL_stage 31 = .ok (.iconst 0, 1) := by decide +kernel
theorem dL_stage_32 : decode cL_stage 32 = .ok (.ireturn, 1) := by decide +kernel
theorem dL_percentageOf_0 : decode cL_percentageOf 0 = .ok (.aload_n 2, 1) := by decide +kernel
theorem dL_percentageOf_1 : decode cL_percentageOf 1 = .ok (.iconst 0, 1) := by decide +kernel
theorem dL_percentageOf_2 : decode cL_percentageOf 2 = .ok (.aload_n 0, 1) := by decide +kernel
theorem dL_percentageOf_3 : decode cL_percentageOf 3 = .ok (.iload_n 1, 1) := by decide +kernel
theorem dL_percentageOf_4 : decode cL_percentageOf 4 = .ok (.invokevirtual 57, 3) := by decide +kernel
theorem dL_percentageOf_7 : decode cL_percentageOf 7 = .ok (.i2l, 1) := by decide +kernel
theorem dL_percentageOf_8 : decode cL_percentageOf 8 = .ok (.lastore, 1) := by decide +kernel
theorem dL_percentageOf_9 : decode cL_percentageOf 9 = .ok (.goto 6, 3) := by decide +kernel
theorem dL_percentageOf_12 : decode cL_percentageOf 12 = .ok (.astore_n 3, 1) := by decide +kernel
theorem dL_percentageOf_13 : decode cL_percentageOf 13 = .ok (.iconst 1, 1) := by decide +kernel
theorem dL_percentageOf_14 : decode cL_percentageOf 14 = .ok (.ireturn, 1) := by decide +kernel
theorem dL_percentageOf_15 : decode cL_percentageOf 15 = .ok (.iconst 0, 1) := by decide +kernel
theorem dL_percentageOf_16 : decode cL_percentageOf 16 = .ok (.ireturn, 1) := by decide +kernel
theorem dL_percentageAfter_0 : decode cL_percentageAfter 0 = .ok (.aload_n 3, 1) := by decide +kernel
theorem dL_percentageAfter_1 : decode cL_percentageAfter 1 = .ok (.iconst 0, 1) := by decide +kernel
theorem dL_percentageAfter_2 : decode cL_percentageAfter 2 = .ok (.aload_n 0, 1) := by decide +kernel
theorem dL_percentageAfter_3 : decode cL_percentageAfter 3 = .ok (.iload_n 1, 1) := by decide +kernel
theorem dL_percentageAfter_4 : decode cL_percentageAfter 4 = .ok (.iload_n 2, 1) := by decide +kernel
theorem dL_percentageAfter_5 : decode cL_percentageAfter 5 = .ok (.invokevirtual 60, 3) := by decide +kernel
theorem dL_percentageAfter_8 : decode cL_percentageAfter 8 = .ok (.i2l, 1) := by decide +kernel
theorem dL_percentageAfter_9 : decode cL_percentageAfter 9 = .ok (.lastore, 1) := by decide +kernel
theorem dL_percentageAfter_10 : decode cL_percentageAfter 10 = .ok (.goto 11, 3) := by decide +kernel
theorem dL_percentageAfter_13 : decode cL_percentageAfter 13 = .ok (.astore 4, 2) := by decide +kernel
theorem dL_percentageAfter_15 : decode cL_percentageAfter 15 = .ok (.iconst 1, 1) := by decide +kernel
theorem dL_percentageAfter_16 : decode cL_percentageAfter 16 = .ok (.ireturn, 1) := by decide +kernel
theorem dL_percentageAfter_17 : decode cL_percentageAfter 17 = .ok (.astore 4, 2) := by decide +kernel
theorem dL_percentageAfter_19 : decode cL_percentageAfter 19 = .ok (.iconst 2, 1) := by decide +kernel
theorem dL_percentageAfter_20 : decode cL_percentageAfter 20 = .ok (.ireturn, 1) := by decide +kernel
theorem dL_percentageAfter_21 : decode cL_percentageAfter 21 = .ok (.iconst 0, 1) := by decide +kernel
theorem dL_percentageAfter_22 : decode cL_percentageAfter 22 = .ok (.ireturn, 1) := by decide +kernel
theorem dL_pass_0 : decode cL_pass 0 = .ok (.aload_n 2, 1) := by decide +kernel
theorem dL_pass_1 : decode cL_pass 1 = .ok (.iconst 0, 1) := by decide +kernel
theorem dL_pass_2 : decode cL_pass 2 = .ok (.aload_n 0, 1) := by decide +kernel
theorem dL_pass_3 : decode cL_pass 3 = .ok (.iload_n 1, 1) := by decide +kernel
theorem dL_pass_4 : decode cL_pass 4 = .ok (.invokevirtual 64, 3) := by decide +kernel
theorem dL_pass_7 : decode cL_pass 7 = .ok (.i2l, 1) := by decide +kernel
theorem dL_pass_8 : decode cL_pass 8 = .ok (.lastore, 1) := by decide +kernel
theorem dL_pass_9 : decode cL_pass 9 = .ok (.goto 9, 3) := by decide +kernel
theorem dL_pass_12 : decode cL_pass 12 = .ok (.astore_n 3, 1) := by decide +kernel
theorem dL_pass_13 : decode cL_pass 13 = .ok (.iconst 1, 1) := by decide +kernel
theorem dL_pass_14 : decode cL_pass 14 = .ok (.ireturn, 1) := by decide +kernel
theorem dL_pass_15 : decode cL_pass 15 = .ok (.astore_n 3, 1) := by decide +kernel
theorem dL_pass_16 : decode cL_pass 16 = .ok (.iconst 2, 1) := by decide +kernel
theorem dL_pass_17 : decode cL_pass 17 = .ok (.ireturn, 1) := by decide +kernel
theorem dL_pass_18 : decode cL_pass 18 = .ok (.iconst 0, 1) := by decide +kernel
theorem dL_pass_19 : decode cL_pass 19 = .ok (.ireturn, 1) := by decide +kernel
theorem dL_holdOf_0 : decode cL_holdOf 0 = .ok (.aload_n 2, 1) := by decide +kernel
theorem dL_holdOf_1 : decode cL_holdOf 1 = .ok (.iconst 0, 1) := by decide +kernel
theorem dL_holdOf_2 : decode cL_holdOf 2 = .ok (.aload_n 0, 1) := by decide +kernel
theorem dL_holdOf_3 : decode cL_holdOf 3 = .ok (.iload_n 1, 1) := by decide +kernel
theorem dL_holdOf_4 : decode cL_holdOf 4 = .ok (.invokevirtual 67, 3) := by decide +kernel
theorem dL_holdOf_7 : decode cL_holdOf 7 = .ok (.i2l, 1) := by decide +kernel
theorem dL_holdOf_8 : decode cL_holdOf 8 = .ok (.lastore, 1) := by decide +kernel
theorem dL_holdOf_9 : decode cL_holdOf 9 = .ok (.goto 9, 3) := by decide +kernel
theorem dL_holdOf_12 : decode cL_holdOf 12 = .ok (.astore_n 3, 1) := by decide +kernel
theorem dL_holdOf_13 : decode cL_holdOf 13 = .ok (.iconst 1, 1) := by decide +kernel
theorem dL_holdOf_14 : decode cL_holdOf 14 = .ok (.ireturn, 1) := by decide +kernel
theorem dL_holdOf_15 : decode cL_holdOf 15 = .ok (.astore_n 3, 1) := by decide +kernel
theorem dL_holdOf_16 : decode cL_holdOf 16 = .ok (.iconst 2, 1) := by decide +kernel
theorem dL_holdOf_17 : decode cL_holdOf 17 = .ok (.ireturn, 1) := by decide +kernel
theorem dL_holdOf_18 : decode cL_holdOf 18 = .ok (.iconst 0, 1) := by decide +kernel
theorem dL_holdOf_19 : decode cL_holdOf 19 = .ok (.ireturn, 1) := by decide +kernel
theorem dL_couldHave_0 : decode cL_couldHave 0 = .ok (.aload_n 3, 1) := by decide +kernel
theorem dL_couldHave_1 : decode cL_couldHave 1 = .ok (.iconst 0, 1) := by decide +kernel
theorem dL_couldHave_2 : decode cL_couldHave 2 = .ok (.aload_n 0, 1) := by decide +kernel
theorem dL_couldHave_3 : decode cL_couldHave 3 = .ok (.iload_n 1, 1) := by decide +kernel
theorem dL_couldHave_4 : decode cL_couldHave 4 = .ok (.iload_n 2, 1) := by decide +kernel
theorem dL_couldHave_5 : decode cL_couldHave 5 = .ok (.invokevirtual 70, 3) := by decide +kernel
theorem dL_couldHave_8 : decode cL_couldHave 8 = .ok (.ifCond .eq 7, 3) := by decide +kernel
theorem dL_couldHave_11 : decode cL_couldHave 11 = .ok (.lconst 1, 1) := by decide +kernel
theorem dL_couldHave_12 : decode cL_couldHave 12 = .ok (.goto 4, 3) := by decide +kernel
theorem dL_couldHave_15 : decode cL_couldHave 15 = .ok (.lconst 0, 1) := by decide +kernel
theorem dL_couldHave_16 : decode cL_couldHave 16 = .ok (.lastore, 1) := by decide +kernel
theorem dL_couldHave_17 : decode cL_couldHave 17 = .ok (.goto 7, 3) := by decide +kernel
theorem dL_couldHave_20 : decode cL_couldHave 20 = .ok (.astore 4, 2) := by decide +kernel
theorem dL_couldHave_22 : decode cL_couldHave 22 = .ok (.iconst 1, 1) := by decide +kernel
theorem dL_couldHave_23 : decode cL_couldHave 23 = .ok (.ireturn, 1) := by decide +kernel
theorem dL_couldHave_24 : decode cL_couldHave 24 = .ok (.iconst 0, 1) := by decide +kernel
theorem dL_couldHave_25 : decode cL_couldHave 25 = .ok (.ireturn, 1) := by decide +kernel
theorem dL_reach_0 : decode cL_reach 0 = .ok (.aload_n 2, 1) := by decide +kernel
theorem dL_reach_1 : decode cL_reach 1 = .ok (.iconst 0, 1) := by decide +kernel
theorem dL_reach_2 : decode cL_reach 2 = .ok (.aload_n 0, 1) := by decide +kernel
theorem dL_reach_3 : decode cL_reach 3 = .ok (.iload_n 1, 1) := by decide +kernel
theorem dL_reach_4 : decode cL_reach 4 = .ok (.invokevirtual 74, 3) := by decide +kernel
theorem dL_reach_7 : decode cL_reach 7 = .ok (.i2l, 1) := by decide +kernel
theorem dL_reach_8 : decode cL_reach 8 = .ok (.lastore, 1) := by decide +kernel
theorem dL_reach_9 : decode cL_reach 9 = .ok (.goto 6, 3) := by decide +kernel
theorem dL_reach_12 : decode cL_reach 12 = .ok (.astore_n 3, 1) := by decide +kernel
theorem dL_reach_13 : decode cL_reach 13 = .ok (.iconst 1, 1) := by decide +kernel
theorem dL_reach_14 : decode cL_reach 14 = .ok (.ireturn, 1) := by decide +kernel
theorem dL_reach_15 : decode cL_reach 15 = .ok (.iconst 0, 1) := by decide +kernel
theorem dL_reach_16 : decode cL_reach 16 = .ok (.ireturn, 1) := by decide +kernel
theorem dL_reachByDevices_0 : decode cL_reachByDevices 0 = .ok (.aload_n 2, 1) := by decide +kernel
theorem dL_reachByDevices_1 : decode cL_reachByDevices 1 = .ok (.iconst 0, 1) := by decide +kernel
theorem dL_reachByDevices_2 : decode cL_reachByDevices 2 = .ok (.aload_n 0, 1) := by decide +kernel
theorem dL_reachByDevices_3 : decode cL_reachByDevices 3 = .ok (.iload_n 1, 1) := by decide +kernel
theorem dL_reachByDevices_4 : decode cL_reachByDevices 4 = .ok (.invokevirtual 77, 3) := by decide +kernel
theorem dL_reachByDevices_7 : decode cL_reachByDevices 7 = .ok (.i2l, 1) := by decide +kernel
theorem dL_reachByDevices_8 : decode cL_reachByDevices 8 = .ok (.lastore, 1) := by decide +kernel
theorem dL_reachByDevices_9 : decode cL_reachByDevices 9 = .ok (.goto 6, 3) := by decide +kernel
theorem dL_reachByDevices_12 : decode cL_reachByDevices 12 = .ok (.astore_n 3, 1) := by decide +kernel
theorem dL_reachByDevices_13 : decode cL_reachByDevices 13 = .ok (.iconst 1, 1) := by decide +kernel
theorem dL_reachByDevices_14 : decode cL_reachByDevices 14 = .ok (.ireturn, 1) := by decide +kernel
theorem dL_reachByDevices_15 : decode cL_reachByDevices 15 = .ok (.iconst 0, 1) := by decide +kernel
theorem dL_reachByDevices_16 : decode cL_reachByDevices 16 = .ok (.ireturn, 1) := by decide +kernel
theorem dL_offered_0 : decode cL_offered 0 = .ok (.aload_n 2, 1) := by decide +kernel
theorem dL_offered_1 : decode cL_offered 1 = .ok (.iconst 0, 1) := by decide +kernel
theorem dL_offered_2 : decode cL_offered 2 = .ok (.aload_n 0, 1) := by decide +kernel
theorem dL_offered_3 : decode cL_offered 3 = .ok (.iload_n 1, 1) := by decide +kernel
theorem dL_offered_4 : decode cL_offered 4 = .ok (.invokevirtual 80, 3) := by decide +kernel
theorem dL_offered_7 : decode cL_offered 7 = .ok (.i2l, 1) := by decide +kernel
theorem dL_offered_8 : decode cL_offered 8 = .ok (.lastore, 1) := by decide +kernel
theorem dL_offered_9 : decode cL_offered 9 = .ok (.goto 9, 3) := by decide +kernel
theorem dL_offered_12 : decode cL_offered 12 = .ok (.astore_n 3, 1) := by decide +kernel
theorem dL_offered_13 : decode cL_offered 13 = .ok (.iconst 1, 1) := by decide +kernel
theorem dL_offered_14 : decode cL_offered 14 = .ok (.ireturn, 1) := by decide +kernel
theorem dL_offered_15 : decode cL_offered 15 = .ok (.astore_n 3, 1) := by decide +kernel
theorem dL_offered_16 : decode cL_offered 16 = .ok (.iconst 2, 1) := by decide +kernel
theorem dL_offered_17 : decode cL_offered 17 = .ok (.ireturn, 1) := by decide +kernel
theorem dL_offered_18 : decode cL_offered 18 = .ok (.iconst 0, 1) := by decide +kernel
theorem dL_offered_19 : decode cL_offered 19 = .ok (.ireturn, 1) := by decide +kernel
theorem dL_update_0 : decode cL_update 0 = .ok (.aload_n 2, 1) := by decide +kernel
theorem dL_update_1 : decode cL_update 1 = .ok (.iconst 0, 1) := by decide +kernel
theorem dL_update_2 : decode cL_update 2 = .ok (.aload_n 0, 1) := by decide +kernel
theorem dL_update_3 : decode cL_update 3 = .ok (.iload_n 1, 1) := by decide +kernel
theorem dL_update_4 : decode cL_update 4 = .ok (.invokevirtual 83, 3) := by decide +kernel
theorem dL_update_7 : decode cL_update 7 = .ok (.i2l, 1) := by decide +kernel
theorem dL_update_8 : decode cL_update 8 = .ok (.lastore, 1) := by decide +kernel
theorem dL_update_9 : decode cL_update 9 = .ok (.goto 9, 3) := by decide +kernel
theorem dL_update_12 : decode cL_update 12 = .ok (.astore_n 3, 1) := by decide +kernel
theorem dL_update_13 : decode cL_update 13 = .ok (.iconst 1, 1) := by decide +kernel
theorem dL_update_14 : decode cL_update 14 = .ok (.ireturn, 1) := by decide +kernel
theorem dL_update_15 : decode cL_update 15 = .ok (.astore_n 3, 1) := by decide +kernel
theorem dL_update_16 : decode cL_update 16 = .ok (.iconst 2, 1) := by decide +kernel
theorem dL_update_17 : decode cL_update 17 = .ok (.ireturn, 1) := by decide +kernel
theorem dL_update_18 : decode cL_update 18 = .ok (.iconst 0, 1) := by decide +kernel
theorem dL_update_19 : decode cL_update 19 = .ok (.ireturn, 1) := by decide +kernel
theorem dL_buildOf_0 : decode cL_buildOf 0 = .ok (.aload_n 2, 1) := by decide +kernel
theorem dL_buildOf_1 : decode cL_buildOf 1 = .ok (.iconst 0, 1) := by decide +kernel
theorem dL_buildOf_2 : decode cL_buildOf 2 = .ok (.aload_n 0, 1) := by decide +kernel
theorem dL_buildOf_3 : decode cL_buildOf 3 = .ok (.iload_n 1, 1) := by decide +kernel
theorem dL_buildOf_4 : decode cL_buildOf 4 = .ok (.invokevirtual 86, 3) := by decide +kernel
theorem dL_buildOf_7 : decode cL_buildOf 7 = .ok (.i2l, 1) := by decide +kernel
theorem dL_buildOf_8 : decode cL_buildOf 8 = .ok (.lastore, 1) := by decide +kernel
theorem dL_buildOf_9 : decode cL_buildOf 9 = .ok (.goto 9, 3) := by decide +kernel
theorem dL_buildOf_12 : decode cL_buildOf 12 = .ok (.astore_n 3, 1) := by decide +kernel
theorem dL_buildOf_13 : decode cL_buildOf 13 = .ok (.iconst 1, 1) := by decide +kernel
theorem dL_buildOf_14 : decode cL_buildOf 14 = .ok (.ireturn, 1) := by decide +kernel
theorem dL_buildOf_15 : decode cL_buildOf 15 = .ok (.astore_n 3, 1) := by decide +kernel
theorem dL_buildOf_16 : decode cL_buildOf 16 = .ok (.iconst 2, 1) := by decide +kernel
theorem dL_buildOf_17 : decode cL_buildOf 17 = .ok (.ireturn, 1) := by decide +kernel
theorem dL_buildOf_18 : decode cL_buildOf 18 = .ok (.iconst 0, 1) := by decide +kernel
theorem dL_buildOf_19 : decode cL_buildOf 19 = .ok (.ireturn, 1) := by decide +kernel
theorem dL_devicesWith_0 : decode cL_devicesWith 0 = .ok (.aload_n 2, 1) := by decide +kernel
theorem dL_devicesWith_1 : decode cL_devicesWith 1 = .ok (.iconst 0, 1) := by decide +kernel
theorem dL_devicesWith_2 : decode cL_devicesWith 2 = .ok (.aload_n 0, 1) := by decide +kernel
theorem dL_devicesWith_3 : decode cL_devicesWith 3 = .ok (.iload_n 1, 1) := by decide +kernel
theorem dL_devicesWith_4 : decode cL_devicesWith 4 = .ok (.invokevirtual 89, 3) := by decide +kernel
theorem dL_devicesWith_7 : decode cL_devicesWith 7 = .ok (.i2l, 1) := by decide +kernel
theorem dL_devicesWith_8 : decode cL_devicesWith 8 = .ok (.lastore, 1) := by decide +kernel
theorem dL_devicesWith_9 : decode cL_devicesWith 9 = .ok (.goto 6, 3) := by decide +kernel
theorem dL_devicesWith_12 : decode cL_devicesWith 12 = .ok (.astore_n 3, 1) := by decide +kernel
theorem dL_devicesWith_13 : decode cL_devicesWith 13 = .ok (.iconst 1, 1) := by decide +kernel
theorem dL_devicesWith_14 : decode cL_devicesWith 14 = .ok (.ireturn, 1) := by decide +kernel
theorem dL_devicesWith_15 : decode cL_devicesWith 15 = .ok (.iconst 0, 1) := by decide +kernel
theorem dL_devicesWith_16 : decode cL_devicesWith 16 = .ok (.ireturn, 1) := by decide +kernel
theorem dL_installs_0 : decode cL_installs 0 = .ok (.aload_n 2, 1) := by decide +kernel
theorem dL_installs_1 : decode cL_installs 1 = .ok (.iconst 0, 1) := by decide +kernel
theorem dL_installs_2 : decode cL_installs 2 = .ok (.aload_n 0, 1) := by decide +kernel
theorem dL_installs_3 : decode cL_installs 3 = .ok (.iload_n 1, 1) := by decide +kernel
theorem dL_installs_4 : decode cL_installs 4 = .ok (.invokevirtual 92, 3) := by decide +kernel
theorem dL_installs_7 : decode cL_installs 7 = .ok (.i2l, 1) := by decide +kernel
theorem dL_installs_8 : decode cL_installs 8 = .ok (.lastore, 1) := by decide +kernel
theorem dL_installs_9 : decode cL_installs 9 = .ok (.goto 6, 3) := by decide +kernel
theorem dL_installs_12 : decode cL_installs 12 = .ok (.astore_n 3, 1) := by decide +kernel
theorem dL_installs_13 : decode cL_installs 13 = .ok (.iconst 1, 1) := by decide +kernel
theorem dL_installs_14 : decode cL_installs 14 = .ok (.ireturn, 1) := by decide +kernel
theorem dL_installs_15 : decode cL_installs 15 = .ok (.iconst 0, 1) := by decide +kernel
theorem dL_installs_16 : decode cL_installs 16 = .ok (.ireturn, 1) := by decide +kernel
theorem dL_type_0 : decode cL_type 0 = .ok (.aload_n 2, 1) := by decide +kernel
theorem dL_type_1 : decode cL_type 1 = .ok (.iconst 0, 1) := by decide +kernel
theorem dL_type_2 : decode cL_type 2 = .ok (.aload_n 0, 1) := by decide +kernel
theorem dL_type_3 : decode cL_type 3 = .ok (.iload_n 1, 1) := by decide +kernel
theorem dL_type_4 : decode cL_type 4 = .ok (.invokevirtual 95, 3) := by decide +kernel
theorem dL_type_7 : decode cL_type 7 = .ok (.i2l, 1) := by decide +kernel
theorem dL_type_8 : decode cL_type 8 = .ok (.lastore, 1) := by decide +kernel
theorem dL_type_9 : decode cL_type 9 = .ok (.goto 9, 3) := by decide +kernel
theorem dL_type_12 : decode cL_type 12 = .ok (.astore_n 3, 1) := by decide +kernel
theorem dL_type_13 : decode cL_type 13 = .ok (.iconst 1, 1) := by decide +kernel
theorem dL_type_14 : decode cL_type 14 = .ok (.ireturn, 1) := by decide +kernel
theorem dL_type_15 : decode cL_type 15 = .ok (.astore_n 3, 1) := by decide +kernel
theorem dL_type_16 : decode cL_type 16 = .ok (.iconst 2, 1) := by decide +kernel
theorem dL_type_17 : decode cL_type 17 = .ok (.ireturn, 1) := by decide +kernel
theorem dL_type_18 : decode cL_type 18 = .ok (.iconst 0, 1) := by decide +kernel
theorem dL_type_19 : decode cL_type 19 = .ok (.ireturn, 1) := by decide +kernel
theorem dL_crash_0 : decode cL_crash 0 = .ok (.aload_n 2, 1) := by decide +kernel
theorem dL_crash_1 : decode cL_crash 1 = .ok (.iconst 0, 1) := by decide +kernel
theorem dL_crash_2 : decode cL_crash 2 = .ok (.aload_n 0, 1) := by decide +kernel
theorem dL_crash_3 : decode cL_crash 3 = .ok (.iload_n 1, 1) := by decide +kernel
theorem dL_crash_4 : decode cL_crash 4 = .ok (.invokevirtual 99, 3) := by decide +kernel
theorem dL_crash_7 : decode cL_crash 7 = .ok (.i2l, 1) := by decide +kernel
theorem dL_crash_8 : decode cL_crash 8 = .ok (.lastore, 1) := by decide +kernel
theorem dL_crash_9 : decode cL_crash 9 = .ok (.goto 9, 3) := by decide +kernel
theorem dL_crash_12 : decode cL_crash 12 = .ok (.astore_n 3, 1) := by decide +kernel
theorem dL_crash_13 : decode cL_crash 13 = .ok (.iconst 1, 1) := by decide +kernel
theorem dL_crash_14 : decode cL_crash 14 = .ok (.ireturn, 1) := by decide +kernel
theorem dL_crash_15 : decode cL_crash 15 = .ok (.astore_n 3, 1) := by decide +kernel
theorem dL_crash_16 : decode cL_crash 16 = .ok (.iconst 2, 1) := by decide +kernel
theorem dL_crash_17 : decode cL_crash 17 = .ok (.ireturn, 1) := by decide +kernel
theorem dL_crash_18 : decode cL_crash 18 = .ok (.iconst 0, 1) := by decide +kernel
theorem dL_crash_19 : decode cL_crash 19 = .ok (.ireturn, 1) := by decide +kernel
theorem dL_crashesIn_0 : decode cL_crashesIn 0 = .ok (.aload_n 2, 1) := by decide +kernel
theorem dL_crashesIn_1 : decode cL_crashesIn 1 = .ok (.iconst 0, 1) := by decide +kernel
theorem dL_crashesIn_2 : decode cL_crashesIn 2 = .ok (.aload_n 0, 1) := by decide +kernel
theorem dL_crashesIn_3 : decode cL_crashesIn 3 = .ok (.iload_n 1, 1) := by decide +kernel
theorem dL_crashesIn_4 : decode cL_crashesIn 4 = .ok (.invokevirtual 102, 3) := by decide +kernel
theorem dL_crashesIn_7 : decode cL_crashesIn 7 = .ok (.i2l, 1) := by decide +kernel
theorem dL_crashesIn_8 : decode cL_crashesIn 8 = .ok (.lastore, 1) := by decide +kernel
theorem dL_crashesIn_9 : decode cL_crashesIn 9 = .ok (.goto 6, 3) := by decide +kernel
theorem dL_crashesIn_12 : decode cL_crashesIn 12 = .ok (.astore_n 3, 1) := by decide +kernel
theorem dL_crashesIn_13 : decode cL_crashesIn 13 = .ok (.iconst 1, 1) := by decide +kernel
theorem dL_crashesIn_14 : decode cL_crashesIn 14 = .ok (.ireturn, 1) := by decide +kernel
theorem dL_crashesIn_15 : decode cL_crashesIn 15 = .ok (.iconst 0, 1) := by decide +kernel
theorem dL_crashesIn_16 : decode cL_crashesIn 16 = .ok (.ireturn, 1) := by decide +kernel
theorem dL_stackAt_0 : decode cL_stackAt 0 = .ok (.aload_n 3, 1) := by decide +kernel
theorem dL_stackAt_1 : decode cL_stackAt 1 = .ok (.iconst 0, 1) := by decide +kernel
theorem dL_stackAt_2 : decode cL_stackAt 2 = .ok (.aload_n 0, 1) := by decide +kernel
theorem dL_stackAt_3 : decode cL_stackAt 3 = .ok (.iload_n 1, 1) := by decide +kernel
theorem dL_stackAt_4 : decode cL_stackAt 4 = .ok (.iload_n 2, 1) := by decide +kernel
theorem dL_stackAt_5 : decode cL_stackAt 5 = .ok (.invokevirtual 105, 3) := by decide +kernel
theorem dL_stackAt_8 : decode cL_stackAt 8 = .ok (.i2l, 1) := by decide +kernel
theorem dL_stackAt_9 : decode cL_stackAt 9 = .ok (.lastore, 1) := by decide +kernel
theorem dL_stackAt_10 : decode cL_stackAt 10 = .ok (.goto 11, 3) := by decide +kernel
theorem dL_stackAt_13 : decode cL_stackAt 13 = .ok (.astore 4, 2) := by decide +kernel
theorem dL_stackAt_15 : decode cL_stackAt 15 = .ok (.iconst 1, 1) := by decide +kernel
theorem dL_stackAt_16 : decode cL_stackAt 16 = .ok (.ireturn, 1) := by decide +kernel
theorem dL_stackAt_17 : decode cL_stackAt 17 = .ok (.astore 4, 2) := by decide +kernel
theorem dL_stackAt_19 : decode cL_stackAt 19 = .ok (.iconst 2, 1) := by decide +kernel
theorem dL_stackAt_20 : decode cL_stackAt 20 = .ok (.ireturn, 1) := by decide +kernel
theorem dL_stackAt_21 : decode cL_stackAt 21 = .ok (.iconst 0, 1) := by decide +kernel
theorem dL_stackAt_22 : decode cL_stackAt 22 = .ok (.ireturn, 1) := by decide +kernel
theorem dL_likeness_0 : decode cL_likeness 0 = .ok (.aload_n 3, 1) := by decide +kernel
theorem dL_likeness_1 : decode cL_likeness 1 = .ok (.iconst 0, 1) := by decide +kernel
theorem dL_likeness_2 : decode cL_likeness 2 = .ok (.aload_n 0, 1) := by decide +kernel
theorem dL_likeness_3 : decode cL_likeness 3 = .ok (.iload_n 1, 1) := by decide +kernel
theorem dL_likeness_4 : decode cL_likeness 4 = .ok (.iload_n 2, 1) := by decide +kernel
theorem dL_likeness_5 : decode cL_likeness 5 = .ok (.invokevirtual 111, 3) := by decide +kernel
theorem dL_likeness_8 : decode cL_likeness 8 = .ok (.f2d, 1) := by decide +kernel
theorem dL_likeness_9 : decode cL_likeness 9 = .ok (.dastore, 1) := by decide +kernel
theorem dL_likeness_10 : decode cL_likeness 10 = .ok (.goto 7, 3) := by decide +kernel
theorem dL_likeness_13 : decode cL_likeness 13 = .ok (.astore 4, 2) := by decide +kernel
theorem dL_likeness_15 : decode cL_likeness 15 = .ok (.iconst 1, 1) := by decide +kernel
theorem dL_likeness_16 : decode cL_likeness 16 = .ok (.ireturn, 1) := by decide +kernel
theorem dL_likeness_17 : decode cL_likeness 17 = .ok (.iconst 0, 1) := by decide +kernel
theorem dL_likeness_18 : decode cL_likeness 18 = .ok (.ireturn, 1) := by decide +kernel
theorem dL_setBound_0 : decode cL_setBound 0 = .ok (.aload_n 2, 1) := by decide +kernel
theorem dL_setBound_1 : decode cL_setBound 1 = .ok (.iconst 0, 1) := by decide +kernel
theorem dL_setBound_2 : decode cL_setBound 2 = .ok (.aload_n 0, 1) := by decide +kernel
theorem dL_setBound_3 : decode cL_setBound 3 = .ok (.iload_n 1, 1) := by decide +kernel
theorem dL_setBound_4 : decode cL_setBound 4 = .ok (.invokevirtual 115, 3) := by decide +kernel
theorem dL_setBound_7 : decode cL_setBound 7 = .ok (.i2l, 1) := by decide +kernel
theorem dL_setBound_8 : decode cL_setBound 8 = .ok (.lastore, 1) := by decide +kernel
theorem dL_setBound_9 : decode cL_setBound 9 = .ok (.goto 6, 3) := by decide +kernel
theorem dL_setBound_12 : decode cL_setBound 12 = .ok (.astore_n 3, 1) := by decide +kernel
theorem dL_setBound_13 : decode cL_setBound 13 = .ok (.iconst 1, 1) := by decide +kernel
theorem dL_setBound_14 : decode cL_setBound 14 = .ok (.ireturn, 1) := by decide +kernel
theorem dL_setBound_15 : decode cL_setBound 15 = .ok (.iconst 0, 1) := by decide +kernel
theorem dL_setBound_16 : decode cL_setBound 16 = .ok (.ireturn, 1) := by decide +kernel
theorem dL_worstGroup_0 : decode cL_worstGroup 0 = .ok (.aload_n 1, 1) := by decide +kernel
theorem dL_worstGroup_1 : decode cL_worstGroup 1 = .ok (.iconst 0, 1) := by decide +kernel
theorem dL_worstGroup_2 : decode cL_worstGroup 2 = .ok (.aload_n 0, 1) := by decide +kernel
theorem dL_worstGroup_3 : decode cL_worstGroup 3 = .ok (.invokevirtual 118, 3) := by decide +kernel
theorem dL_worstGroup_6 : decode cL_worstGroup 6 = .ok (.i2l, 1) := by decide +kernel
theorem dL_worstGroup_7 : decode cL_worstGroup 7 = .ok (.lastore, 1) := by decide +kernel
theorem dL_worstGroup_8 : decode cL_worstGroup 8 = .ok (.goto 6, 3) := by decide +kernel
theorem dL_worstGroup_11 : decode cL_worstGroup 11 = .ok (.astore_n 2, 1) := by decide +kernel
theorem dL_worstGroup_12 : decode cL_worstGroup 12 = .ok (.iconst 1, 1) := by decide +kernel
theorem dL_worstGroup_13 : decode cL_worstGroup 13 = .ok (.ireturn, 1) := by decide +kernel
theorem dL_worstGroup_14 : decode cL_worstGroup 14 = .ok (.iconst 0, 1) := by decide +kernel
theorem dL_worstGroup_15 : decode cL_worstGroup 15 = .ok (.ireturn, 1) := by decide +kernel
theorem dL_buildsIn_0 : decode cL_buildsIn 0 = .ok (.aload_n 2, 1) := by decide +kernel
theorem dL_buildsIn_1 : decode cL_buildsIn 1 = .ok (.iconst 0, 1) := by decide +kernel
theorem dL_buildsIn_2 : decode cL_buildsIn 2 = .ok (.aload_n 0, 1) := by decide +kernel
theorem dL_buildsIn_3 : decode cL_buildsIn 3 = .ok (.iload_n 1, 1) := by decide +kernel
theorem dL_buildsIn_4 : decode cL_buildsIn 4 = .ok (.invokevirtual 121, 3) := by decide +kernel
theorem dL_buildsIn_7 : decode cL_buildsIn 7 = .ok (.i2l, 1) := by decide +kernel
theorem dL_buildsIn_8 : decode cL_buildsIn 8 = .ok (.lastore, 1) := by decide +kernel
theorem dL_buildsIn_9 : decode cL_buildsIn 9 = .ok (.goto 6, 3) := by decide +kernel
theorem dL_buildsIn_12 : decode cL_buildsIn 12 = .ok (.astore_n 3, 1) := by decide +kernel
theorem dL_buildsIn_13 : decode cL_buildsIn 13 = .ok (.iconst 1, 1) := by decide +kernel
theorem dL_buildsIn_14 : decode cL_buildsIn 14 = .ok (.ireturn, 1) := by decide +kernel
theorem dL_buildsIn_15 : decode cL_buildsIn 15 = .ok (.iconst 0, 1) := by decide +kernel
theorem dL_buildsIn_16 : decode cL_buildsIn 16 = .ok (.ireturn, 1) := by decide +kernel
theorem dL_setRate_0 : decode cL_setRate 0 = .ok (.aload_n 2, 1) := by decide +kernel
theorem dL_setRate_1 : decode cL_setRate 1 = .ok (.iconst 0, 1) := by decide +kernel
theorem dL_setRate_2 : decode cL_setRate 2 = .ok (.aload_n 0, 1) := by decide +kernel
theorem dL_setRate_3 : decode cL_setRate 3 = .ok (.iload_n 1, 1) := by decide +kernel
theorem dL_setRate_4 : decode cL_setRate 4 = .ok (.invokevirtual 124, 3) := by decide +kernel
theorem dL_setRate_7 : decode cL_setRate 7 = .ok (.i2l, 1) := by decide +kernel
theorem dL_setRate_8 : decode cL_setRate 8 = .ok (.lastore, 1) := by decide +kernel
theorem dL_setRate_9 : decode cL_setRate 9 = .ok (.goto 6, 3) := by decide +kernel
theorem dL_setRate_12 : decode cL_setRate 12 = .ok (.astore_n 3, 1) := by decide +kernel
theorem dL_setRate_13 : decode cL_setRate 13 = .ok (.iconst 1, 1) := by decide +kernel
theorem dL_setRate_14 : decode cL_setRate 14 = .ok (.ireturn, 1) := by decide +kernel
theorem dL_setRate_15 : decode cL_setRate 15 = .ok (.iconst 0, 1) := by decide +kernel
theorem dL_setRate_16 : decode cL_setRate 16 = .ok (.ireturn, 1) := by decide +kernel
theorem dL_crashRate_0 : decode cL_crashRate 0 = .ok (.aload_n 2, 1) := by decide +kernel
theorem dL_crashRate_1 : decode cL_crashRate 1 = .ok (.iconst 0, 1) := by decide +kernel
theorem dL_crashRate_2 : decode cL_crashRate 2 = .ok (.aload_n 0, 1) := by decide +kernel
theorem dL_crashRate_3 : decode cL_crashRate 3 = .ok (.iload_n 1, 1) := by decide +kernel
theorem dL_crashRate_4 : decode cL_crashRate 4 = .ok (.invokevirtual 127, 3) := by decide +kernel
theorem dL_crashRate_7 : decode cL_crashRate 7 = .ok (.f2d, 1) := by decide +kernel
theorem dL_crashRate_8 : decode cL_crashRate 8 = .ok (.dastore, 1) := by decide +kernel
theorem dL_crashRate_9 : decode cL_crashRate 9 = .ok (.goto 6, 3) := by decide +kernel
theorem dL_crashRate_12 : decode cL_crashRate 12 = .ok (.astore_n 3, 1) := by decide +kernel
theorem dL_crashRate_13 : decode cL_crashRate 13 = .ok (.iconst 1, 1) := by decide +kernel
theorem dL_crashRate_14 : decode cL_crashRate 14 = .ok (.ireturn, 1) := by decide +kernel
theorem dL_crashRate_15 : decode cL_crashRate 15 = .ok (.iconst 0, 1) := by decide +kernel
theorem dL_crashRate_16 : decode cL_crashRate 16 = .ok (.ireturn, 1) := by decide +kernel
theorem dL_rate_0 : decode cL_rate 0 = .ok (.aload_n 3, 1) := by decide +kernel
theorem dL_rate_1 : decode cL_rate 1 = .ok (.iconst 0, 1) := by decide +kernel
theorem dL_rate_2 : decode cL_rate 2 = .ok (.aload_n 0, 1) := by decide +kernel
theorem dL_rate_3 : decode cL_rate 3 = .ok (.iload_n 1, 1) := by decide +kernel
theorem dL_rate_4 : decode cL_rate 4 = .ok (.iload_n 2, 1) := by decide +kernel
theorem dL_rate_5 : decode cL_rate 5 = .ok (.invokevirtual 131, 3) := by decide +kernel
theorem dL_rate_8 : decode cL_rate 8 = .ok (.i2l, 1) := by decide +kernel
theorem dL_rate_9 : decode cL_rate 9 = .ok (.lastore, 1) := by decide +kernel
theorem dL_rate_10 : decode cL_rate 10 = .ok (.goto 15, 3) := by decide +kernel
theorem dL_rate_13 : decode cL_rate 13 = .ok (.astore 4, 2) := by decide +kernel
theorem dL_rate_15 : decode cL_rate 15 = .ok (.iconst 1, 1) := by decide +kernel
theorem dL_rate_16 : decode cL_rate 16 = .ok (.ireturn, 1) := by decide +kernel
theorem dL_rate_17 : decode cL_rate 17 = .ok (.astore 4, 2) := by decide +kernel
theorem dL_rate_19 : decode cL_rate 19 = .ok (.iconst 2, 1) := by decide +kernel
theorem dL_rate_20 : decode cL_rate 20 = .ok (.ireturn, 1) := by decide +kernel
theorem dL_rate_21 : decode cL_rate 21 = .ok (.astore 4, 2) := by decide +kernel
theorem dL_rate_23 : decode cL_rate 23 = .ok (.iconst 3, 1) := by decide +kernel
theorem dL_rate_24 : decode cL_rate 24 = .ok (.ireturn, 1) := by decide +kernel
theorem dL_rate_25 : decode cL_rate 25 = .ok (.iconst 0, 1) := by decide +kernel
theorem dL_rate_26 : decode cL_rate 26 = .ok (.ireturn, 1) := by decide +kernel
theorem dL_rating_0 : decode cL_rating 0 = .ok (.aload_n 2, 1) := by decide +kernel
theorem dL_rating_1 : decode cL_rating 1 = .ok (.iconst 0, 1) := by decide +kernel
theorem dL_rating_2 : decode cL_rating 2 = .ok (.aload_n 0, 1) := by decide +kernel
theorem dL_rating_3 : decode cL_rating 3 = .ok (.iload_n 1, 1) := by decide +kernel
theorem dL_rating_4 : decode cL_rating 4 = .ok (.invokevirtual 134, 3) := by decide +kernel
theorem dL_rating_7 : decode cL_rating 7 = .ok (.dastore, 1) := by decide +kernel
theorem dL_rating_8 : decode cL_rating 8 = .ok (.goto 9, 3) := by decide +kernel
theorem dL_rating_11 : decode cL_rating 11 = .ok (.astore_n 3, 1) := by decide +kernel
theorem dL_rating_12 : decode cL_rating 12 = .ok (.iconst 1, 1) := by decide +kernel
theorem dL_rating_13 : decode cL_rating 13 = .ok (.ireturn, 1) := by decide +kernel
theorem dL_rating_14 : decode cL_rating 14 = .ok (.astore_n 3, 1) := by decide +kernel
theorem dL_rating_15 : decode cL_rating 15 = .ok (.iconst 2, 1) := by decide +kernel
theorem dL_rating_16 : decode cL_rating 16 = .ok (.ireturn, 1) := by decide +kernel
theorem dL_rating_17 : decode cL_rating 17 = .ok (.iconst 0, 1) := by decide +kernel
theorem dL_rating_18 : decode cL_rating 18 = .ok (.ireturn, 1) := by decide +kernel
theorem dL_ratingBits_0 : decode cL_ratingBits 0 = .ok (.aload_n 2, 1) := by decide +kernel
theorem dL_ratingBits_1 : decode cL_ratingBits 1 = .ok (.iconst 0, 1) := by decide +kernel
theorem dL_ratingBits_2 : decode cL_ratingBits 2 = .ok (.aload_n 0, 1) := by decide +kernel
theorem dL_ratingBits_3 : decode cL_ratingBits 3 = .ok (.iload_n 1, 1) := by decide +kernel
theorem dL_ratingBits_4 : decode cL_ratingBits 4 = .ok (.invokevirtual 140, 3) := by decide +kernel
theorem dL_ratingBits_7 : decode cL_ratingBits 7 = .ok (.lastore, 1) := by decide +kernel
theorem dL_ratingBits_8 : decode cL_ratingBits 8 = .ok (.goto 9, 3) := by decide +kernel
theorem dL_ratingBits_11 : decode cL_ratingBits 11 = .ok (.astore_n 3, 1) := by decide +kernel
theorem dL_ratingBits_12 : decode cL_ratingBits 12 = .ok (.iconst 1, 1) := by decide +kernel
theorem dL_ratingBits_13 : decode cL_ratingBits 13 = .ok (.ireturn, 1) := by decide +kernel
theorem dL_ratingBits_14 : decode cL_ratingBits 14 = .ok (.astore_n 3, 1) := by decide +kernel
theorem dL_ratingBits_15 : decode cL_ratingBits 15 = .ok (.iconst 2, 1) := by decide +kernel
theorem dL_ratingBits_16 : decode cL_ratingBits 16 = .ok (.ireturn, 1) := by decide +kernel
theorem dL_ratingBits_17 : decode cL_ratingBits 17 = .ok (.iconst 0, 1) := by decide +kernel
theorem dL_ratingBits_18 : decode cL_ratingBits 18 = .ok (.ireturn, 1) := by decide +kernel
theorem dL_buy_0 : decode cL_buy 0 = .ok (.aload_n 3, 1) := by decide +kernel
theorem dL_buy_1 : decode cL_buy 1 = .ok (.iconst 0, 1) := by decide +kernel
theorem dL_buy_2 : decode cL_buy 2 = .ok (.aload_n 0, 1) := by decide +kernel
theorem dL_buy_3 : decode cL_buy 3 = .ok (.iload_n 1, 1) := by decide +kernel
theorem dL_buy_4 : decode cL_buy 4 = .ok (.iload_n 2, 1) := by decide +kernel
theorem dL_buy_5 : decode cL_buy 5 = .ok (.invokevirtual 144, 3) := by decide +kernel
theorem dL_buy_8 : decode cL_buy 8 = .ok (.i2l, 1) := by decide +kernel
theorem dL_buy_9 : decode cL_buy 9 = .ok (.lastore, 1) := by decide +kernel
theorem dL_buy_10 : decode cL_buy 10 = .ok (.goto 19, 3) := by decide +kernel
theorem dL_buy_13 : decode cL_buy 13 = .ok (.astore 4, 2) := by decide +kernel
theorem dL_buy_15 : decode cL_buy 15 = .ok (.iconst 1, 1) := by decide +kernel
theorem dL_buy_16 : decode cL_buy 16 = .ok (.ireturn, 1) := by decide +kernel
theorem dL_buy_17 : decode cL_buy 17 = .ok (.astore 4, 2) := by decide +kernel
theorem dL_buy_19 : decode cL_buy 19 = .ok (.iconst 2, 1) := by decide +kernel
theorem dL_buy_20 : decode cL_buy 20 = .ok (.ireturn, 1) := by decide +kernel
theorem dL_buy_21 : decode cL_buy 21 = .ok (.astore 4, 2) := by decide +kernel
theorem dL_buy_23 : decode cL_buy 23 = .ok (.iconst 3, 1) := by decide +kernel
theorem dL_buy_24 : decode cL_buy 24 = .ok (.ireturn, 1) := by decide +kernel
theorem dL_buy_25 : decode cL_buy 25 = .ok (.astore 4, 2) := by decide +kernel
theorem dL_buy_27 : decode cL_buy 27 = .ok (.iconst 4, 1) := by decide +kernel
theorem dL_buy_28 : decode cL_buy 28 = .ok (.ireturn, 1) := by decide +kernel
theorem dL_buy_29 : decode cL_buy 29 = .ok (.iconst 0, 1) := by decide +kernel
theorem dL_buy_30 : decode cL_buy 30 = .ok (.ireturn, 1) := by decide +kernel
theorem dL_owns_0 : decode cL_owns 0 = .ok (.aload_n 3, 1) := by decide +kernel
theorem dL_owns_1 : decode cL_owns 1 = .ok (.iconst 0, 1) := by decide +kernel
theorem dL_owns_2 : decode cL_owns 2 = .ok (.aload_n 0, 1) := by decide +kernel
theorem dL_owns_3 : decode cL_owns 3 = .ok (.iload_n 1, 1) := by decide +kernel
theorem dL_owns_4 : decode cL_owns 4 = .ok (.iload_n 2, 1) := by decide +kernel
theorem dL_owns_5 : decode cL_owns 5 = .ok (.invokevirtual 147, 3) := by decide +kernel
theorem dL_owns_8 : decode cL_owns 8 = .ok (.ifCond .eq 7, 3) := by decide +kernel
theorem dL_owns_11 : decode cL_owns 11 = .ok (.lconst 1, 1) := by decide +kernel
theorem dL_owns_12 : decode cL_owns 12 = .ok (.goto 4, 3) := by decide +kernel
theorem dL_owns_15 : decode cL_owns 15 = .ok (.lconst 0, 1) := by decide +kernel
theorem dL_owns_16 : decode cL_owns 16 = .ok (.lastore, 1) := by decide +kernel
theorem dL_owns_17 : decode cL_owns 17 = .ok (.goto 11, 3) := by decide +kernel
theorem dL_owns_20 : decode cL_owns 20 = .ok (.astore 4, 2) := by decide +kernel
theorem dL_owns_22 : decode cL_owns 22 = .ok (.iconst 1, 1) := by decide +kernel
theorem dL_owns_23 : decode cL_owns 23 = .ok (.ireturn, 1) := by decide +kernel
theorem dL_owns_24 : decode cL_owns 24 = .ok (.astore 4, 2) := by decide +kernel
theorem dL_owns_26 : decode cL_owns 26 = .ok (.iconst 2, 1) := by decide +kernel
theorem dL_owns_27 : decode cL_owns 27 = .ok (.ireturn, 1) := by decide +kernel
theorem dL_owns_28 : decode cL_owns 28 = .ok (.iconst 0, 1) := by decide +kernel
theorem dL_owns_29 : decode cL_owns 29 = .ok (.ireturn, 1) := by decide +kernel
theorem dL_canUse_0 : decode cL_canUse 0 = .ok (.aload_n 3, 1) := by decide +kernel
theorem dL_canUse_1 : decode cL_canUse 1 = .ok (.iconst 0, 1) := by decide +kernel
theorem dL_canUse_2 : decode cL_canUse 2 = .ok (.aload_n 0, 1) := by decide +kernel
theorem dL_canUse_3 : decode cL_canUse 3 = .ok (.iload_n 1, 1) := by decide +kernel
theorem dL_canUse_4 : decode cL_canUse 4 = .ok (.iload_n 2, 1) := by decide +kernel
theorem dL_canUse_5 : decode cL_canUse 5 = .ok (.invokevirtual 150, 3) := by decide +kernel
theorem dL_canUse_8 : decode cL_canUse 8 = .ok (.ifCond .eq 7, 3) := by decide +kernel
theorem dL_canUse_11 : decode cL_canUse 11 = .ok (.lconst 1, 1) := by decide +kernel
theorem dL_canUse_12 : decode cL_canUse 12 = .ok (.goto 4, 3) := by decide +kernel
theorem dL_canUse_15 : decode cL_canUse 15 = .ok (.lconst 0, 1) := by decide +kernel
theorem dL_canUse_16 : decode cL_canUse 16 = .ok (.lastore, 1) := by decide +kernel
theorem dL_canUse_17 : decode cL_canUse 17 = .ok (.goto 11, 3) := by decide +kernel
theorem dL_canUse_20 : decode cL_canUse 20 = .ok (.astore 4, 2) := by decide +kernel
theorem dL_canUse_22 : decode cL_canUse 22 = .ok (.iconst 1, 1) := by decide +kernel
theorem dL_canUse_23 : decode cL_canUse 23 = .ok (.ireturn, 1) := by decide +kernel
theorem dL_canUse_24 : decode cL_canUse 24 = .ok (.astore 4, 2) := by decide +kernel
theorem dL_canUse_26 : decode cL_canUse 26 = .ok (.iconst 2, 1) := by decide +kernel
theorem dL_canUse_27 : decode cL_canUse 27 = .ok (.ireturn, 1) := by decide +kernel
theorem dL_canUse_28 : decode cL_canUse 28 = .ok (.iconst 0, 1) := by decide +kernel
theorem dL_canUse_29 : decode cL_canUse 29 = .ok (.ireturn, 1) := by decide +kernel
theorem dL_writeBuild_0 : decode cL_writeBuild 0 = .ok (.aload_n 2, 1) := by decide +kernel
theorem dL_writeBuild_1 : decode cL_writeBuild 1 = .ok (.iconst 0, 1) := by decide +kernel
theorem dL_writeBuild_2 : decode cL_writeBuild 2 = .ok (.aload_n 0, 1) := by decide +kernel
theorem dL_writeBuild_3 : decode cL_writeBuild 3 = .ok (.iload_n 1, 1) := by decide +kernel
theorem dL_writeBuild_4 : decode cL_writeBuild 4 = .ok (.invokevirtual 153, 3) := by decide +kernel
theorem dL_writeBuild_7 : decode cL_writeBuild 7 = .ok (.i2l, 1) := by decide +kernel
theorem dL_writeBuild_8 : decode cL_writeBuild 8 = .ok (.lastore, 1) := by decide +kernel
theorem dL_writeBuild_9 : decode cL_writeBuild 9 = .ok (.goto 6, 3) := by decide +kernel
theorem dL_writeBuild_12 : decode cL_writeBuild 12 = .ok (.astore_n 3, 1) := by decide +kernel
theorem dL_writeBuild_13 : decode cL_writeBuild 13 = .ok (.iconst 1, 1) := by decide +kernel
theorem dL_writeBuild_14 : decode cL_writeBuild 14 = .ok (.ireturn, 1) := by decide +kernel
theorem dL_writeBuild_15 : decode cL_writeBuild 15 = .ok (.iconst 0, 1) := by decide +kernel
theorem dL_writeBuild_16 : decode cL_writeBuild 16 = .ok (.ireturn, 1) := by decide +kernel
theorem dL_lineAt_0 : decode cL_lineAt 0 = .ok (.aload_n 2, 1) := by decide +kernel
theorem dL_lineAt_1 : decode cL_lineAt 1 = .ok (.iconst 0, 1) := by decide +kernel
theorem dL_lineAt_2 : decode cL_lineAt 2 = .ok (.aload_n 0, 1) := by decide +kernel
theorem dL_lineAt_3 : decode cL_lineAt 3 = .ok (.iload_n 1, 1) := by decide +kernel
theorem dL_lineAt_4 : decode cL_lineAt 4 = .ok (.invokevirtual 156, 3) := by decide +kernel
theorem dL_lineAt_7 : decode cL_lineAt 7 = .ok (.i2l, 1) := by decide +kernel
theorem dL_lineAt_8 : decode cL_lineAt 8 = .ok (.lastore, 1) := by decide +kernel
theorem dL_lineAt_9 : decode cL_lineAt 9 = .ok (.goto 6, 3) := by decide +kernel
theorem dL_lineAt_12 : decode cL_lineAt 12 = .ok (.astore_n 3, 1) := by decide +kernel
theorem dL_lineAt_13 : decode cL_lineAt 13 = .ok (.iconst 1, 1) := by decide +kernel
theorem dL_lineAt_14 : decode cL_lineAt 14 = .ok (.ireturn, 1) := by decide +kernel
theorem dL_lineAt_15 : decode cL_lineAt 15 = .ok (.iconst 0, 1) := by decide +kernel
theorem dL_lineAt_16 : decode cL_lineAt 16 = .ok (.ireturn, 1) := by decide +kernel
theorem dL_usedShare_0 : decode cL_usedShare 0 = .ok (.aload_n 1, 1) := by decide +kernel
theorem dL_usedShare_1 : decode cL_usedShare 1 = .ok (.iconst 0, 1) := by decide +kernel
theorem dL_usedShare_2 : decode cL_usedShare 2 = .ok (.aload_n 0, 1) := by decide +kernel
theorem dL_usedShare_3 : decode cL_usedShare 3 = .ok (.invokevirtual 159, 3) := by decide +kernel
theorem dL_usedShare_6 : decode cL_usedShare 6 = .ok (.f2d, 1) := by decide +kernel
theorem dL_usedShare_7 : decode cL_usedShare 7 = .ok (.dastore, 1) := by decide +kernel
theorem dL_usedShare_8 : decode cL_usedShare 8 = .ok (.goto 6, 3) := by decide +kernel
theorem dL_usedShare_11 : decode cL_usedShare 11 = .ok (.astore_n 2, 1) := by decide +kernel
theorem dL_usedShare_12 : decode cL_usedShare 12 = .ok (.iconst 1, 1) := by decide +kernel
theorem dL_usedShare_13 : decode cL_usedShare 13 = .ok (.ireturn, 1) := by decide +kernel
theorem dL_usedShare_14 : decode cL_usedShare 14 = .ok (.iconst 0, 1) := by decide +kernel
theorem dL_usedShare_15 : decode cL_usedShare 15 = .ok (.ireturn, 1) := by decide +kernel
theorem dL_law_0 : decode cL_law 0 = .ok (.new 8, 3) := by decide +kernel
theorem dL_law_3 : decode cL_law 3 = .ok (.dup, 1) := by decide +kernel
theorem dL_law_4 : decode cL_law 4 = .ok (.invokespecial 163, 3) := by decide +kernel
theorem dL_law_7 : decode cL_law 7 = .ok (.astore_n 1, 1) := by decide +kernel
theorem dL_law_8 : decode cL_law 8 = .ok (.new 164, 3) := by decide +kernel
theorem dL_law_11 : decode cL_law 11 = .ok (.dup, 1) := by decide +kernel
theorem dL_law_12 : decode cL_law 12 = .ok (.invokespecial 166, 3) := by decide +kernel
theorem dL_law_15 : decode cL_law 15 = .ok (.astore_n 2, 1) := by decide +kernel
theorem dL_law_16 : decode cL_law 16 = .ok (.iconst 1, 1) := by decide +kernel
theorem dL_law_17 : decode cL_law 17 = .ok (.newarray .long, 2) := by decide +kernel
theorem dL_law_19 : decode cL_law 19 = .ok (.astore_n 3, 1) := by decide +kernel
theorem dL_law_20 : decode cL_law 20 = .ok (.iconst 1, 1) := by decide +kernel
theorem dL_law_21 : decode cL_law 21 = .ok (.newarray .double, 2) := by decide +kernel
theorem dL_law_23 : decode cL_law 23 = .ok (.astore 4, 2) := by decide +kernel
theorem dL_law_25 : decode cL_law 25 = .ok (.iconst 0, 1) := by decide +kernel
theorem dL_law_26 : decode cL_law 26 = .ok (.istore 5, 2) := by decide +kernel
theorem dL_law_28 : decode cL_law 28 = .ok (.iload 5, 2) := by decide +kernel
theorem dL_law_30 : decode cL_law 30 = .ok (.aload_n 0, 1) := by decide +kernel
theorem dL_law_31 : decode cL_law 31 = .ok (.arraylength, 1) := by decide +kernel
theorem dL_law_32 : decode cL_law 32 = .ok (.bipush 7, 2) := by decide +kernel
theorem dL_law_34 : decode cL_law 34 = .ok (.isub, 1) := by decide +kernel
theorem dL_law_35 : decode cL_law 35 = .ok (.if_icmp .gt 2888, 3) := by decide +kernel
theorem dL_law_38 : decode cL_law 38 = .ok (.aload_n 0, 1) := by decide +kernel
theorem dL_law_39 : decode cL_law 39 = .ok (.iload 5, 2) := by decide +kernel
theorem dL_law_41 : decode cL_law 41 = .ok (.iaload, 1) := by decide +kernel
theorem dL_law_42 : decode cL_law 42 = .ok (.bipush 63, 2) := by decide +kernel
theorem dL_law_44 : decode cL_law 44 = .ok (.iand, 1) := by decide +kernel
theorem dL_law_45 : decode cL_law 45 = .ok (.tableswitch 2872 0 43 #[191, 271, 389, 481, 537, 581, 625, 681, 737, 793, 849, 929, 985, 1053, 1109, 1165, 1240, 1296, 1352, 1408, 1464, 1520, 1576, 1632, 1690, 1746, 1759, 1815, 1883, 1973, 2029, 2073, 2129, 2185, 2263, 2331, 2408, 2463, 2531, 2606, 2681, 2694, 2750, 2806], 191) := by decide +kernel
theorem dL_law_236 : decode cL_law 236 = .ok (.aload_n 1, 1) := by decide +kernel
theorem dL_law_237 : decode cL_law 237 = .ok (.aload_n 0, 1) := by decide +kernel
theorem dL_law_238 : decode cL_law 238 = .ok (.iload 5, 2) := by decide +kernel
theorem dL_law_240 : decode cL_law 240 = .ok (.iconst 1, 1) := by decide +kernel
theorem dL_law_241 : decode cL_law 241 = .ok (.iadd, 1) := by decide +kernel
theorem dL_law_242 : decode cL_law 242 = .ok (.iaload, 1) := by decide +kernel
theorem dL_law_243 : decode cL_law 243 = .ok (.aload_n 0, 1) := by decide +kernel
theorem dL_law_244 : decode cL_law 244 = .ok (.iload 5, 2) := by decide +kernel
theorem dL_law_246 : decode cL_law 246 = .ok (.iconst 2, 1) := by decide +kernel
theorem dL_law_247 : decode cL_law 247 = .ok (.iadd, 1) := by decide +kernel
theorem dL_law_248 : decode cL_law 248 = .ok (.iaload, 1) := by decide +kernel
theorem dL_law_249 : decode cL_law 249 = .ok (.aload_n 0, 1) := by decide +kernel
theorem dL_law_250 : decode cL_law 250 = .ok (.iload 5, 2) := by decide +kernel
theorem dL_law_252 : decode cL_law 252 = .ok (.iconst 3, 1) := by decide +kernel
theorem dL_law_253 : decode cL_law 253 = .ok (.iadd, 1) := by decide +kernel
theorem dL_law_254 : decode cL_law 254 = .ok (.iaload, 1) := by decide +kernel
theorem dL_law_255 : decode cL_law 255 = .ok (.aload_n 3, 1) := by decide +kernel
theorem dL_law_256 : decode cL_law 256 = .ok (.invokestatic 167, 3) := by decide +kernel
theorem dL_law_259 : decode cL_law 259 = .ok (.istore 6, 2) := by decide +kernel
theorem dL_law_261 : decode cL_law 261 = .ok (.aload_n 2, 1) := by decide +kernel
theorem dL_law_262 : decode cL_law 262 = .ok (.aload_n 0, 1) := by decide +kernel
theorem dL_law_263 : decode cL_law 263 = .ok (.iload 5, 2) := by decide +kernel
theorem dL_law_265 : decode cL_law 265 = .ok (.iconst 1, 1) := by decide +kernel
theorem dL_law_266 : decode cL_law 266 = .ok (.iadd, 1) := by decide +kernel
theorem dL_law_267 : decode cL_law 267 = .ok (.iaload, 1) := by decide +kernel
theorem dL_law_268 : decode cL_law 268 = .ok (.aload_n 0, 1) := by decide +kernel
theorem dL_law_269 : decode cL_law 269 = .ok (.iload 5, 2) := by decide +kernel
theorem dL_law_271 : decode cL_law 271 = .ok (.iconst 2, 1) := by decide +kernel
theorem dL_law_272 : decode cL_law 272 = .ok (.iadd, 1) := by decide +kernel
theorem dL_law_273 : decode cL_law 273 = .ok (.iaload, 1) := by decide +kernel
theorem dL_law_274 : decode cL_law 274 = .ok (.aload_n 0, 1) := by decide +kernel
theorem dL_law_275 : decode cL_law 275 = .ok (.iload 5, 2) := by decide +kernel
theorem dL_law_277 : decode cL_law 277 = .ok (.iconst 3, 1) := by decide +kernel
theorem dL_law_278 : decode cL_law 278 = .ok (.iadd, 1) := by decide +kernel
theorem dL_law_279 : decode cL_law 279 = .ok (.iaload, 1) := by decide +kernel
theorem dL_law_280 : decode cL_law 280 = .ok (.invokevirtual 172, 3) := by decide +kernel
theorem dL_law_283 : decode cL_law 283 = .ok (.istore 7, 2) := by decide +kernel
theorem dL_law_285 : decode cL_law 285 = .ok (.aload_n 2, 1) := by decide +kernel
theorem dL_law_286 : decode cL_law 286 = .ok (.invokevirtual 173, 3) := by decide +kernel
theorem dL_law_289 : decode cL_law 289 = .ok (.iload 6, 2) := by decide +kernel
theorem dL_law_291 : decode cL_law 291 = .ok (.if_icmp .eq 5, 3) := by decide +kernel
theorem dL_law_294 : decode cL_law 294 = .ok (.iconst 0, 1) := by decide +kernel
theorem dL_law_295 : decode cL_law 295 = .ok (.ireturn, 1) := by decide +kernel
theorem dL_law_296 : decode cL_law 296 = .ok (.iload 6, 2) := by decide +kernel
theorem dL_law_298 : decode cL_law 298 = .ok (.ifCond .ne 15, 3) := by decide +kernel
theorem dL_law_301 : decode cL_law 301 = .ok (.aload_n 3, 1) := by decide +kernel
theorem dL_law_302 : decode cL_law 302 = .ok (.iconst 0, 1) := by decide +kernel
theorem dL_law_303 : decode cL_law 303 = .ok (.laload, 1) := by decide +kernel
theorem dL_law_304 : decode cL_law 304 = .ok (.iload 7, 2) := by decide +kernel
theorem dL_law_306 : decode cL_law 306 = .ok (.i2l, 1) := by decide +kernel
theorem dL_law_307 : decode cL_law 307 = .ok (.lcmp, 1) := by decide +kernel
theorem dL_law_308 : decode cL_law 308 = .ok (.ifCond .eq 5, 3) := by decide +kernel
theorem dL_law_311 : decode cL_law 311 = .ok (.iconst 0, 1) := by decide +kernel
theorem dL_law_312 : decode cL_law 312 = .ok (.ireturn, 1) := by decide +kernel
theorem dL_law_313 : decode cL_law 313 = .ok (.goto 2604, 3) := by decide +kernel
theorem dL_law_316 : decode cL_law 316 = .ok (.aload_n 1, 1) := by decide +kernel
theorem dL_law_317 : decode cL_law 317 = .ok (.aload_n 0, 1) := by decide +kernel
theorem dL_law_318 : decode cL_law 318 = .ok (.iload 5, 2) := by decide +kernel
theorem dL_law_320 : decode cL_law 320 = .ok (.iconst 1, 1) := by decide +kernel
theorem dL_law_321 : decode cL_law 321 = .ok (.iadd, 1) := by decide +kernel
theorem dL_law_322 : decode cL_law 322 = .ok (.iaload, 1) := by decide +kernel
theorem dL_law_323 : decode cL_law 323 = .ok (.aload_n 0, 1) := by decide +kernel
theorem dL_law_324 : decode cL_law 324 = .ok (.iload 5, 2) := by decide +kernel
theorem dL_law_326 : decode cL_law 326 = .ok (.iconst 2, 1) := by decide +kernel
theorem dL_law_327 : decode cL_law 327 = .ok (.iadd, 1) := by decide +kernel
theorem dL_law_328 : decode cL_law 328 = .ok (.iaload, 1) := by decide +kernel
theorem dL_law_329 : decode cL_law 329 = .ok (.aload_n 0, 1) := by decide +kernel
theorem dL_law_330 : decode cL_law 330 = .ok (.iload 5, 2) := by decide +kernel
theorem dL_law_332 : decode cL_law 332 = .ok (.iconst 3, 1) := by decide +kernel
theorem dL_law_333 : decode cL_law 333 = .ok (.iadd, 1) := by decide +kernel
theorem dL_law_334 : decode cL_law 334 = .ok (.iaload, 1) := by decide +kernel
theorem dL_law_335 : decode cL_law 335 = .ok (.aload_n 0, 1) := by decide +kernel
theorem dL_law_336 : decode cL_law 336 = .ok (.iload 5, 2) := by decide +kernel
theorem dL_law_338 : decode cL_law 338 = .ok (.iconst 4, 1) := by decide +kernel
theorem dL_law_339 : decode cL_law 339 = .ok (.iadd, 1) := by decide +kernel
theorem dL_law_340 : decode cL_law 340 = .ok (.iaload, 1) := by decide +kernel
theorem dL_law_341 : decode cL_law 341 = .ok (.aload_n 0, 1) := by decide +kernel
theorem dL_law_342 : decode cL_law 342 = .ok (.iload 5, 2) := by decide +kernel
theorem dL_law_344 : decode cL_law 344 = .ok (.iconst 5, 1) := by decide +kernel
theorem dL_law_345 : decode cL_law 345 = .ok (.iadd, 1) := by decide +kernel
theorem dL_law_346 : decode cL_law 346 = .ok (.iaload, 1) := by decide +kernel
theorem dL_law_347 : decode cL_law 347 = .ok (.aload_n 0, 1) := by decide +kernel
theorem dL_law_348 : decode cL_law 348 = .ok (.iload 5, 2) := by decide +kernel
theorem dL_law_350 : decode cL_law 350 = .ok (.bipush 6, 2) := by decide +kernel
theorem dL_law_352 : decode cL_law 352 = .ok (.iadd, 1) := by decide +kernel
theorem dL_law_353 : decode cL_law 353 = .ok (.iaload, 1) := by decide +kernel
theorem dL_law_354 : decode cL_law 354 = .ok (.aload_n 3, 1) := by decide +kernel
theorem dL_law_355 : decode cL_law 355 = .ok (.invokestatic 176, 3) := by decide +kernel
theorem dL_law_358 : decode cL_law 358 = .ok (.istore 6, 2) := by decide +kernel
theorem dL_law_360 : decode cL_law 360 = .ok (.aload_n 2, 1) := by decide +kernel
theorem dL_law_361 : decode cL_law 361 = .ok (.aload_n 0, 1) := by decide +kernel
theorem dL_law_362 : decode cL_law 362 = .ok (.iload 5, 2) := by decide +kernel
theorem dL_law_364 : decode cL_law 364 = .ok (.iconst 1, 1) := by decide +kernel
theorem dL_law_365 : decode cL_law 365 = .ok (.iadd, 1) := by decide +kernel
theorem dL_law_366 : decode cL_law 366 = .ok (.iaload, 1) := by decide +kernel
theorem dL_law_367 : decode cL_law 367 = .ok (.aload_n 0, 1) := by decide +kernel
theorem dL_law_368 : decode cL_law 368 = .ok (.iload 5, 2) := by decide +kernel
theorem dL_law_370 : decode cL_law 370 = .ok (.iconst 2, 1) := by decide +kernel
theorem dL_law_371 : decode cL_law 371 = .ok (.iadd, 1) := by decide +kernel
theorem dL_law_372 : decode cL_law 372 = .ok (.iaload, 1) := by decide +kernel
theorem dL_law_373 : decode cL_law 373 = .ok (.aload_n 0, 1) := by decide +kernel
theorem dL_law_374 : decode cL_law 374 = .ok (.iload 5, 2) := by decide +kernel
theorem dL_law_376 : decode cL_law 376 = .ok (.iconst 3, 1) := by decide +kernel
theorem dL_law_377 : decode cL_law 377 = .ok (.iadd, 1) := by decide +kernel
theorem dL_law_378 : decode cL_law 378 = .ok (.iaload, 1) := by decide +kernel
theorem dL_law_379 : decode cL_law 379 = .ok (.aload_n 0, 1) := by decide +kernel
theorem dL_law_380 : decode cL_law 380 = .ok (.iload 5, 2) := by decide +kernel
theorem dL_law_382 : decode cL_law 382 = .ok (.iconst 4, 1) := by decide +kernel
theorem dL_law_383 : decode cL_law 383 = .ok (.iadd, 1) := by decide +kernel
theorem dL_law_384 : decode cL_law 384 = .ok (.iaload, 1) := by decide +kernel
theorem dL_law_385 : decode cL_law 385 = .ok (.aload_n 0, 1) := by decide +kernel
theorem dL_law_386 : decode cL_law 386 = .ok (.iload 5, 2) := by decide +kernel
theorem dL_law_388 : decode cL_law 388 = .ok (.iconst 5, 1) := by decide +kernel
theorem dL_law_389 : decode cL_law 389 = .ok (.iadd, 1) := by decide +kernel
theorem dL_law_390 : decode cL_law 390 = .ok (.iaload, 1) := by decide +kernel
theorem dL_law_391 : decode cL_law 391 = .ok (.aload_n 0, 1) := by decide +kernel
theorem dL_law_392 : decode cL_law 392 = .ok (.iload 5, 2) := by decide +kernel
theorem dL_law_394 : decode cL_law 394 = .ok (.bipush 6, 2) := by decide +kernel
theorem dL_law_396 : decode cL_law 396 = .ok (.iadd, 1) := by decide +kernel
theorem dL_law_397 : decode cL_law 397 = .ok (.iaload, 1) := by decide +kernel
theorem dL_law_398 : decode cL_law 398 = .ok (.invokevirtual 179, 3) := by decide +kernel
theorem dL_law_401 : decode cL_law 401 = .ok (.istore 7, 2) := by decide +kernel
theorem dL_law_403 : decode cL_law 403 = .ok (.aload_n 2, 1) := by decide +kernel
theorem dL_law_404 : decode cL_law 404 = .ok (.invokevirtual 173, 3) := by decide +kernel
theorem dL_law_407 : decode cL_law 407 = .ok (.iload 6, 2) := by decide +kernel
theorem dL_law_409 : decode cL_law 409 = .ok (.if_icmp .eq 5, 3) := by decide +kernel
theorem dL_law_412 : decode cL_law 412 = .ok (.iconst 0, 1) := by decide +kernel
theorem dL_law_413 : decode cL_law 413 = .ok (.ireturn, 1) := by decide +kernel
theorem dL_law_414 : decode cL_law 414 = .ok (.iload 6, 2) := by decide +kernel
theorem dL_law_416 : decode cL_law 416 = .ok (.ifCond .ne 15, 3) := by decide +kernel
theorem dL_law_419 : decode cL_law 419 = .ok (.aload_n 3, 1) := by decide +kernel
theorem dL_law_420 : decode cL_law 420 = .ok (.iconst 0, 1) := by decide +kernel
theorem dL_law_421 : decode cL_law 421 = .ok (.laload, 1) := by decide +kernel
theorem dL_law_422 : decode cL_law 422 = .ok (.iload 7, 2) := by decide +kernel
theorem dL_law_424 : decode cL_law 424 = .ok (.i2l, 1) := by decide +kernel
theorem dL_law_425 : decode cL_law 425 = .ok (.lcmp, 1) := by decide +kernel
theorem dL_law_426 : decode cL_law 426 = .ok (.ifCond .eq 5, 3) := by decide +kernel
theorem dL_law_429 : decode cL_law 429 = .ok (.iconst 0, 1) := by decide +kernel
theorem dL_law_430 : decode cL_law 430 = .ok (.ireturn, 1) := by decide +kernel
theorem dL_law_431 : decode cL_law 431 = .ok (.goto 2486, 3) := by decide +kernel
theorem dL_law_434 : decode cL_law 434 = .ok (.aload_n 1, 1) := by decide +kernel
theorem dL_law_435 : decode cL_law 435 = .ok (.aload_n 0, 1) := by decide +kernel
theorem dL_law_436 : decode cL_law 436 = .ok (.iload 5, 2) := by decide +kernel
theorem dL_law_438 : decode cL_law 438 = .ok (.iconst 1, 1) := by decide +kernel
theorem dL_law_439 : decode cL_law 439 = .ok (.iadd, 1) := by decide +kernel
theorem dL_law_440 : decode cL_law 440 = .ok (.iaload, 1) := by decide +kernel
theorem dL_law_441 : decode cL_law 441 = .ok (.aload_n 0, 1) := by decide +kernel
theorem dL_law_442 : decode cL_law 442 = .ok (.iload 5, 2) := by decide +kernel
theorem dL_law_444 : decode cL_law 444 = .ok (.iconst 2, 1) := by decide +kernel
theorem dL_law_445 : decode cL_law 445 = .ok (.iadd, 1) := by decide +kernel
theorem dL_law_446 : decode cL_law 446 = .ok (.iaload, 1) := by decide +kernel
theorem dL_law_447 : decode cL_law 447 = .ok (.aload_n 0, 1) := by decide +kernel
theorem dL_law_448 : decode cL_law 448 = .ok (.iload 5, 2) := by decide +kernel
theorem dL_law_450 : decode cL_law 450 = .ok (.iconst 3, 1) := by decide +kernel
theorem dL_law_451 : decode cL_law 451 = .ok (.iadd, 1) := by decide +kernel
theorem dL_law_452 : decode cL_law 452 = .ok (.iaload, 1) := by decide +kernel
theorem dL_law_453 : decode cL_law 453 = .ok (.aload_n 0, 1) := by decide +kernel
theorem dL_law_454 : decode cL_law 454 = .ok (.iload 5, 2) := by decide +kernel
theorem dL_law_456 : decode cL_law 456 = .ok (.iconst 4, 1) := by decide +kernel
theorem dL_law_457 : decode cL_law 457 = .ok (.iadd, 1) := by decide +kernel
theorem dL_law_458 : decode cL_law 458 = .ok (.iaload, 1) := by decide +kernel
theorem dL_law_459 : decode cL_law 459 = .ok (.aload_n 3, 1) := by decide +kernel
theorem dL_law_460 : decode cL_law 460 = .ok (.invokestatic 180, 3) := by decide +kernel
theorem dL_law_463 : decode cL_law 463 = .ok (.istore 6, 2) := by decide +kernel
theorem dL_law_465 : decode cL_law 465 = .ok (.aload_n 2, 1) := by decide +kernel
theorem dL_law_466 : decode cL_law 466 = .ok (.aload_n 0, 1) := by decide +kernel
theorem dL_law_467 : decode cL_law 467 = .ok (.iload 5, 2) := by decide +kernel
theorem dL_law_469 : decode cL_law 469 = .ok (.iconst 1, 1) := by decide +kernel
theorem dL_law_470 : decode cL_law 470 = .ok (.iadd, 1) := by decide +kernel
theorem dL_law_471 : decode cL_law 471 = .ok (.iaload, 1) := by decide +kernel
theorem dL_law_472 : decode cL_law 472 = .ok (.aload_n 0, 1) := by decide +kernel
theorem dL_law_473 : decode cL_law 473 = .ok (.iload 5, 2) := by decide +kernel
theorem dL_law_475 : decode cL_law 475 = .ok (.iconst 2, 1) := by decide +kernel
theorem dL_law_476 : decode cL_law 476 = .ok (.iadd, 1) := by decide +kernel
theorem dL_law_477 : decode cL_law 477 = .ok (.iaload, 1) := by decide +kernel
theorem dL_law_478 : decode cL_law 478 = .ok (.aload_n 0, 1) := by decide +kernel
theorem dL_law_479 : decode cL_law 479 = .ok (.iload 5, 2) := by decide +kernel
theorem dL_law_481 : decode cL_law 481 = .ok (.iconst 3, 1) := by decide +kernel
theorem dL_law_482 : decode cL_law 482 = .ok (.iadd, 1) := by decide +kernel
theorem dL_law_483 : decode cL_law 483 = .ok (.iaload, 1) := by decide +kernel
theorem dL_law_484 : decode cL_law 484 = .ok (.aload_n 0, 1) := by decide +kernel
theorem dL_law_485 : decode cL_law 485 = .ok (.iload 5, 2) := by decide +kernel
theorem dL_law_487 : decode cL_law 487 = .ok (.iconst 4, 1) := by decide +kernel
theorem dL_law_488 : decode cL_law 488 = .ok (.iadd, 1) := by decide +kernel
theorem dL_law_489 : decode cL_law 489 = .ok (.iaload, 1) := by decide +kernel
theorem dL_law_490 : decode cL_law 490 = .ok (.invokevirtual 183, 3) := by decide +kernel
theorem dL_law_493 : decode cL_law 493 = .ok (.istore 7, 2) := by decide +kernel
theorem dL_law_495 : decode cL_law 495 = .ok (.aload_n 2, 1) := by decide +kernel
theorem dL_law_496 : decode cL_law 496 = .ok (.invokevirtual 173, 3) := by decide +kernel
theorem dL_law_499 : decode cL_law 499 = .ok (.iload 6, 2) := by decide +kernel
theorem dL_law_501 : decode cL_law 501 = .ok (.if_icmp .eq 5, 3) := by decide +kernel
theorem dL_law_504 : decode cL_law 504 = .ok (.iconst 0, 1) := by decide +kernel
theorem dL_law_505 : decode cL_law 505 = .ok (.ireturn, 1) := by decide +kernel
theorem dL_law_506 : decode cL_law 506 = .ok (.iload 6, 2) := by decide +kernel
theorem dL_law_508 : decode cL_law 508 = .ok (.ifCond .ne 15, 3) := by decide +kernel
theorem dL_law_511 : decode cL_law 511 = .ok (.aload_n 3, 1) := by decide +kernel
theorem dL_law_512 : decode cL_law 512 = .ok (.iconst 0, 1) := by decide +kernel
theorem dL_law_513 : decode cL_law 513 = .ok (.laload, 1) := by decide +kernel
theorem dL_law_514 : decode cL_law 514 = .ok (.iload 7, 2) := by decide +kernel
theorem dL_law_516 : decode cL_law 516 = .ok (.i2l, 1) := by decide +kernel
theorem dL_law_517 : decode cL_law 517 = .ok (.lcmp, 1) := by decide +kernel
theorem dL_law_518 : decode cL_law 518 = .ok (.ifCond .eq 5, 3) := by decide +kernel
theorem dL_law_521 : decode cL_law 521 = .ok (.iconst 0, 1) := by decide +kernel
theorem dL_law_522 : decode cL_law 522 = .ok (.ireturn, 1) := by decide +kernel
theorem dL_law_523 : decode cL_law 523 = .ok (.goto 2394, 3) := by decide +kernel
theorem dL_law_526 : decode cL_law 526 = .ok (.aload_n 1, 1) := by decide +kernel
theorem dL_law_527 : decode cL_law 527 = .ok (.aload_n 0, 1) := by decide +kernel
theorem dL_law_528 : decode cL_law 528 = .ok (.iload 5, 2) := by decide +kernel
theorem dL_law_530 : decode cL_law 530 = .ok (.iconst 1, 1) := by decide +kernel
theorem dL_law_531 : decode cL_law 531 = .ok (.iadd, 1) := by decide +kernel
theorem dL_law_532 : decode cL_law 532 = .ok (.iaload, 1) := by decide +kernel
theorem dL_law_533 : decode cL_law 533 = .ok (.aload_n 3, 1) := by decide +kernel
theorem dL_law_534 : decode cL_law 534 = .ok (.invokestatic 184, 3) := by decide +kernel
theorem dL_law_537 : decode cL_law 537 = .ok (.istore 6, 2) := by decide +kernel
theorem dL_law_539 : decode cL_law 539 = .ok (.aload_n 2, 1) := by decide +kernel
theorem dL_law_540 : decode cL_law 540 = .ok (.aload_n 0, 1) := by decide +kernel
theorem dL_law_541 : decode cL_law 541 = .ok (.iload 5, 2) := by decide +kernel
theorem dL_law_543 : decode cL_law 543 = .ok (.iconst 1, 1) := by decide +kernel
theorem dL_law_544 : decode cL_law 544 = .ok (.iadd, 1) := by decide +kernel
theorem dL_law_545 : decode cL_law 545 = .ok (.iaload, 1) := by decide +kernel
theorem dL_law_546 : decode cL_law 546 = .ok (.invokevirtual 187, 3) := by decide +kernel
theorem dL_law_549 : decode cL_law 549 = .ok (.istore 7, 2) := by decide +kernel
theorem dL_law_551 : decode cL_law 551 = .ok (.aload_n 2, 1) := by decide +kernel
theorem dL_law_552 : decode cL_law 552 = .ok (.invokevirtual 173, 3) := by decide +kernel
theorem dL_law_555 : decode cL_law 555 = .ok (.iload 6, 2) := by decide +kernel
theorem dL_law_557 : decode cL_law 557 = .ok (.if_icmp .eq 5, 3) := by decide +kernel
theorem dL_law_560 : decode cL_law 560 = .ok (.iconst 0, 1) := by decide +kernel
theorem dL_law_561 : decode cL_law 561 = .ok (.ireturn, 1) := by decide +kernel
theorem dL_law_562 : decode cL_law 562 = .ok (.iload 6, 2) := by decide +kernel
theorem dL_law_564 : decode cL_law 564 = .ok (.ifCond .ne 15, 3) := by decide +kernel
theorem dL_law_567 : decode cL_law 567 = .ok (.aload_n 3, 1) := by decide +kernel
theorem dL_law_568 : decode cL_law 568 = .ok (.iconst 0, 1) := by decide +kernel
theorem dL_law_569 : decode cL_law 569 = .ok (.laload, 1) := by decide +kernel
theorem dL_law_570 : decode cL_law 570 = .ok (.iload 7, 2) := by decide +kernel
theorem dL_law_572 : decode cL_law 572 = .ok (.i2l, 1) := by decide +kernel
theorem dL_law_573 : decode cL_law 573 = .ok (.lcmp, 1) := by decide +kernel
theorem dL_law_574 : decode cL_law 574 = .ok (.ifCond .eq 5, 3) := by decide +kernel
theorem dL_law_577 : decode cL_law 577 = .ok (.iconst 0, 1) := by decide +kernel
theorem dL_law_578 : decode cL_law 578 = .ok (.ireturn, 1) := by decide +kernel
theorem dL_law_579 : decode cL_law 579 = .ok (.goto 2338, 3) := by decide +kernel
theorem dL_law_582 : decode cL_law 582 = .ok (.aload_n 1, 1) := by decide +kernel
theorem dL_law_583 : decode cL_law 583 = .ok (.aload_n 3, 1) := by decide +kernel
theorem dL_law_584 : decode cL_law 584 = .ok (.invokestatic 188, 3) := by decide +kernel
theorem dL_law_587 : decode cL_law 587 = .ok (.istore 6, 2) := by decide +kernel
theorem dL_law_589 : decode cL_law 589 = .ok (.aload_n 2, 1) := by decide +kernel
theorem dL_law_590 : decode cL_law 590 = .ok (.invokevirtual 191, 3) := by decide +kernel
theorem dL_law_593 : decode cL_law 593 = .ok (.istore 7, 2) := by decide +kernel
theorem dL_law_595 : decode cL_law 595 = .ok (.aload_n 2, 1) := by decide +kernel
theorem dL_law_596 : decode cL_law 596 = .ok (.invokevirtual 173, 3) := by decide +kernel
theorem dL_law_599 : decode cL_law 599 = .ok (.iload 6, 2) := by decide +kernel
theorem dL_law_601 : decode cL_law 601 = .ok (.if_icmp .eq 5, 3) := by decide +kernel
theorem dL_law_604 : decode cL_law 604 = .ok (.iconst 0, 1) := by decide +kernel
theorem dL_law_605 : decode cL_law 605 = .ok (.ireturn, 1) := by decide +kernel
theorem dL_law_606 : decode cL_law 606 = .ok (.iload 6, 2) := by decide +kernel
theorem dL_law_608 : decode cL_law 608 = .ok (.ifCond .ne 15, 3) := by decide +kernel
theorem dL_law_611 : decode cL_law 611 = .ok (.aload_n 3, 1) := by decide +kernel
theorem dL_law_612 : decode cL_law 612 = .ok (.iconst 0, 1) := by decide +kernel
theorem dL_law_613 : decode cL_law 613 = .ok (.laload, 1) := by decide +kernel
theorem dL_law_614 : decode cL_law 614 = .ok (.iload 7, 2) := by decide +kernel
theorem dL_law_616 : decode cL_law 616 = .ok (.i2l, 1) := by decide +kernel
theorem dL_law_617 : decode cL_law 617 = .ok (.lcmp, 1) := by decide +kernel
theorem dL_law_618 : decode cL_law 618 = .ok (.ifCond .eq 5, 3) := by decide +kernel
theorem dL_law_621 : decode cL_law 621 = .ok (.iconst 0, 1) := by decide +kernel
theorem dL_law_622 : decode cL_law 622 = .ok (.ireturn, 1) := by decide +kernel
theorem dL_law_623 : decode cL_law 623 = .ok (.goto 2294, 3) := by decide +kernel
theorem dL_law_626 : decode cL_law 626 = .ok (.aload_n 1, 1) := by decide +kernel
theorem dL_law_627 : decode cL_law 627 = .ok (.aload_n 3, 1) := by decide +kernel
theorem dL_law_628 : decode cL_law 628 = .ok (.invokestatic 192, 3) := by decide +kernel
theorem dL_law_631 : decode cL_law 631 = .ok (.istore 6, 2) := by decide +kernel
theorem dL_law_633 : decode cL_law 633 = .ok (.aload_n 2, 1) := by decide +kernel
theorem dL_law_634 : decode cL_law 634 = .ok (.invokevirtual 194, 3) := by decide +kernel
theorem dL_law_637 : decode cL_law 637 = .ok (.istore 7, 2) := by decide +kernel
theorem dL_law_639 : decode cL_law 639 = .ok (.aload_n 2, 1) := by decide +kernel
theorem dL_law_640 : decode cL_law 640 = .ok (.invokevirtual 173, 3) := by decide +kernel
theorem dL_law_643 : decode cL_law 643 = .ok (.iload 6, 2) := by decide +kernel
theorem dL_law_645 : decode cL_law 645 = .ok (.if_icmp .eq 5, 3) := by decide +kernel
theorem dL_law_648 : decode cL_law 648 = .ok (.iconst 0, 1) := by decide +kernel
theorem dL_law_649 : decode cL_law 649 = .ok (.ireturn, 1) := by decide +kernel
theorem dL_law_650 : decode cL_law 650 = .ok (.iload 6, 2) := by decide +kernel
theorem dL_law_652 : decode cL_law 652 = .ok (.ifCond .ne 15, 3) := by decide +kernel
theorem dL_law_655 : decode cL_law 655 = .ok (.aload_n 3, 1) := by decide +kernel
theorem dL_law_656 : decode cL_law 656 = .ok (.iconst 0, 1) := by decide +kernel
theorem dL_law_657 : decode cL_law 657 = .ok (.laload, 1) := by decide +kernel
theorem dL_law_658 : decode cL_law 658 = .ok (.iload 7, 2) := by decide +kernel
theorem dL_law_660 : decode cL_law 660 = .ok (.i2l, 1) := by decide +kernel
theorem dL_law_661 : decode cL_law 661 = .ok (.lcmp, 1) := by decide +kernel
theorem dL_law_662 : decode cL_law 662 = .ok (.ifCond .eq 5, 3) := by decide +kernel
theorem dL_law_665 : decode cL_law 665 = .ok (.iconst 0, 1) := by decide +kernel
theorem dL_law_666 : decode cL_law 666 = .ok (.ireturn, 1) := by decide +kernel
theorem dL_law_667 : decode cL_law 667 = .ok (.goto 2250, 3) := by decide +kernel
theorem dL_law_670 : decode cL_law 670 = .ok (.aload_n 1, 1) := by decide +kernel
theorem dL_law_671 : decode cL_law 671 = .ok (.aload_n 0, 1) := by decide +kernel
theorem dL_law_672 : decode cL_law 672 = .ok (.iload 5, 2) := by decide +kernel
theorem dL_law_674 : decode cL_law 674 = .ok (.iconst 1, 1) := by decide +kernel
theorem dL_law_675 : decode cL_law 675 = .ok (.iadd, 1) := by decide +kernel
theorem dL_law_676 : decode cL_law 676 = .ok (.iaload, 1) := by decide +kernel
theorem dL_law_677 : decode cL_law 677 = .ok (.aload_n 3, 1) := by decide +kernel
theorem dL_law_678 : decode cL_law 678 = .ok (.invokestatic 195, 3) := by decide +kernel
theorem dL_law_681 : decode cL_law 681 = .ok (.istore 6, 2) := by decide +kernel
theorem dL_law_683 : decode cL_law 683 = .ok (.aload_n 2, 1) := by decide +kernel
theorem dL_law_684 : decode cL_law 684 = .ok (.aload_n 0, 1) := by decide +kernel
theorem dL_law_685 : decode cL_law 685 = .ok (.iload 5, 2) := by decide +kernel
theorem dL_law_687 : decode cL_law 687 = .ok (.iconst 1, 1) := by decide +kernel
theorem dL_law_688 : decode cL_law 688 = .ok (.iadd, 1) := by decide +kernel
theorem dL_law_689 : decode cL_law 689 = .ok (.iaload, 1) := by decide +kernel
theorem dL_law_690 : decode cL_law 690 = .ok (.invokevirtual 197, 3) := by decide +kernel
theorem dL_law_693 : decode cL_law 693 = .ok (.istore 7, 2) := by decide +kernel
theorem dL_law_695 : decode cL_law 695 = .ok (.aload_n 2, 1) := by decide +kernel
theorem dL_law_696 : decode cL_law 696 = .ok (.invokevirtual 173, 3) := by decide +kernel
theorem dL_law_699 : decode cL_law 699 = .ok (.iload 6, 2) := by decide +kernel
theorem dL_law_701 : decode cL_law 701 = .ok (.if_icmp .eq 5, 3) := by decide +kernel
theorem dL_law_704 : decode cL_law 704 = .ok (.iconst 0, 1) := by decide +kernel
theorem dL_law_705 : decode cL_law 705 = .ok (.ireturn, 1) := by decide +kernel
theorem dL_law_706 : decode cL_law 706 = .ok (.iload 6, 2) := by decide +kernel
theorem dL_law_708 : decode cL_law 708 = .ok (.ifCond .ne 15, 3) := by decide +kernel
theorem dL_law_711 : decode cL_law 711 = .ok (.aload_n 3, 1) := by decide +kernel
theorem dL_law_712 : decode cL_law 712 = .ok (.iconst 0, 1) := by decide +kernel
theorem dL_law_713 : decode cL_law 713 = .ok (.laload, 1) := by decide +kernel
theorem dL_law_714 : decode cL_law 714 = .ok (.iload 7, 2) := by decide +kernel
theorem dL_law_716 : decode cL_law 716 = .ok (.i2l, 1) := by decide +kernel
theorem dL_law_717 : decode cL_law 717 = .ok (.lcmp, 1) := by decide +kernel
theorem dL_law_718 : decode cL_law 718 = .ok (.ifCond .eq 5, 3) := by decide +kernel
theorem dL_law_721 : decode cL_law 721 = .ok (.iconst 0, 1) := by decide +kernel
theorem dL_law_722 : decode cL_law 722 = .ok (.ireturn, 1) := by decide +kernel
theorem dL_law_723 : decode cL_law 723 = .ok (.goto 2194, 3) := by decide +kernel
theorem dL_law_726 : decode cL_law 726 = .ok (.aload_n 1, 1) := by decide +kernel
theorem dL_law_727 : decode cL_law 727 = .ok (.aload_n 0, 1) := by decide +kernel
theorem dL_law_728 : decode cL_law 728 = .ok (.iload 5, 2) := by decide +kernel
theorem dL_law_730 : decode cL_law 730 = .ok (.iconst 1, 1) := by decide +kernel
theorem dL_law_731 : decode cL_law 731 = .ok (.iadd, 1) := by decide +kernel
theorem dL_law_732 : decode cL_law 732 = .ok (.iaload, 1) := by decide +kernel
theorem dL_law_733 : decode cL_law 733 = .ok (.aload_n 3, 1) := by decide +kernel
theorem dL_law_734 : decode cL_law 734 = .ok (.invokestatic 198, 3) := by decide +kernel
theorem dL_law_737 : decode cL_law 737 = .ok (.istore 6, 2) := by decide +kernel
theorem dL_law_739 : decode cL_law 739 = .ok (.aload_n 2, 1) := by decide +kernel
theorem dL_law_740 : decode cL_law 740 = .ok (.aload_n 0, 1) := by decide +kernel
theorem dL_law_741 : decode cL_law 741 = .ok (.iload 5, 2) := by decide +kernel
theorem dL_law_743 : decode cL_law 743 = .ok (.iconst 1, 1) := by decide +kernel
theorem dL_law_744 : decode cL_law 744 = .ok (.iadd, 1) := by decide +kernel
theorem dL_law_745 : decode cL_law 745 = .ok (.iaload, 1) := by decide +kernel
theorem dL_law_746 : decode cL_law 746 = .ok (.invokevirtual 200, 3) := by decide +kernel
theorem dL_law_749 : decode cL_law 749 = .ok (.istore 7, 2) := by decide +kernel
theorem dL_law_751 : decode cL_law 751 = .ok (.aload_n 2, 1) := by decide +kernel
theorem dL_law_752 : decode cL_law 752 = .ok (.invokevirtual 173, 3) := by decide +kernel
theorem dL_law_755 : decode cL_law 755 = .ok (.iload 6, 2) := by decide +kernel
theorem dL_law_757 : decode cL_law 757 = .ok (.if_icmp .eq 5, 3) := by decide +kernel
theorem dL_law_760 : decode cL_law 760 = .ok (.iconst 0, 1) := by decide +kernel
theorem dL_law_761 : decode cL_law 761 = .ok (.ireturn, 1) := by decide +kernel
theorem dL_law_762 : decode cL_law 762 = .ok (.iload 6, 2) := by decide +kernel
theorem dL_law_764 : decode cL_law 764 = .ok (.ifCond .ne 15, 3) := by decide +kernel
theorem dL_law_767 : decode cL_law 767 = .ok (.aload_n 3, 1) := by decide +kernel
theorem dL_law_768 : decode cL_law 768 = .ok (.iconst 0, 1) := by decide +kernel
theorem dL_law_769 : decode cL_law 769 = .ok (.laload, 1) := by decide +kernel
theorem dL_law_770 : decode cL_law 770 = .ok (.iload 7, 2) := by decide +kernel
theorem dL_law_772 : decode cL_law 772 = .ok (.i2l, 1) := by decide +kernel
theorem dL_law_773 : decode cL_law 773 = .ok (.lcmp, 1) := by decide +kernel
theorem dL_law_774 : decode cL_law 774 = .ok (.ifCond .eq 5, 3) := by decide +kernel
theorem dL_law_777 : decode cL_law 777 = .ok (.iconst 0, 1) := by decide +kernel
theorem dL_law_778 : decode cL_law 778 = .ok (.ireturn, 1) := by decide +kernel
theorem dL_law_779 : decode cL_law 779 = .ok (.goto 2138, 3) := by decide +kernel
theorem dL_law_782 : decode cL_law 782 = .ok (.aload_n 1, 1) := by decide +kernel
theorem dL_law_783 : decode cL_law 783 = .ok (.aload_n 0, 1) := by decide +kernel
theorem dL_law_784 : decode cL_law 784 = .ok (.iload 5, 2) := by decide +kernel
theorem dL_law_786 : decode cL_law 786 = .ok (.iconst 1, 1) := by decide +kernel
theorem dL_law_787 : decode cL_law 787 = .ok (.iadd, 1) := by decide +kernel
theorem dL_law_788 : decode cL_law 788 = .ok (.iaload, 1) := by decide +kernel
theorem dL_law_789 : decode cL_law 789 = .ok (.aload_n 3, 1) := by decide +kernel
theorem dL_law_790 : decode cL_law 790 = .ok (.invokestatic 201, 3) := by decide +kernel
theorem dL_law_793 : decode cL_law 793 = .ok (.istore 6, 2) := by decide +kernel
theorem dL_law_795 : decode cL_law 795 = .ok (.aload_n 2, 1) := by decide +kernel
theorem dL_law_796 : decode cL_law 796 = .ok (.aload_n 0, 1) := by decide +kernel
theorem dL_law_797 : decode cL_law 797 = .ok (.iload 5, 2) := by decide +kernel
theorem dL_law_799 : decode cL_law 799 = .ok (.iconst 1, 1) := by decide +kernel
theorem dL_law_800 : decode cL_law 800 = .ok (.iadd, 1) := by decide +kernel
theorem dL_law_801 : decode cL_law 801 = .ok (.iaload, 1) := by decide +kernel
theorem dL_law_802 : decode cL_law 802 = .ok (.invokevirtual 203, 3) := by decide +kernel
theorem dL_law_805 : decode cL_law 805 = .ok (.istore 7, 2) := by decide +kernel
theorem dL_law_807 : decode cL_law 807 = .ok (.aload_n 2, 1) := by decide +kernel
theorem dL_law_808 : decode cL_law 808 = .ok (.invokevirtual 173, 3) := by decide +kernel
theorem dL_law_811 : decode cL_law 811 = .ok (.iload 6, 2) := by decide +kernel
theorem dL_law_813 : decode cL_law 813 = .ok (.if_icmp .eq 5, 3) := by decide +kernel
theorem dL_law_816 : decode cL_law 816 = .ok (.iconst 0, 1) := by decide +kernel
theorem dL_law_817 : decode cL_law 817 = .ok (.ireturn, 1) := by decide +kernel
theorem dL_law_818 : decode cL_law 818 = .ok (.iload 6, 2) := by decide +kernel
theorem dL_law_820 : decode cL_law 820 = .ok (.ifCond .ne 15, 3) := by decide +kernel
theorem dL_law_823 : decode cL_law 823 = .ok (.aload_n 3, 1) := by decide +kernel
theorem dL_law_824 : decode cL_law 824 = .ok (.iconst 0, 1) := by decide +kernel
theorem dL_law_825 : decode cL_law 825 = .ok (.laload, 1) := by decide +kernel
theorem dL_law_826 : decode cL_law 826 = .ok (.iload 7, 2) := by decide +kernel
theorem dL_law_828 : decode cL_law 828 = .ok (.i2l, 1) := by decide +kernel
theorem dL_law_829 : decode cL_law 829 = .ok (.lcmp, 1) := by decide +kernel
theorem dL_law_830 : decode cL_law 830 = .ok (.ifCond .eq 5, 3) := by decide +kernel
theorem dL_law_833 : decode cL_law 833 = .ok (.iconst 0, 1) := by decide +kernel
theorem dL_law_834 : decode cL_law 834 = .ok (.ireturn, 1) := by decide +kernel
theorem dL_law_835 : decode cL_law 835 = .ok (.goto 2082, 3) := by decide +kernel
theorem dL_law_838 : decode cL_law 838 = .ok (.aload_n 1, 1) := by decide +kernel
theorem dL_law_839 : decode cL_law 839 = .ok (.aload_n 0, 1) := by decide +kernel
theorem dL_law_840 : decode cL_law 840 = .ok (.iload 5, 2) := by decide +kernel
theorem dL_law_842 : decode cL_law 842 = .ok (.iconst 1, 1) := by decide +kernel
theorem dL_law_843 : decode cL_law 843 = .ok (.iadd, 1) := by decide +kernel
theorem dL_law_844 : decode cL_law 844 = .ok (.iaload, 1) := by decide +kernel
theorem dL_law_845 : decode cL_law 845 = .ok (.aload_n 3, 1) := by decide +kernel
theorem dL_law_846 : decode cL_law 846 = .ok (.invokestatic 204, 3) := by decide +kernel
theorem dL_law_849 : decode cL_law 849 = .ok (.istore 6, 2) := by decide +kernel
theorem dL_law_851 : decode cL_law 851 = .ok (.aload_n 2, 1) := by decide +kernel
theorem dL_law_852 : decode cL_law 852 = .ok (.aload_n 0, 1) := by decide +kernel
theorem dL_law_853 : decode cL_law 853 = .ok (.iload 5, 2) := by decide +kernel
theorem dL_law_855 : decode cL_law 855 = .ok (.iconst 1, 1) := by decide +kernel
theorem dL_law_856 : decode cL_law 856 = .ok (.iadd, 1) := by decide +kernel
theorem dL_law_857 : decode cL_law 857 = .ok (.iaload, 1) := by decide +kernel
theorem dL_law_858 : decode cL_law 858 = .ok (.invokevirtual 206, 3) := by decide +kernel
theorem dL_law_861 : decode cL_law 861 = .ok (.istore 7, 2) := by decide +kernel
theorem dL_law_863 : decode cL_law 863 = .ok (.aload_n 2, 1) := by decide +kernel
theorem dL_law_864 : decode cL_law 864 = .ok (.invokevirtual 173, 3) := by decide +kernel
theorem dL_law_867 : decode cL_law 867 = .ok (.iload 6, 2) := by decide +kernel
theorem dL_law_869 : decode cL_law 869 = .ok (.if_icmp .eq 5, 3) := by decide +kernel
theorem dL_law_872 : decode cL_law 872 = .ok (.iconst 0, 1) := by decide +kernel
theorem dL_law_873 : decode cL_law 873 = .ok (.ireturn, 1) := by decide +kernel
theorem dL_law_874 : decode cL_law 874 = .ok (.iload 6, 2) := by decide +kernel
theorem dL_law_876 : decode cL_law 876 = .ok (.ifCond .ne 15, 3) := by decide +kernel
theorem dL_law_879 : decode cL_law 879 = .ok (.aload_n 3, 1) := by decide +kernel
theorem dL_law_880 : decode cL_law 880 = .ok (.iconst 0, 1) := by decide +kernel
theorem dL_law_881 : decode cL_law 881 = .ok (.laload, 1) := by decide +kernel
theorem dL_law_882 : decode cL_law 882 = .ok (.iload 7, 2) := by decide +kernel
theorem dL_law_884 : decode cL_law 884 = .ok (.i2l, 1) := by decide +kernel
theorem dL_law_885 : decode cL_law 885 = .ok (.lcmp, 1) := by decide +kernel
theorem dL_law_886 : decode cL_law 886 = .ok (.ifCond .eq 5, 3) := by decide +kernel
theorem dL_law_889 : decode cL_law 889 = .ok (.iconst 0, 1) := by decide +kernel
theorem dL_law_890 : decode cL_law 890 = .ok (.ireturn, 1) := by decide +kernel
theorem dL_law_891 : decode cL_law 891 = .ok (.goto 2026, 3) := by decide +kernel
theorem dL_law_894 : decode cL_law 894 = .ok (.aload_n 1, 1) := by decide +kernel
theorem dL_law_895 : decode cL_law 895 = .ok (.aload_n 0, 1) := by decide +kernel
theorem dL_law_896 : decode cL_law 896 = .ok (.iload 5, 2) := by decide +kernel
theorem dL_law_898 : decode cL_law 898 = .ok (.iconst 1, 1) := by decide +kernel
theorem dL_law_899 : decode cL_law 899 = .ok (.iadd, 1) := by decide +kernel
theorem dL_law_900 : decode cL_law 900 = .ok (.iaload, 1) := by decide +kernel
theorem dL_law_901 : decode cL_law 901 = .ok (.aload_n 0, 1) := by decide +kernel
theorem dL_law_902 : decode cL_law 902 = .ok (.iload 5, 2) := by decide +kernel
theorem dL_law_904 : decode cL_law 904 = .ok (.iconst 2, 1) := by decide +kernel
theorem dL_law_905 : decode cL_law 905 = .ok (.iadd, 1) := by decide +kernel
theorem dL_law_906 : decode cL_law 906 = .ok (.iaload, 1) := by decide +kernel
theorem dL_law_907 : decode cL_law 907 = .ok (.aload_n 0, 1) := by decide +kernel
theorem dL_law_908 : decode cL_law 908 = .ok (.iload 5, 2) := by decide +kernel
theorem dL_law_910 : decode cL_law 910 = .ok (.iconst 3, 1) := by decide +kernel
theorem dL_law_911 : decode cL_law 911 = .ok (.iadd, 1) := by decide +kernel
theorem dL_law_912 : decode cL_law 912 = .ok (.iaload, 1) := by decide +kernel
theorem dL_law_913 : decode cL_law 913 = .ok (.aload_n 3, 1) := by decide +kernel
theorem dL_law_914 : decode cL_law 914 = .ok (.invokestatic 207, 3) := by decide +kernel
theorem dL_law_917 : decode cL_law 917 = .ok (.istore 6, 2) := by decide +kernel
theorem dL_law_919 : decode cL_law 919 = .ok (.aload_n 2, 1) := by decide +kernel
theorem dL_law_920 : decode cL_law 920 = .ok (.aload_n 0, 1) := by decide +kernel
theorem dL_law_921 : decode cL_law 921 = .ok (.iload 5, 2) := by decide +kernel
theorem dL_law_923 : decode cL_law 923 = .ok (.iconst 1, 1) := by decide +kernel
theorem dL_law_924 : decode cL_law 924 = .ok (.iadd, 1) := by decide +kernel
theorem dL_law_925 : decode cL_law 925 = .ok (.iaload, 1) := by decide +kernel
theorem dL_law_926 : decode cL_law 926 = .ok (.aload_n 0, 1) := by decide +kernel
theorem dL_law_927 : decode cL_law 927 = .ok (.iload 5, 2) := by decide +kernel
theorem dL_law_929 : decode cL_law 929 = .ok (.iconst 2, 1) := by decide +kernel
theorem dL_law_930 : decode cL_law 930 = .ok (.iadd, 1) := by decide +kernel
theorem dL_law_931 : decode cL_law 931 = .ok (.iaload, 1) := by decide +kernel
theorem dL_law_932 : decode cL_law 932 = .ok (.aload_n 0, 1) := by decide +kernel
theorem dL_law_933 : decode cL_law 933 = .ok (.iload 5, 2) := by decide +kernel
theorem dL_law_935 : decode cL_law 935 = .ok (.iconst 3, 1) := by decide +kernel
theorem dL_law_936 : decode cL_law 936 = .ok (.iadd, 1) := by decide +kernel
theorem dL_law_937 : decode cL_law 937 = .ok (.iaload, 1) := by decide +kernel
theorem dL_law_938 : decode cL_law 938 = .ok (.invokevirtual 209, 3) := by decide +kernel
theorem dL_law_941 : decode cL_law 941 = .ok (.istore 7, 2) := by decide +kernel
theorem dL_law_943 : decode cL_law 943 = .ok (.aload_n 2, 1) := by decide +kernel
theorem dL_law_944 : decode cL_law 944 = .ok (.invokevirtual 173, 3) := by decide +kernel
