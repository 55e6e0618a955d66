theorem dX7_choiceFor_9 : decode cX7_choiceFor 9 = .ok (.invokevirtual 74, 3) := by decide +kernel
theorem dX7_choiceFor_12 : decode cX7_choiceFor 12 = .ok (.if_icmp .ge 60, 3) := by decide +kernel
theorem dX7_choiceFor_15 : decode cX7_choiceFor 15 = .ok (.aload_n 0, 1) := by decide +kernel
theorem dX7_choiceFor_16 : decode cX7_choiceFor 16 = .ok (.getfield 19, 3) := by decide +kernel
theorem dX7_choiceFor_19 : decode cX7_choiceFor 19 = .ok (.iload_n 3, 1) := by decide +kernel
theorem dX7_choiceFor_20 : decode cX7_choiceFor 20 = .ok (.invokevirtual 178, 3) := by decide +kernel
theorem dX7_choiceFor_23 : decode cX7_choiceFor 23 = .ok (.checkcast 120, 3) := by decide +kernel
theorem dX7_choiceFor_26 : decode cX7_choiceFor 26 = .ok (.astore 4, 2) := by decide +kernel
theorem dX7_choiceFor_28 : decode cX7_choiceFor 28 = .ok (.aload 4, 2) := by decide +kernel
theorem dX7_choiceFor_30 : decode cX7_choiceFor 30 = .ok (.aload_n 1, 1) := by decide +kernel
theorem dX7_choiceFor_31 : decode cX7_choiceFor 31 = .ok (.getfield 225, 3) := by decide +kernel
theorem dX7_choiceFor_34 : decode cX7_choiceFor 34 = .ok (.invokevirtual 444, 3) := by decide +kernel
theorem dX7_choiceFor_37 : decode cX7_choiceFor 37 = .ok (.ifCond .eq 29, 3) := by decide +kernel
theorem dX7_choiceFor_40 : decode cX7_choiceFor 40 = .ok (.aload_n 0, 1) := by decide +kernel
theorem dX7_choiceFor_41 : decode cX7_choiceFor 41 = .ok (.aload 4, 2) := by decide +kernel
theorem dX7_choiceFor_43 : decode cX7_choiceFor 43 = .ok (.aload_n 1, 1) := by decide +kernel
theorem dX7_choiceFor_44 : decode cX7_choiceFor 44 = .ok (.invokevirtual 189, 3) := by decide +kernel
theorem dX7_choiceFor_47 : decode cX7_choiceFor 47 = .ok (.ifCond .eq 19, 3) := by decide +kernel
theorem dX7_choiceFor_50 : decode cX7_choiceFor 50 = .ok (.aload_n 2, 1) := by decide +kernel
theorem dX7_choiceFor_51 : decode cX7_choiceFor 51 = .ok (.ifnull 12, 3) := by decide +kernel
theorem dX7_choiceFor_54 : decode cX7_choiceFor 54 = .ok (.aload 4, 2) := by decide +kernel
theorem dX7_choiceFor_56 : decode cX7_choiceFor 56 = .ok (.aload_n 2, 1) := by decide +kernel
theorem dX7_choiceFor_57 : decode cX7_choiceFor 57 = .ok (.invokevirtual 447, 3) := by decide +kernel
theorem dX7_choiceFor_60 : decode cX7_choiceFor 60 = .ok (.ifCond .eq 6, 3) := by decide +kernel
theorem dX7_choiceFor_63 : decode cX7_choiceFor 63 = .ok (.aload 4, 2) := by decide +kernel
theorem dX7_choiceFor_65 : decode cX7_choiceFor 65 = .ok (.astore_n 2, 1) := by decide +kernel
theorem dX7_choiceFor_66 : decode cX7_choiceFor 66 = .ok (.iinc 3 1, 3) := by decide +kernel
theorem dX7_choiceFor_69 : decode cX7_choiceFor 69 = .ok (.goto (-65), 3) := by decide +kernel
theorem dX7_choiceFor_72 : decode cX7_choiceFor 72 = .ok (.aload_n 2, 1) := by decide +kernel
theorem dX7_choiceFor_73 : decode cX7_choiceFor 73 = .ok (.ifnonnull 14, 3) := by decide +kernel
theorem dX7_choiceFor_76 : decode cX7_choiceFor 76 = .ok (.new 78, 3) := by decide +kernel
theorem dX7_choiceFor_79 : decode cX7_choiceFor 79 = .ok (.dup, 1) := by decide +kernel
theorem dX7_choiceFor_80 : decode cX7_choiceFor 80 = .ok (.ldc_w 450, 3) := by decide +kernel
theorem dX7_choiceFor_83 : decode cX7_choiceFor 83 = .ok (.invokespecial 82, 3) := by decide +kernel
theorem dX7_choiceFor_86 : decode cX7_choiceFor 86 = .ok (.athrow, 1) := by decide +kernel
theorem dX7_choiceFor_87 : decode cX7_choiceFor 87 = .ok (.aload_n 2, 1) := by decide +kernel
theorem dX7_choiceFor_88 : decode cX7_choiceFor 88 = .ok (.areturn, 1) := by decide +kernel
theorem dX7_groupOfCrash_0 : decode cX7_groupOfCrash 0 = .ok (.aload_n 0, 1) := by decide +kernel
theorem dX7_groupOfCrash_1 : decode cX7_groupOfCrash 1 = .ok (.invokevirtual 452, 3) := by decide +kernel
theorem dX7_groupOfCrash_4 : decode cX7_groupOfCrash 4 = .ok (.astore_n 1, 1) := by decide +kernel
theorem dX7_groupOfCrash_5 : decode cX7_groupOfCrash 5 = .ok (.aload_n 1, 1) := by decide +kernel
theorem dX7_groupOfCrash_6 : decode cX7_groupOfCrash 6 = .ok (.ifnull 24, 3) := by decide +kernel
theorem dX7_groupOfCrash_9 : decode cX7_groupOfCrash 9 = .ok (.aload_n 1, 1) := by decide +kernel
theorem dX7_groupOfCrash_10 : decode cX7_groupOfCrash 10 = .ok (.getfield 278, 3) := by decide +kernel
theorem dX7_groupOfCrash_13 : decode cX7_groupOfCrash 13 = .ok (.aload_n 0, 1) := by decide +kernel
theorem dX7_groupOfCrash_14 : decode cX7_groupOfCrash 14 = .ok (.getfield 32, 3) := by decide +kernel
theorem dX7_groupOfCrash_17 : decode cX7_groupOfCrash 17 = .ok (.invokevirtual 290, 3) := by decide +kernel
theorem dX7_groupOfCrash_20 : decode cX7_groupOfCrash 20 = .ok (.aload_n 0, 1) := by decide +kernel
theorem dX7_groupOfCrash_21 : decode cX7_groupOfCrash 21 = .ok (.getfield 53, 3) := by decide +kernel
theorem dX7_groupOfCrash_24 : decode cX7_groupOfCrash 24 = .ok (.fcmp .l, 1) := by decide +kernel
theorem dX7_groupOfCrash_25 : decode cX7_groupOfCrash 25 = .ok (.ifCond .lt 5, 3) := by decide +kernel
theorem dX7_groupOfCrash_28 : decode cX7_groupOfCrash 28 = .ok (.aload_n 1, 1) := by decide +kernel
theorem dX7_groupOfCrash_29 : decode cX7_groupOfCrash 29 = .ok (.areturn, 1) := by decide +kernel
theorem dX7_groupOfCrash_30 : decode cX7_groupOfCrash 30 = .ok (.aload_n 0, 1) := by decide +kernel
theorem dX7_groupOfCrash_31 : decode cX7_groupOfCrash 31 = .ok (.getfield 22, 3) := by decide +kernel
theorem dX7_groupOfCrash_34 : decode cX7_groupOfCrash 34 = .ok (.invokevirtual 74, 3) := by decide +kernel
theorem dX7_groupOfCrash_37 : decode cX7_groupOfCrash 37 = .ok (.bipush 30, 2) := by decide +kernel
theorem dX7_groupOfCrash_39 : decode cX7_groupOfCrash 39 = .ok (.if_icmp .lt 14, 3) := by decide +kernel
theorem dX7_groupOfCrash_42 : decode cX7_groupOfCrash 42 = .ok (.new 78, 3) := by decide +kernel
theorem dX7_groupOfCrash_45 : decode cX7_groupOfCrash 45 = .ok (.dup, 1) := by decide +kernel
theorem dX7_groupOfCrash_46 : decode cX7_groupOfCrash 46 = .ok (.ldc_w 455, 3) := by decide +kernel
theorem dX7_groupOfCrash_49 : decode cX7_groupOfCrash 49 = .ok (.invokespecial 82, 3) := by decide +kernel
theorem dX7_groupOfCrash_52 : decode cX7_groupOfCrash 52 = .ok (.athrow, 1) := by decide +kernel
theorem dX7_groupOfCrash_53 : decode cX7_groupOfCrash 53 = .ok (.new 265, 3) := by decide +kernel
theorem dX7_groupOfCrash_56 : decode cX7_groupOfCrash 56 = .ok (.dup, 1) := by decide +kernel
theorem dX7_groupOfCrash_57 : decode cX7_groupOfCrash 57 = .ok (.aload_n 0, 1) := by decide +kernel
theorem dX7_groupOfCrash_58 : decode cX7_groupOfCrash 58 = .ok (.getfield 22, 3) := by decide +kernel
theorem dX7_groupOfCrash_61 : decode cX7_groupOfCrash 61 = .ok (.invokevirtual 74, 3) := by decide +kernel
theorem dX7_groupOfCrash_64 : decode cX7_groupOfCrash 64 = .ok (.aload_n 0, 1) := by decide +kernel
theorem dX7_groupOfCrash_65 : decode cX7_groupOfCrash 65 = .ok (.getfield 32, 3) := by decide +kernel
theorem dX7_groupOfCrash_68 : decode cX7_groupOfCrash 68 = .ok (.invokespecial 457, 3) := by decide +kernel
theorem dX7_groupOfCrash_71 : decode cX7_groupOfCrash 71 = .ok (.astore_n 2, 1) := by decide +kernel
theorem dX7_groupOfCrash_72 : decode cX7_groupOfCrash 72 = .ok (.aload_n 0, 1) := by decide +kernel
theorem dX7_groupOfCrash_73 : decode cX7_groupOfCrash 73 = .ok (.getfield 22, 3) := by decide +kernel
theorem dX7_groupOfCrash_76 : decode cX7_groupOfCrash 76 = .ok (.aload_n 2, 1) := by decide +kernel
theorem dX7_groupOfCrash_77 : decode cX7_groupOfCrash 77 = .ok (.invokevirtual 88, 3) := by decide +kernel
theorem dX7_groupOfCrash_80 : decode cX7_groupOfCrash 80 = .ok (.pop, 1) := by decide +kernel
theorem dX7_groupOfCrash_81 : decode cX7_groupOfCrash 81 = .ok (.aload_n 2, 1) := by decide +kernel
theorem dX7_groupOfCrash_82 : decode cX7_groupOfCrash 82 = .ok (.areturn, 1) := by decide +kernel
theorem dX7_nearestGroup_0 : decode cX7_nearestGroup 0 = .ok (.aconst_null, 1) := by decide +kernel
theorem dX7_nearestGroup_1 : decode cX7_nearestGroup 1 = .ok (.astore_n 1, 1) := by decide +kernel
theorem dX7_nearestGroup_2 : decode cX7_nearestGroup 2 = .ok (.fconst 0, 1) := by decide +kernel
theorem dX7_nearestGroup_3 : decode cX7_nearestGroup 3 = .ok (.fstore_n 2, 1) := by decide +kernel
theorem dX7_nearestGroup_4 : decode cX7_nearestGroup 4 = .ok (.iconst 0, 1) := by decide +kernel
theorem dX7_nearestGroup_5 : decode cX7_nearestGroup 5 = .ok (.istore_n 3, 1) := by decide +kernel
theorem dX7_nearestGroup_6 : decode cX7_nearestGroup 6 = .ok (.iload_n 3, 1) := by decide +kernel
theorem dX7_nearestGroup_7 : decode cX7_nearestGroup 7 = .ok (.aload_n 0, 1) := by decide +kernel
theorem dX7_nearestGroup_8 : decode cX7_nearestGroup 8 = .ok (.getfield 22, 3) := by decide +kernel
theorem dX7_nearestGroup_11 : decode cX7_nearestGroup 11 = .ok (.invokevirtual 74, 3) := by decide +kernel
theorem dX7_nearestGroup_14 : decode cX7_nearestGroup 14 = .ok (.if_icmp .ge 53, 3) := by decide +kernel
theorem dX7_nearestGroup_17 : decode cX7_nearestGroup 17 = .ok (.aload_n 0, 1) := by decide +kernel
theorem dX7_nearestGroup_18 : decode cX7_nearestGroup 18 = .ok (.getfield 22, 3) := by decide +kernel
theorem dX7_nearestGroup_21 : decode cX7_nearestGroup 21 = .ok (.iload_n 3, 1) := by decide +kernel
theorem dX7_nearestGroup_22 : decode cX7_nearestGroup 22 = .ok (.invokevirtual 178, 3) := by decide +kernel
theorem dX7_nearestGroup_25 : decode cX7_nearestGroup 25 = .ok (.checkcast 265, 3) := by decide +kernel
theorem dX7_nearestGroup_28 : decode cX7_nearestGroup 28 = .ok (.astore 4, 2) := by decide +kernel
theorem dX7_nearestGroup_30 : decode cX7_nearestGroup 30 = .ok (.aload 4, 2) := by decide +kernel
theorem dX7_nearestGroup_32 : decode cX7_nearestGroup 32 = .ok (.getfield 278, 3) := by decide +kernel
theorem dX7_nearestGroup_35 : decode cX7_nearestGroup 35 = .ok (.aload_n 0, 1) := by decide +kernel
theorem dX7_nearestGroup_36 : decode cX7_nearestGroup 36 = .ok (.getfield 32, 3) := by decide +kernel
theorem dX7_nearestGroup_39 : decode cX7_nearestGroup 39 = .ok (.invokevirtual 290, 3) := by decide +kernel
theorem dX7_nearestGroup_42 : decode cX7_nearestGroup 42 = .ok (.fstore 5, 2) := by decide +kernel
theorem dX7_nearestGroup_44 : decode cX7_nearestGroup 44 = .ok (.aload_n 1, 1) := by decide +kernel
theorem dX7_nearestGroup_45 : decode cX7_nearestGroup 45 = .ok (.ifnull 10, 3) := by decide +kernel
theorem dX7_nearestGroup_48 : decode cX7_nearestGroup 48 = .ok (.fload 5, 2) := by decide +kernel
theorem dX7_nearestGroup_50 : decode cX7_nearestGroup 50 = .ok (.fload_n 2, 1) := by decide +kernel
theorem dX7_nearestGroup_51 : decode cX7_nearestGroup 51 = .ok (.fcmp .l, 1) := by decide +kernel
theorem dX7_nearestGroup_52 : decode cX7_nearestGroup 52 = .ok (.ifCond .le 9, 3) := by decide +kernel
theorem dX7_nearestGroup_55 : decode cX7_nearestGroup 55 = .ok (.aload 4, 2) := by decide +kernel
theorem dX7_nearestGroup_57 : decode cX7_nearestGroup 57 = .ok (.astore_n 1, 1) := by decide +kernel
theorem dX7_nearestGroup_58 : decode cX7_nearestGroup 58 = .ok (.fload 5, 2) := by decide +kernel
theorem dX7_nearestGroup_60 : decode cX7_nearestGroup 60 = .ok (.fstore_n 2, 1) := by decide +kernel
theorem dX7_nearestGroup_61 : decode cX7_nearestGroup 61 = .ok (.iinc 3 1, 3) := by decide +kernel
theorem dX7_nearestGroup_64 : decode cX7_nearestGroup 64 = .ok (.goto (-58), 3) := by decide +kernel
theorem dX7_nearestGroup_67 : decode cX7_nearestGroup 67 = .ok (.aload_n 1, 1) := by decide +kernel
theorem dX7_nearestGroup_68 : decode cX7_nearestGroup 68 = .ok (.areturn, 1) := by decide +kernel
theorem dX7_standingOf_0 : decode cX7_standingOf 0 = .ok (.aload_n 1, 1) := by decide +kernel
theorem dX7_standingOf_1 : decode cX7_standingOf 1 = .ok (.getfield 125, 3) := by decide +kernel
theorem dX7_standingOf_4 : decode cX7_standingOf 4 = .ok (.bipush 100, 2) := by decide +kernel
theorem dX7_standingOf_6 : decode cX7_standingOf 6 = .ok (.if_icmp .ne 7, 3) := by decide +kernel
theorem dX7_standingOf_9 : decode cX7_standingOf 9 = .ok (.ldc_w 460, 3) := by decide +kernel
theorem dX7_standingOf_12 : decode cX7_standingOf 12 = .ok (.areturn, 1) := by decide +kernel
theorem dX7_standingOf_13 : decode cX7_standingOf 13 = .ok (.aload_n 1, 1) := by decide +kernel
theorem dX7_standingOf_14 : decode cX7_standingOf 14 = .ok (.getfield 125, 3) := by decide +kernel
theorem dX7_standingOf_17 : decode cX7_standingOf 17 = .ok (.bipush 119, 2) := by decide +kernel
theorem dX7_standingOf_19 : decode cX7_standingOf 19 = .ok (.if_icmp .ne 7, 3) := by decide +kernel
theorem dX7_standingOf_22 : decode cX7_standingOf 22 = .ok (.ldc_w 462, 3) := by decide +kernel
theorem dX7_standingOf_25 : decode cX7_standingOf 25 = .ok (.areturn, 1) := by decide +kernel
theorem dX7_standingOf_26 : decode cX7_standingOf 26 = .ok (.aload_n 1, 1) := by decide +kernel
theorem dX7_standingOf_27 : decode cX7_standingOf 27 = .ok (.getfield 125, 3) := by decide +kernel
theorem dX7_standingOf_30 : decode cX7_standingOf 30 = .ok (.bipush 114, 2) := by decide +kernel
theorem dX7_standingOf_32 : decode cX7_standingOf 32 = .ok (.if_icmp .ne 9, 3) := by decide +kernel
theorem dX7_standingOf_35 : decode cX7_standingOf 35 = .ok (.ldc_w 464, 3) := by decide +kernel
theorem dX7_standingOf_38 : decode cX7_standingOf 38 = .ok (.goto 8, 3) := by decide +kernel
theorem dX7_standingOf_41 : decode cX7_standingOf 41 = .ok (.aload_n 0, 1) := by decide +kernel
theorem dX7_standingOf_42 : decode cX7_standingOf 42 = .ok (.aload_n 1, 1) := by decide +kernel
theorem dX7_standingOf_43 : decode cX7_standingOf 43 = .ok (.invokevirtual 466, 3) := by decide +kernel
theorem dX7_standingOf_46 : decode cX7_standingOf 46 = .ok (.areturn, 1) := by decide +kernel
theorem dX7_standingOfApproved_0 : decode cX7_standingOfApproved 0 = .ok (.aload_n 0, 1) := by decide +kernel
theorem dX7_standingOfApproved_1 : decode cX7_standingOfApproved 1 = .ok (.aload_n 1, 1) := by decide +kernel
theorem dX7_standingOfApproved_2 : decode cX7_standingOfApproved 2 = .ok (.invokevirtual 182, 3) := by decide +kernel
theorem dX7_standingOfApproved_5 : decode cX7_standingOfApproved 5 = .ok (.istore_n 2, 1) := by decide +kernel
theorem dX7_standingOfApproved_6 : decode cX7_standingOfApproved 6 = .ok (.iload_n 2, 1) := by decide +kernel
theorem dX7_standingOfApproved_7 : decode cX7_standingOfApproved 7 = .ok (.bipush 118, 2) := by decide +kernel
theorem dX7_standingOfApproved_9 : decode cX7_standingOfApproved 9 = .ok (.if_icmp .ne 7, 3) := by decide +kernel
theorem dX7_standingOfApproved_12 : decode cX7_standingOfApproved 12 = .ok (.ldc_w 469, 3) := by decide +kernel
theorem dX7_standingOfApproved_15 : decode cX7_standingOfApproved 15 = .ok (.areturn, 1) := by decide +kernel
theorem dX7_standingOfApproved_16 : decode cX7_standingOfApproved 16 = .ok (.iload_n 2, 1) := by decide +kernel
theorem dX7_standingOfApproved_17 : decode cX7_standingOfApproved 17 = .ok (.bipush 99, 2) := by decide +kernel
theorem dX7_standingOfApproved_19 : decode cX7_standingOfApproved 19 = .ok (.if_icmp .ne 7, 3) := by decide +kernel
theorem dX7_standingOfApproved_22 : decode cX7_standingOfApproved 22 = .ok (.ldc_w 471, 3) := by decide +kernel
theorem dX7_standingOfApproved_25 : decode cX7_standingOfApproved 25 = .ok (.areturn, 1) := by decide +kernel
theorem dX7_standingOfApproved_26 : decode cX7_standingOfApproved 26 = .ok (.iload_n 2, 1) := by decide +kernel
theorem dX7_standingOfApproved_27 : decode cX7_standingOfApproved 27 = .ok (.bipush 116, 2) := by decide +kernel
theorem dX7_standingOfApproved_29 : decode cX7_standingOfApproved 29 = .ok (.if_icmp .ne 9, 3) := by decide +kernel
theorem dX7_standingOfApproved_32 : decode cX7_standingOfApproved 32 = .ok (.ldc_w 473, 3) := by decide +kernel
theorem dX7_standingOfApproved_35 : decode cX7_standingOfApproved 35 = .ok (.goto 6, 3) := by decide +kernel
theorem dX7_standingOfApproved_38 : decode cX7_standingOfApproved 38 = .ok (.ldc_w 475, 3) := by decide +kernel
theorem dX7_standingOfApproved_41 : decode cX7_standingOfApproved 41 = .ok (.areturn, 1) := by decide +kernel
theorem dX7_floatBits_0 : decode cX7_floatBits 0 = .ok (.fload_n 0, 1) := by decide +kernel
theorem dX7_floatBits_1 : decode cX7_floatBits 1 = .ok (.fconst 0, 1) := by decide +kernel
theorem dX7_floatBits_2 : decode cX7_floatBits 2 = .ok (.fcmp .g, 1) := by decide +kernel
theorem dX7_floatBits_3 : decode cX7_floatBits 3 = .ok (.ifCond .gt 5, 3) := by decide +kernel
theorem dX7_floatBits_6 : decode cX7_floatBits 6 = .ok (.iconst 0, 1) := by decide +kernel
theorem dX7_floatBits_7 : decode cX7_floatBits 7 = .ok (.ireturn, 1) := by decide +kernel
theorem dX7_floatBits_8 : decode cX7_floatBits 8 = .ok (.fload_n 0, 1) := by decide +kernel
theorem dX7_floatBits_9 : decode cX7_floatBits 9 = .ok (.f2d, 1) := by decide +kernel
theorem dX7_floatBits_10 : decode cX7_floatBits 10 = .ok (.invokestatic 324, 3) := by decide +kernel
theorem dX7_floatBits_13 : decode cX7_floatBits 13 = .ok (.lstore_n 1, 1) := by decide +kernel
theorem dX7_floatBits_14 : decode cX7_floatBits 14 = .ok (.lload_n 1, 1) := by decide +kernel
theorem dX7_floatBits_15 : decode cX7_floatBits 15 = .ok (.bipush 52, 2) := by decide +kernel
theorem dX7_floatBits_17 : decode cX7_floatBits 17 = .ok (.lushr, 1) := by decide +kernel
theorem dX7_floatBits_18 : decode cX7_floatBits 18 = .ok (.l2i, 1) := by decide +kernel
theorem dX7_floatBits_19 : decode cX7_floatBits 19 = .ok (.sipush 1023, 3) := by decide +kernel
theorem dX7_floatBits_22 : decode cX7_floatBits 22 = .ok (.isub, 1) := by decide +kernel
theorem dX7_floatBits_23 : decode cX7_floatBits 23 = .ok (.bipush 127, 2) := by decide +kernel
theorem dX7_floatBits_25 : decode cX7_floatBits 25 = .ok (.iadd, 1) := by decide +kernel
theorem dX7_floatBits_26 : decode cX7_floatBits 26 = .ok (.istore_n 3, 1) := by decide +kernel
theorem dX7_floatBits_27 : decode cX7_floatBits 27 = .ok (.lload_n 1, 1) := by decide +kernel
theorem dX7_floatBits_28 : decode cX7_floatBits 28 = .ok (.bipush 29, 2) := by decide +kernel
theorem dX7_floatBits_30 : decode cX7_floatBits 30 = .ok (.lushr, 1) := by decide +kernel
theorem dX7_floatBits_31 : decode cX7_floatBits 31 = .ok (.l2i, 1) := by decide +kernel
theorem dX7_floatBits_32 : decode cX7_floatBits 32 = .ok (.ldc_w 477, 3) := by decide +kernel
theorem dX7_floatBits_35 : decode cX7_floatBits 35 = .ok (.iand, 1) := by decide +kernel
theorem dX7_floatBits_36 : decode cX7_floatBits 36 = .ok (.istore 4, 2) := by decide +kernel
theorem dX7_floatBits_38 : decode cX7_floatBits 38 = .ok (.iload_n 3, 1) := by decide +kernel
theorem dX7_floatBits_39 : decode cX7_floatBits 39 = .ok (.bipush 23, 2) := by decide +kernel
theorem dX7_floatBits_41 : decode cX7_floatBits 41 = .ok (.ishl, 1) := by decide +kernel
theorem dX7_floatBits_42 : decode cX7_floatBits 42 = .ok (.iload 4, 2) := by decide +kernel
theorem dX7_floatBits_44 : decode cX7_floatBits 44 = .ok (.ior, 1) := by decide +kernel
theorem dX7_floatBits_45 : decode cX7_floatBits 45 = .ok (.ireturn, 1) := by decide +kernel
theorem dX7_doubleBits_0 : decode cX7_doubleBits 0 = .ok (.dload_n 0, 1) := by decide +kernel
theorem dX7_doubleBits_1 : decode cX7_doubleBits 1 = .ok (.dconst 0, 1) := by decide +kernel
theorem dX7_doubleBits_2 : decode cX7_doubleBits 2 = .ok (.dcmp .g, 1) := by decide +kernel
theorem dX7_doubleBits_3 : decode cX7_doubleBits 3 = .ok (.ifCond .gt 5, 3) := by decide +kernel
theorem dX7_doubleBits_6 : decode cX7_doubleBits 6 = .ok (.lconst 0, 1) := by decide +kernel
theorem dX7_doubleBits_7 : decode cX7_doubleBits 7 = .ok (.lreturn, 1) := by decide +kernel
theorem dX7_doubleBits_8 : decode cX7_doubleBits 8 = .ok (.dload_n 0, 1) := by decide +kernel
theorem dX7_doubleBits_9 : decode cX7_doubleBits 9 = .ok (.dstore_n 2, 1) := by decide +kernel
theorem dX7_doubleBits_10 : decode cX7_doubleBits 10 = .ok (.ldc2_w 478, 3) := by decide +kernel
theorem dX7_doubleBits_13 : decode cX7_doubleBits 13 = .ok (.lstore 4, 2) := by decide +kernel
theorem dX7_doubleBits_15 : decode cX7_doubleBits 15 = .ok (.iconst 0, 1) := by decide +kernel
theorem dX7_doubleBits_16 : decode cX7_doubleBits 16 = .ok (.istore 6, 2) := by decide +kernel
theorem dX7_doubleBits_18 : decode cX7_doubleBits 18 = .ok (.iload 6, 2) := by decide +kernel
theorem dX7_doubleBits_20 : decode cX7_doubleBits 20 = .ok (.sipush 1100, 3) := by decide +kernel
theorem dX7_doubleBits_23 : decode cX7_doubleBits 23 = .ok (.if_icmp .ge 29, 3) := by decide +kernel
theorem dX7_doubleBits_26 : decode cX7_doubleBits 26 = .ok (.dload_n 2, 1) := by decide +kernel
theorem dX7_doubleBits_27 : decode cX7_doubleBits 27 = .ok (.ldc2_w 480, 3) := by decide +kernel
theorem dX7_doubleBits_30 : decode cX7_doubleBits 30 = .ok (.dcmp .l, 1) := by decide +kernel
theorem dX7_doubleBits_31 : decode cX7_doubleBits 31 = .ok (.ifCond .lt 21, 3) := by decide +kernel
theorem dX7_doubleBits_34 : decode cX7_doubleBits 34 = .ok (.dload_n 2, 1) := by decide +kernel
theorem dX7_doubleBits_35 : decode cX7_doubleBits 35 = .ok (.ldc2_w 480, 3) := by decide +kernel
theorem dX7_doubleBits_38 : decode cX7_doubleBits 38 = .ok (.ddiv, 1) := by decide +kernel
theorem dX7_doubleBits_39 : decode cX7_doubleBits 39 = .ok (.dstore_n 2, 1) := by decide +kernel
theorem dX7_doubleBits_40 : decode cX7_doubleBits 40 = .ok (.lload 4, 2) := by decide +kernel
theorem dX7_doubleBits_42 : decode cX7_doubleBits 42 = .ok (.lconst 1, 1) := by decide +kernel
theorem dX7_doubleBits_43 : decode cX7_doubleBits 43 = .ok (.ladd, 1) := by decide +kernel
theorem dX7_doubleBits_44 : decode cX7_doubleBits 44 = .ok (.lstore 4, 2) := by decide +kernel
theorem dX7_doubleBits_46 : decode cX7_doubleBits 46 = .ok (.iinc 6 1, 3) := by decide +kernel
theorem dX7_doubleBits_49 : decode cX7_doubleBits 49 = .ok (.goto (-31), 3) := by decide +kernel
theorem dX7_doubleBits_52 : decode cX7_doubleBits 52 = .ok (.iconst 0, 1) := by decide +kernel
theorem dX7_doubleBits_53 : decode cX7_doubleBits 53 = .ok (.istore 6, 2) := by decide +kernel
theorem dX7_doubleBits_55 : decode cX7_doubleBits 55 = .ok (.iload 6, 2) := by decide +kernel
theorem dX7_doubleBits_57 : decode cX7_doubleBits 57 = .ok (.sipush 1100, 3) := by decide +kernel
theorem dX7_doubleBits_60 : decode cX7_doubleBits 60 = .ok (.if_icmp .ge 27, 3) := by decide +kernel
theorem dX7_doubleBits_63 : decode cX7_doubleBits 63 = .ok (.dload_n 2, 1) := by decide +kernel
theorem dX7_doubleBits_64 : decode cX7_doubleBits 64 = .ok (.dconst 1, 1) := by decide +kernel
theorem dX7_doubleBits_65 : decode cX7_doubleBits 65 = .ok (.dcmp .g, 1) := by decide +kernel
theorem dX7_doubleBits_66 : decode cX7_doubleBits 66 = .ok (.ifCond .ge 21, 3) := by decide +kernel
theorem dX7_doubleBits_69 : decode cX7_doubleBits 69 = .ok (.dload_n 2, 1) := by decide +kernel
theorem dX7_doubleBits_70 : decode cX7_doubleBits 70 = .ok (.ldc2_w 480, 3) := by decide +kernel
theorem dX7_doubleBits_73 : decode cX7_doubleBits 73 = .ok (.dmul, 1) := by decide +kernel
theorem dX7_doubleBits_74 : decode cX7_doubleBits 74 = .ok (.dstore_n 2, 1) := by decide +kernel
theorem dX7_doubleBits_75 : decode cX7_doubleBits 75 = .ok (.lload 4, 2) := by decide +kernel
theorem dX7_doubleBits_77 : decode cX7_doubleBits 77 = .ok (.lconst 1, 1) := by decide +kernel
theorem dX7_doubleBits_78 : decode cX7_doubleBits 78 = .ok (.lsub, 1) := by decide +kernel
theorem dX7_doubleBits_79 : decode cX7_doubleBits 79 = .ok (.lstore 4, 2) := by decide +kernel
theorem dX7_doubleBits_81 : decode cX7_doubleBits 81 = .ok (.iinc 6 1, 3) := by decide +kernel
theorem dX7_doubleBits_84 : decode cX7_doubleBits 84 = .ok (.goto (-29), 3) := by decide +kernel
theorem dX7_doubleBits_87 : decode cX7_doubleBits 87 = .ok (.dload_n 2, 1) := by decide +kernel
theorem dX7_doubleBits_88 : decode cX7_doubleBits 88 = .ok (.dconst 1, 1) := by decide +kernel
theorem dX7_doubleBits_89 : decode cX7_doubleBits 89 = .ok (.dsub, 1) := by decide +kernel
theorem dX7_doubleBits_90 : decode cX7_doubleBits 90 = .ok (.ldc2_w 482, 3) := by decide +kernel
theorem dX7_doubleBits_93 : decode cX7_doubleBits 93 = .ok (.dmul, 1) := by decide +kernel
theorem dX7_doubleBits_94 : decode cX7_doubleBits 94 = .ok (.d2l, 1) := by decide +kernel
theorem dX7_doubleBits_95 : decode cX7_doubleBits 95 = .ok (.lstore 6, 2) := by decide +kernel
theorem dX7_doubleBits_97 : decode cX7_doubleBits 97 = .ok (.lload 4, 2) := by decide +kernel
theorem dX7_doubleBits_99 : decode cX7_doubleBits 99 = .ok (.bipush 52, 2) := by decide +kernel
theorem dX7_doubleBits_101 : decode cX7_doubleBits 101 = .ok (.lshl, 1) := by decide +kernel
theorem dX7_doubleBits_102 : decode cX7_doubleBits 102 = .ok (.lload 6, 2) := by decide +kernel
theorem dX7_doubleBits_104 : decode cX7_doubleBits 104 = .ok (.lor, 1) := by decide +kernel
theorem dX7_doubleBits_105 : decode cX7_doubleBits 105 = .ok (.lreturn, 1) := by decide +kernel
theorem dL_at_0 : decode cL_at 0 = .ok (.iload_n 1, 1) := by decide +kernel
theorem dL_at_1 : decode cL_at 1 = .ok (.aload_n 0, 1) := by decide +kernel
theorem dL_at_2 : decode cL_at 2 = .ok (.arraylength, 1) := by decide +kernel
theorem dL_at_3 : decode cL_at 3 = .ok (.if_icmp .ge 9, 3) := by decide +kernel
theorem dL_at_6 : decode cL_at 6 = .ok (.aload_n 0, 1) := by decide +kernel
theorem dL_at_7 : decode cL_at 7 = .ok (.iload_n 1, 1) := by decide +kernel
theorem dL_at_8 : decode cL_at 8 = .ok (.iaload, 1) := by decide +kernel
theorem dL_at_9 : decode cL_at 9 = .ok (.goto 4, 3) := by decide +kernel
theorem dL_at_12 : decode cL_at 12 = .ok (.iconst 0, 1) := by decide +kernel
theorem dL_at_13 : decode cL_at 13 = .ok (.ireturn, 1) := by decide +kernel
theorem dL_some_0 : decode cL_some 0 = .ok (.iload_n 0, 1) := by decide +kernel
theorem dL_some_1 : decode cL_some 1 = .ok (.iload_n 1, 1) := by decide +kernel
theorem dL_some_2 : decode cL_some 2 = .ok (.irem, 1) := by decide +kernel
theorem dL_some_3 : decode cL_some 3 = .ok (.istore_n 2, 1) := by decide +kernel
theorem dL_some_4 : decode cL_some 4 = .ok (.iload_n 2, 1) := by decide +kernel
theorem dL_some_5 : decode cL_some 5 = .ok (.ifCond .ge 9, 3) := by decide +kernel
theorem dL_some_8 : decode cL_some 8 = .ok (.iload_n 2, 1) := by decide +kernel
theorem dL_some_9 : decode cL_some 9 = .ok (.iload_n 1, 1) := by decide +kernel
theorem dL_some_10 : decode cL_some 10 = .ok (.iadd, 1) := by decide +kernel
theorem dL_some_11 : decode cL_some 11 = .ok (.goto 4, 3) := by decide +kernel
theorem dL_some_14 : decode cL_some 14 = .ok (.iload_n 2, 1) := by decide +kernel
theorem dL_some_15 : decode cL_some 15 = .ok (.ireturn, 1) := by decide +kernel
theorem dL_build_0 : decode cL_build 0 = .ok (.aload_n 1, 1) := by decide +kernel
theorem dL_build_1 : decode cL_build 1 = .ok (.arraylength, 1) := by decide +kernel
theorem dL_build_2 : decode cL_build 2 = .ok (.iconst 4, 1) := by decide +kernel
theorem dL_build_3 : decode cL_build 3 = .ok (.if_icmp .ne 22, 3) := by decide +kernel
theorem dL_build_6 : decode cL_build 6 = .ok (.aload_n 0, 1) := by decide +kernel
theorem dL_build_7 : decode cL_build 7 = .ok (.aload_n 1, 1) := by decide +kernel
theorem dL_build_8 : decode cL_build 8 = .ok (.iconst 0, 1) := by decide +kernel
theorem dL_build_9 : decode cL_build 9 = .ok (.iaload, 1) := by decide +kernel
theorem dL_build_10 : decode cL_build 10 = .ok (.aload_n 1, 1) := by decide +kernel
theorem dL_build_11 : decode cL_build 11 = .ok (.iconst 1, 1) := by decide +kernel
theorem dL_build_12 : decode cL_build 12 = .ok (.iaload, 1) := by decide +kernel
theorem dL_build_13 : decode cL_build 13 = .ok (.aload_n 1, 1) := by decide +kernel
theorem dL_build_14 : decode cL_build 14 = .ok (.iconst 2, 1) := by decide +kernel
theorem dL_build_15 : decode cL_build 15 = .ok (.iaload, 1) := by decide +kernel
theorem dL_build_16 : decode cL_build 16 = .ok (.aload_n 1, 1) := by decide +kernel
theorem dL_build_17 : decode cL_build 17 = .ok (.iconst 3, 1) := by decide +kernel
theorem dL_build_18 : decode cL_build 18 = .ok (.iaload, 1) := by decide +kernel
theorem dL_build_19 : decode cL_build 19 = .ok (.invokevirtual 7, 3) := by decide +kernel
theorem dL_build_22 : decode cL_build 22 = .ok (.goto 25, 3) := by decide +kernel
theorem dL_build_25 : decode cL_build 25 = .ok (.aload_n 0, 1) := by decide +kernel
theorem dL_build_26 : decode cL_build 26 = .ok (.aload_n 1, 1) := by decide +kernel
theorem dL_build_27 : decode cL_build 27 = .ok (.iconst 0, 1) := by decide +kernel
theorem dL_build_28 : decode cL_build 28 = .ok (.iaload, 1) := by decide +kernel
theorem dL_build_29 : decode cL_build 29 = .ok (.aload_n 1, 1) := by decide +kernel
theorem dL_build_30 : decode cL_build 30 = .ok (.iconst 1, 1) := by decide +kernel
theorem dL_build_31 : decode cL_build 31 = .ok (.iaload, 1) := by decide +kernel
theorem dL_build_32 : decode cL_build 32 = .ok (.aload_n 1, 1) := by decide +kernel
theorem dL_build_33 : decode cL_build 33 = .ok (.iconst 2, 1) := by decide +kernel
theorem dL_build_34 : decode cL_build 34 = .ok (.iaload, 1) := by decide +kernel
theorem dL_build_35 : decode cL_build 35 = .ok (.aload_n 1, 1) := by decide +kernel
theorem dL_build_36 : decode cL_build 36 = .ok (.iconst 3, 1) := by decide +kernel
theorem dL_build_37 : decode cL_build 37 = .ok (.iaload, 1) := by decide +kernel
theorem dL_build_38 : decode cL_build 38 = .ok (.aload_n 1, 1) := by decide +kernel
theorem dL_build_39 : decode cL_build 39 = .ok (.iconst 4, 1) := by decide +kernel
theorem dL_build_40 : decode cL_build 40 = .ok (.iaload, 1) := by decide +kernel
theorem dL_build_41 : decode cL_build 41 = .ok (.aload_n 1, 1) := by decide +kernel
theorem dL_build_42 : decode cL_build 42 = .ok (.iconst 5, 1) := by decide +kernel
theorem dL_build_43 : decode cL_build 43 = .ok (.iaload, 1) := by decide +kernel
theorem dL_build_44 : decode cL_build 44 = .ok (.invokevirtual 13, 3) := by decide +kernel
theorem dL_build_47 : decode cL_build 47 = .ok (.ireturn, 1) := by decide +kernel
theorem dL_build_48 : decode cL_build 48 = .ok (.astore_n 2, 1) := by decide +kernel
theorem dL_build_49 : decode cL_build 49 = .ok (.sipush (-1001), 3) := by decide +kernel
theorem dL_build_52 : decode cL_build 52 = .ok (.ireturn, 1) := by decide +kernel
theorem dL_build_53 : decode cL_build 53 = .ok (.astore_n 2, 1) := by decide +kernel
theorem dL_build_54 : decode cL_build 54 = .ok (.sipush (-1002), 3) := by decide +kernel
theorem dL_build_57 : decode cL_build 57 = .ok (.ireturn, 1) := by decide +kernel
theorem dL_build_58 : decode cL_build 58 = .ok (.astore_n 2, 1) := by decide +kernel
theorem dL_build_59 : decode cL_build 59 = .ok (.sipush (-1003), 3) := by decide +kernel
theorem dL_build_62 : decode cL_build 62 = .ok (.ireturn, 1) := by decide +kernel
theorem dL_three_0 : decode cL_three 0 = .ok (.iload_n 1, 1) := by decide +kernel
theorem dL_three_1 : decode cL_three 1 = .ok (.bipush 100, 2) := by decide +kernel
theorem dL_three_3 : decode cL_three 3 = .ok (.if_icmp .ne 14, 3) := by decide +kernel
theorem dL_three_6 : decode cL_three 6 = .ok (.aload_n 0, 1) := by decide +kernel
theorem dL_three_7 : decode cL_three 7 = .ok (.iload_n 2, 1) := by decide +kernel
theorem dL_three_8 : decode cL_three 8 = .ok (.iload_n 3, 1) := by decide +kernel
theorem dL_three_9 : decode cL_three 9 = .ok (.iload 4, 2) := by decide +kernel
theorem dL_three_11 : decode cL_three 11 = .ok (.invokevirtual 23, 3) := by decide +kernel
theorem dL_three_14 : decode cL_three 14 = .ok (.goto 11, 3) := by decide +kernel
theorem dL_three_17 : decode cL_three 17 = .ok (.aload_n 0, 1) := by decide +kernel
theorem dL_three_18 : decode cL_three 18 = .ok (.iload_n 2, 1) := by decide +kernel
theorem dL_three_19 : decode cL_three 19 = .ok (.iload_n 3, 1) := by decide +kernel
theorem dL_three_20 : decode cL_three 20 = .ok (.iload 4, 2) := by decide +kernel
theorem dL_three_22 : decode cL_three 22 = .ok (.invokevirtual 27, 3) := by decide +kernel
theorem dL_three_25 : decode cL_three 25 = .ok (.ireturn, 1) := by decide +kernel
theorem dL_three_26 : decode cL_three 26 = .ok (.astore 5, 2) := by decide +kernel
theorem dL_three_28 : decode cL_three 28 = .ok (.sipush (-1001), 3) := by decide +kernel
theorem dL_three_31 : decode cL_three 31 = .ok (.ireturn, 1) := by decide +kernel
theorem dL_three_32 : decode cL_three 32 = .ok (.astore 5, 2) := by decide +kernel
theorem dL_three_34 : decode cL_three 34 = .ok (.sipush (-1002), 3) := by decide +kernel
theorem dL_three_37 : decode cL_three 37 = .ok (.ireturn, 1) := by decide +kernel
theorem dL_three_38 : decode cL_three 38 = .ok (.astore 5, 2) := by decide +kernel
theorem dL_three_40 : decode cL_three 40 = .ok (.sipush (-1003), 3) := by decide +kernel
theorem dL_three_43 : decode cL_three 43 = .ok (.ireturn, 1) := by decide +kernel
theorem dL_three_44 : decode cL_three 44 = .ok (.astore 5, 2) := by decide +kernel
theorem dL_three_46 : decode cL_three 46 = .ok (.sipush (-1004), 3) := by decide +kernel
theorem dL_three_49 : decode cL_three 49 = .ok (.ireturn, 1) := by decide +kernel
theorem dL_of_0 : decode cL_of 0 = .ok (.iload_n 2, 1) := by decide +kernel
theorem dL_of_1 : decode cL_of 1 = .ok (.tableswitch 105 0 8 #[51, 57, 63, 69, 75, 81, 87, 93, 99], 51) := by decide +kernel
theorem dL_of_52 : decode cL_of 52 = .ok (.aload_n 0, 1) := by decide +kernel
theorem dL_of_53 : decode cL_of 53 = .ok (.iload_n 1, 1) := by decide +kernel
theorem dL_of_54 : decode cL_of 54 = .ok (.invokevirtual 32, 3) := by decide +kernel
theorem dL_of_57 : decode cL_of 57 = .ok (.ireturn, 1) := by decide +kernel
theorem dL_of_58 : decode cL_of 58 = .ok (.aload_n 0, 1) := by decide +kernel
theorem dL_of_59 : decode cL_of 59 = .ok (.iload_n 1, 1) := by decide +kernel
theorem dL_of_60 : decode cL_of 60 = .ok (.invokevirtual 36, 3) := by decide +kernel
theorem dL_of_63 : decode cL_of 63 = .ok (.ireturn, 1) := by decide +kernel
theorem dL_of_64 : decode cL_of 64 = .ok (.aload_n 0, 1) := by decide +kernel
theorem dL_of_65 : decode cL_of 65 = .ok (.iload_n 1, 1) := by decide +kernel
theorem dL_of_66 : decode cL_of 66 = .ok (.invokevirtual 39, 3) := by decide +kernel
theorem dL_of_69 : decode cL_of 69 = .ok (.ireturn, 1) := by decide +kernel
theorem dL_of_70 : decode cL_of 70 = .ok (.aload_n 0, 1) := by decide +kernel
theorem dL_of_71 : decode cL_of 71 = .ok (.iload_n 1, 1) := by decide +kernel
theorem dL_of_72 : decode cL_of 72 = .ok (.invokevirtual 43, 3) := by decide +kernel
theorem dL_of_75 : decode cL_of 75 = .ok (.ireturn, 1) := by decide +kernel
theorem dL_of_76 : decode cL_of 76 = .ok (.aload_n 0, 1) := by decide +kernel
theorem dL_of_77 : decode cL_of 77 = .ok (.iload_n 1, 1) := by decide +kernel
theorem dL_of_78 : decode cL_of 78 = .ok (.invokevirtual 46, 3) := by decide +kernel
theorem dL_of_81 : decode cL_of 81 = .ok (.ireturn, 1) := by decide +kernel
theorem dL_of_82 : decode cL_of 82 = .ok (.aload_n 0, 1) := by decide +kernel
theorem dL_of_83 : decode cL_of 83 = .ok (.iload_n 1, 1) := by decide +kernel
theorem dL_of_84 : decode cL_of 84 = .ok (.invokevirtual 49, 3) := by decide +kernel
theorem dL_of_87 : decode cL_of 87 = .ok (.ireturn, 1) := by decide +kernel
theorem dL_of_88 : decode cL_of 88 = .ok (.aload_n 0, 1) := by decide +kernel
theorem dL_of_89 : decode cL_of 89 = .ok (.iload_n 1, 1) := by decide +kernel
theorem dL_of_90 : decode cL_of 90 = .ok (.invokevirtual 52, 3) := by decide +kernel
theorem dL_of_93 : decode cL_of 93 = .ok (.ireturn, 1) := by decide +kernel
theorem dL_of_94 : decode cL_of 94 = .ok (.aload_n 0, 1) := by decide +kernel
theorem dL_of_95 : decode cL_of 95 = .ok (.iload_n 1, 1) := by decide +kernel
theorem dL_of_96 : decode cL_of 96 = .ok (.invokevirtual 55, 3) := by decide +kernel
theorem dL_of_99 : decode cL_of 99 = .ok (.ireturn, 1) := by decide +kernel
theorem dL_of_100 : decode cL_of 100 = .ok (.aload_n 0, 1) := by decide +kernel
theorem dL_of_101 : decode cL_of 101 = .ok (.iload_n 1, 1) := by decide +kernel
theorem dL_of_102 : decode cL_of 102 = .ok (.invokevirtual 58, 3) := by decide +kernel
theorem dL_of_105 : decode cL_of 105 = .ok (.ireturn, 1) := by decide +kernel
theorem dL_of_106 : decode cL_of 106 = .ok (.aload_n 0, 1) := by decide +kernel
theorem dL_of_107 : decode cL_of 107 = .ok (.iload_n 1, 1) := by decide +kernel
theorem dL_of_108 : decode cL_of 108 = .ok (.invokevirtual 61, 3) := by decide +kernel
theorem dL_of_111 : decode cL_of 111 = .ok (.ireturn, 1) := by decide +kernel
theorem dL_of_112 : decode cL_of 112 = .ok (.astore_n 3, 1) := by decide +kernel
theorem dL_of_113 : decode cL_of 113 = .ok (.sipush (-1001), 3) := by decide +kernel
theorem dL_of_116 : decode cL_of 116 = .ok (.ireturn, 1) := by decide +kernel
theorem dL_of_117 : decode cL_of 117 = .ok (.astore_n 3, 1) := by decide +kernel
theorem dL_of_118 : decode cL_of 118 = .ok (.sipush (-1003), 3) := by decide +kernel
theorem dL_of_121 : decode cL_of 121 = .ok (.ireturn, 1) := by decide +kernel
theorem dL_device_0 : decode cL_device 0 = .ok (.iload_n 2, 1) := by decide +kernel
theorem dL_device_1 : decode cL_device 1 = .ok (.ifCond .ne 11, 3) := by decide +kernel
theorem dL_device_4 : decode cL_device 4 = .ok (.aload_n 0, 1) := by decide +kernel
theorem dL_device_5 : decode cL_device 5 = .ok (.iload_n 1, 1) := by decide +kernel
theorem dL_device_6 : decode cL_device 6 = .ok (.invokevirtual 64, 3) := by decide +kernel
theorem dL_device_9 : decode cL_device 9 = .ok (.goto 34, 3) := by decide +kernel
theorem dL_device_12 : decode cL_device 12 = .ok (.iload_n 2, 1) := by decide +kernel
theorem dL_device_13 : decode cL_device 13 = .ok (.iconst 1, 1) := by decide +kernel
theorem dL_device_14 : decode cL_device 14 = .ok (.if_icmp .ne 11, 3) := by decide +kernel
theorem dL_device_17 : decode cL_device 17 = .ok (.aload_n 0, 1) := by decide +kernel
theorem dL_device_18 : decode cL_device 18 = .ok (.iload_n 1, 1) := by decide +kernel
theorem dL_device_19 : decode cL_device 19 = .ok (.invokevirtual 67, 3) := by decide +kernel
theorem dL_device_22 : decode cL_device 22 = .ok (.goto 21, 3) := by decide +kernel
theorem dL_device_25 : decode cL_device 25 = .ok (.iload_n 2, 1) := by decide +kernel
theorem dL_device_26 : decode cL_device 26 = .ok (.iconst 2, 1) := by decide +kernel
theorem dL_device_27 : decode cL_device 27 = .ok (.if_icmp .ne 11, 3) := by decide +kernel
theorem dL_device_30 : decode cL_device 30 = .ok (.aload_n 0, 1) := by decide +kernel
theorem dL_device_31 : decode cL_device 31 = .ok (.iload_n 1, 1) := by decide +kernel
theorem dL_device_32 : decode cL_device 32 = .ok (.invokevirtual 70, 3) := by decide +kernel
theorem dL_device_35 : decode cL_device 35 = .ok (.goto 8, 3) := by decide +kernel
theorem dL_device_38 : decode cL_device 38 = .ok (.aload_n 0, 1) := by decide +kernel
theorem dL_device_39 : decode cL_device 39 = .ok (.iload_n 1, 1) := by decide +kernel
theorem dL_device_40 : decode cL_device 40 = .ok (.invokevirtual 73, 3) := by decide +kernel
theorem dL_device_43 : decode cL_device 43 = .ok (.ireturn, 1) := by decide +kernel
theorem dL_device_44 : decode cL_device 44 = .ok (.astore_n 3, 1) := by decide +kernel
theorem dL_device_45 : decode cL_device 45 = .ok (.sipush (-1001), 3) := by decide +kernel
theorem dL_device_48 : decode cL_device 48 = .ok (.ireturn, 1) := by decide +kernel
theorem dL_device_49 : decode cL_device 49 = .ok (.astore_n 3, 1) := by decide +kernel
theorem dL_device_50 : decode cL_device 50 = .ok (.sipush (-1003), 3) := by decide +kernel
theorem dL_device_53 : decode cL_device 53 = .ok (.ireturn, 1) := by decide +kernel
theorem dL_both_0 : decode cL_both 0 = .ok (.iload_n 1, 1) := by decide +kernel
theorem dL_both_1 : decode cL_both 1 = .ok (.lookupswitch 110 #[(98, 73), (99, 51), (111, 80), (114, 66), (117, 95)], 51) := by decide +kernel
theorem dL_both_52 : decode cL_both 52 = .ok (.aload_n 0, 1) := by decide +kernel
theorem dL_both_53 : decode cL_both 53 = .ok (.iload_n 2, 1) := by decide +kernel
theorem dL_both_54 : decode cL_both 54 = .ok (.iload_n 3, 1) := by decide +kernel
theorem dL_both_55 : decode cL_both 55 = .ok (.invokevirtual 76, 3) := by decide +kernel
theorem dL_both_58 : decode cL_both 58 = .ok (.ifCond .eq 7, 3) := by decide +kernel
theorem dL_both_61 : decode cL_both 61 = .ok (.iconst 1, 1) := by decide +kernel
theorem dL_both_62 : decode cL_both 62 = .ok (.goto 4, 3) := by decide +kernel
theorem dL_both_65 : decode cL_both 65 = .ok (.iconst 0, 1) := by decide +kernel
theorem dL_both_66 : decode cL_both 66 = .ok (.ireturn, 1) := by decide +kernel
theorem dL_both_67 : decode cL_both 67 = .ok (.aload_n 0, 1) := by decide +kernel
theorem dL_both_68 : decode cL_both 68 = .ok (.iload_n 2, 1) := by decide +kernel
theorem dL_both_69 : decode cL_both 69 = .ok (.iload_n 3, 1) := by decide +kernel
theorem dL_both_70 : decode cL_both 70 = .ok (.invokevirtual 80, 3) := by decide +kernel
theorem dL_both_73 : decode cL_both 73 = .ok (.ireturn, 1) := by decide +kernel
theorem dL_both_74 : decode cL_both 74 = .ok (.aload_n 0, 1) := by decide +kernel
theorem dL_both_75 : decode cL_both 75 = .ok (.iload_n 2, 1) := by decide +kernel
theorem dL_both_76 : decode cL_both 76 = .ok (.iload_n 3, 1) := by decide +kernel
theorem dL_both_77 : decode cL_both 77 = .ok (.invokevirtual 84, 3) := by decide +kernel
theorem dL_both_80 : decode cL_both 80 = .ok (.ireturn, 1) := by decide +kernel
theorem dL_both_81 : decode cL_both 81 = .ok (.aload_n 0, 1) := by decide +kernel
theorem dL_both_82 : decode cL_both 82 = .ok (.iload_n 2, 1) := by decide +kernel
theorem dL_both_83 : decode cL_both 83 = .ok (.iload_n 3, 1) := by decide +kernel
theorem dL_both_84 : decode cL_both 84 = .ok (.invokevirtual 87, 3) := by decide +kernel
theorem dL_both_87 : decode cL_both 87 = .ok (.ifCond .eq 7, 3) := by decide +kernel
theorem dL_both_90 : decode cL_both 90 = .ok (.iconst 1, 1) := by decide +kernel
theorem dL_both_91 : decode cL_both 91 = .ok (.goto 4, 3) := by decide +kernel
theorem dL_both_94 : decode cL_both 94 = .ok (.iconst 0, 1) := by decide +kernel
theorem dL_both_95 : decode cL_both 95 = .ok (.ireturn, 1) := by decide +kernel
theorem dL_both_96 : decode cL_both 96 = .ok (.aload_n 0, 1) := by decide +kernel
theorem dL_both_97 : decode cL_both 97 = .ok (.iload_n 2, 1) := by decide +kernel
theorem dL_both_98 : decode cL_both 98 = .ok (.iload_n 3, 1) := by decide +kernel
theorem dL_both_99 : decode cL_both 99 = .ok (.invokevirtual 90, 3) := by decide +kernel
theorem dL_both_102 : decode cL_both 102 = .ok (.ifCond .eq 7, 3) := by decide +kernel
theorem dL_both_105 : decode cL_both 105 = .ok (.iconst 1, 1) := by decide +kernel
theorem dL_both_106 : decode cL_both 106 = .ok (.goto 4, 3) := by decide +kernel
theorem dL_both_109 : decode cL_both 109 = .ok (.iconst 0, 1) := by decide +kernel
theorem dL_both_110 : decode cL_both 110 = .ok (.ireturn, 1) := by decide +kernel
theorem dL_both_111 : decode cL_both 111 = .ok (.aload_n 0, 1) := by decide +kernel
theorem dL_both_112 : decode cL_both 112 = .ok (.iload_n 2, 1) := by decide +kernel
theorem dL_both_113 : decode cL_both 113 = .ok (.iload_n 3, 1) := by decide +kernel
theorem dL_both_114 : decode cL_both 114 = .ok (.invokevirtual 93, 3) := by decide +kernel
theorem dL_both_117 : decode cL_both 117 = .ok (.ireturn, 1) := by decide +kernel
theorem dL_both_118 : decode cL_both 118 = .ok (.astore 4, 2) := by decide +kernel
theorem dL_both_120 : decode cL_both 120 = .ok (.sipush (-1001), 3) := by decide +kernel
theorem dL_both_123 : decode cL_both 123 = .ok (.ireturn, 1) := by decide +kernel
theorem dL_both_124 : decode cL_both 124 = .ok (.astore 4, 2) := by decide +kernel
theorem dL_both_126 : decode cL_both 126 = .ok (.sipush (-1002), 3) := by decide +kernel
theorem dL_both_129 : decode cL_both 129 = .ok (.ireturn, 1) := by decide +kernel
theorem dL_both_130 : decode cL_both 130 = .ok (.astore 4, 2) := by decide +kernel
theorem dL_both_132 : decode cL_both 132 = .ok (.sipush (-1003), 3) := by decide +kernel
theorem dL_both_135 : decode cL_both 135 = .ok (.ireturn, 1) := by decide +kernel
theorem dL_both_136 : decode cL_both 136 = .ok (.astore 4, 2) := by decide +kernel
theorem dL_both_138 : decode cL_both 138 = .ok (.sipush (-1004), 3) := by decide +kernel
theorem dL_both_141 : decode cL_both 141 = .ok (.ireturn, 1) := by decide +kernel
theorem dL_sets_0 : decode cL_sets 0 = .ok (.iload_n 1, 1) := by decide +kernel
theorem dL_sets_1 : decode cL_sets 1 = .ok (.lookupswitch 81 #[(98, 57), (100, 75), (111, 63), (114, 69), (115, 51)], 51) := by decide +kernel
theorem dL_sets_52 : decode cL_sets 52 = .ok (.aload_n 0, 1) := by decide +kernel
theorem dL_sets_53 : decode cL_sets 53 = .ok (.iload_n 2, 1) := by decide +kernel
theorem dL_sets_54 : decode cL_sets 54 = .ok (.invokevirtual 96, 3) := by decide +kernel
theorem dL_sets_57 : decode cL_sets 57 = .ok (.ireturn, 1) := by decide +kernel
theorem dL_sets_58 : decode cL_sets 58 = .ok (.aload_n 0, 1) := by decide +kernel
theorem dL_sets_59 : decode cL_sets 59 = .ok (.iload_n 2, 1) := by decide +kernel
theorem dL_sets_60 : decode cL_sets 60 = .ok (.invokevirtual 99, 3) := by decide +kernel
theorem dL_sets_63 : decode cL_sets 63 = .ok (.ireturn, 1) := by decide +kernel
theorem dL_sets_64 : decode cL_sets 64 = .ok (.aload_n 0, 1) := by decide +kernel
theorem dL_sets_65 : decode cL_sets 65 = .ok (.iload_n 2, 1) := by decide +kernel
theorem dL_sets_66 : decode cL_sets 66 = .ok (.invokevirtual 102, 3) := by decide +kernel
theorem dL_sets_69 : decode cL_sets 69 = .ok (.ireturn, 1) := by decide +kernel
theorem dL_sets_70 : decode cL_sets 70 = .ok (.aload_n 0, 1) := by decide +kernel
theorem dL_sets_71 : decode cL_sets 71 = .ok (.iload_n 2, 1) := by decide +kernel
theorem dL_sets_72 : decode cL_sets 72 = .ok (.invokevirtual 105, 3) := by decide +kernel
theorem dL_sets_75 : decode cL_sets 75 = .ok (.ireturn, 1) := by decide +kernel
theorem dL_sets_76 : decode cL_sets 76 = .ok (.aload_n 0, 1) := by decide +kernel
theorem dL_sets_77 : decode cL_sets 77 = .ok (.iload_n 2, 1) := by decide +kernel
theorem dL_sets_78 : decode cL_sets 78 = .ok (.invokevirtual 108, 3) := by decide +kernel
theorem dL_sets_81 : decode cL_sets 81 = .ok (.ireturn, 1) := by decide +kernel
theorem dL_sets_82 : decode cL_sets 82 = .ok (.aload_n 0, 1) := by decide +kernel
theorem dL_sets_83 : decode cL_sets 83 = .ok (.iload_n 2, 1) := by decide +kernel
theorem dL_sets_84 : decode cL_sets 84 = .ok (.i2c, 1) := by decide +kernel
theorem dL_sets_85 : decode cL_sets 85 = .ok (.invokevirtual 111, 3) := by decide +kernel
theorem dL_sets_88 : decode cL_sets 88 = .ok (.ireturn, 1) := by decide +kernel
theorem dL_sets_89 : decode cL_sets 89 = .ok (.astore_n 3, 1) := by decide +kernel
theorem dL_sets_90 : decode cL_sets 90 = .ok (.sipush (-1002), 3) := by decide +kernel
theorem dL_sets_93 : decode cL_sets 93 = .ok (.ireturn, 1) := by decide +kernel
theorem dL_sets_94 : decode cL_sets 94 = .ok (.astore_n 3, 1) := by decide +kernel
theorem dL_sets_95 : decode cL_sets 95 = .ok (.sipush (-1003), 3) := by decide +kernel
theorem dL_sets_98 : decode cL_sets 98 = .ok (.ireturn, 1) := by decide +kernel
theorem dL_asked_0 : decode cL_asked 0 = .ok (.iload_n 1, 1) := by decide +kernel
theorem dL_asked_1 : decode cL_asked 1 = .ok (.ifCond .ne 10, 3) := by decide +kernel
theorem dL_asked_4 : decode cL_asked 4 = .ok (.aload_n 0, 1) := by decide +kernel
theorem dL_asked_5 : decode cL_asked 5 = .ok (.invokevirtual 115, 3) := by decide +kernel
theorem dL_asked_8 : decode cL_asked 8 = .ok (.goto 19, 3) := by decide +kernel
theorem dL_asked_11 : decode cL_asked 11 = .ok (.iload_n 1, 1) := by decide +kernel
theorem dL_asked_12 : decode cL_asked 12 = .ok (.iconst 1, 1) := by decide +kernel
theorem dL_asked_13 : decode cL_asked 13 = .ok (.if_icmp .ne 10, 3) := by decide +kernel
theorem dL_asked_16 : decode cL_asked 16 = .ok (.aload_n 0, 1) := by decide +kernel
theorem dL_asked_17 : decode cL_asked 17 = .ok (.invokevirtual 119, 3) := by decide +kernel
theorem dL_asked_20 : decode cL_asked 20 = .ok (.goto 7, 3) := by decide +kernel
theorem dL_asked_23 : decode cL_asked 23 = .ok (.aload_n 0, 1) := by decide +kernel
theorem dL_asked_24 : decode cL_asked 24 = .ok (.invokevirtual 123, 3) := by decide +kernel
theorem dL_asked_27 : decode cL_asked 27 = .ok (.ireturn, 1) := by decide +kernel
theorem dL_asked_28 : decode cL_asked 28 = .ok (.astore_n 2, 1) := by decide +kernel
theorem dL_asked_29 : decode cL_asked 29 = .ok (.sipush (-1003), 3) := by decide +kernel
theorem dL_asked_32 : decode cL_asked 32 = .ok (.ireturn, 1) := by decide +kernel
theorem dL_group_0 : decode cL_group 0 = .ok (.iload_n 1, 1) := by decide +kernel
theorem dL_group_1 : decode cL_group 1 = .ok (.bipush (-9), 2) := by decide +kernel
theorem dL_group_3 : decode cL_group 3 = .ok (.if_icmp .ne 11, 3) := by decide +kernel
theorem dL_group_6 : decode cL_group 6 = .ok (.aload_n 0, 1) := by decide +kernel
theorem dL_group_7 : decode cL_group 7 = .ok (.iload_n 2, 1) := by decide +kernel
theorem dL_group_8 : decode cL_group 8 = .ok (.invokevirtual 126, 3) := by decide +kernel
theorem dL_group_11 : decode cL_group 11 = .ok (.goto 46, 3) := by decide +kernel
theorem dL_group_14 : decode cL_group 14 = .ok (.iload_n 2, 1) := by decide +kernel
theorem dL_group_15 : decode cL_group 15 = .ok (.iconst (-1), 1) := by decide +kernel
theorem dL_group_16 : decode cL_group 16 = .ok (.if_icmp .ne 11, 3) := by decide +kernel
theorem dL_group_19 : decode cL_group 19 = .ok (.aload_n 0, 1) := by decide +kernel
theorem dL_group_20 : decode cL_group 20 = .ok (.iload_n 1, 1) := by decide +kernel
theorem dL_group_21 : decode cL_group 21 = .ok (.invokevirtual 129, 3) := by decide +kernel
theorem dL_group_24 : decode cL_group 24 = .ok (.goto 33, 3) := by decide +kernel
theorem dL_group_27 : decode cL_group 27 = .ok (.iload_n 2, 1) := by decide +kernel
theorem dL_group_28 : decode cL_group 28 = .ok (.bipush (-2), 2) := by decide +kernel
theorem dL_group_30 : decode cL_group 30 = .ok (.if_icmp .ne 11, 3) := by decide +kernel
theorem dL_group_33 : decode cL_group 33 = .ok (.aload_n 0, 1) := by decide +kernel
theorem dL_group_34 : decode cL_group 34 = .ok (.iload_n 1, 1) := by decide +kernel
theorem dL_group_35 : decode cL_group 35 = .ok (.invokevirtual 132, 3) := by decide +kernel
theorem dL_group_38 : decode cL_group 38 = .ok (.goto 19, 3) := by decide +kernel
theorem dL_group_41 : decode cL_group 41 = .ok (.aload_n 0, 1) := by decide +kernel
theorem dL_group_42 : decode cL_group 42 = .ok (.iload_n 1, 1) := by decide +kernel
theorem dL_group_43 : decode cL_group 43 = .ok (.iload_n 2, 1) := by decide +kernel
theorem dL_group_44 : decode cL_group 44 = .ok (.bipush (-3), 2) := by decide +kernel
theorem dL_group_46 : decode cL_group 46 = .ok (.if_icmp .ne 7, 3) := by decide +kernel
theorem dL_group_49 : decode cL_group 49 = .ok (.iconst (-1), 1) := by decide +kernel
theorem dL_group_50 : decode cL_group 50 = .ok (.goto 4, 3) := by decide +kernel
theorem dL_group_53 : decode cL_group 53 = .ok (.iload_n 2, 1) := by decide +kernel
theorem dL_group_54 : decode cL_group 54 = .ok (.invokevirtual 135, 3) := by decide +kernel
theorem dL_group_57 : decode cL_group 57 = .ok (.ireturn, 1) := by decide +kernel
theorem dL_group_58 : decode cL_group 58 = .ok (.astore_n 3, 1) := by decide +kernel
theorem dL_group_59 : decode cL_group 59 = .ok (.sipush (-1001), 3) := by decide +kernel
theorem dL_group_62 : decode cL_group 62 = .ok (.ireturn, 1) := by decide +kernel
theorem dL_group_63 : decode cL_group 63 = .ok (.astore_n 3, 1) := by decide +kernel
theorem dL_group_64 : decode cL_group 64 = .ok (.sipush (-1005), 3) := by decide +kernel
theorem dL_group_67 : decode cL_group 67 = .ok (.ireturn, 1) := by decide +kernel
theorem dL_like_0 : decode cL_like 0 = .ok (.iload_n 2, 1) := by decide +kernel
theorem dL_like_1 : decode cL_like 1 = .ok (.bipush (-9), 2) := by decide +kernel
theorem dL_like_3 : decode cL_like 3 = .ok (.if_icmp .ne 11, 3) := by decide +kernel
theorem dL_like_6 : decode cL_like 6 = .ok (.aload_n 0, 1) := by decide +kernel
theorem dL_like_7 : decode cL_like 7 = .ok (.iload_n 1, 1) := by decide +kernel
theorem dL_like_8 : decode cL_like 8 = .ok (.invokevirtual 141, 3) := by decide +kernel
theorem dL_like_11 : decode cL_like 11 = .ok (.goto 9, 3) := by decide +kernel
theorem dL_like_14 : decode cL_like 14 = .ok (.aload_n 0, 1) := by decide +kernel
theorem dL_like_15 : decode cL_like 15 = .ok (.iload_n 1, 1) := by decide +kernel
theorem dL_like_16 : decode cL_like 16 = .ok (.iload_n 2, 1) := by decide +kernel
theorem dL_like_17 : decode cL_like 17 = .ok (.invokevirtual 145, 3) := by decide +kernel
theorem dL_like_20 : decode cL_like 20 = .ok (.freturn, 1) := by decide +kernel
theorem dL_like_21 : decode cL_like 21 = .ok (.astore_n 3, 1) := by decide +kernel
theorem dL_like_22 : decode cL_like 22 = .ok (.ldc 149, 2) := by decide +kernel
theorem dL_like_24 : decode cL_like 24 = .ok (.freturn, 1) := by decide +kernel
theorem dL_rating_0 : decode cL_rating 0 = .ok (.aload_n 0, 1) := by decide +kernel
theorem dL_rating_1 : decode cL_rating 1 = .ok (.iload_n 1, 1) := by decide +kernel
theorem dL_rating_2 : decode cL_rating 2 = .ok (.invokevirtual 150, 3) := by decide +kernel
theorem dL_rating_5 : decode cL_rating 5 = .ok (.dreturn, 1) := by decide +kernel
theorem dL_rating_6 : decode cL_rating 6 = .ok (.astore_n 2, 1) := by decide +kernel
theorem dL_rating_7 : decode cL_rating 7 = .ok (.ldc2_w 154, 3) := by decide +kernel
theorem dL_rating_10 : decode cL_rating 10 = .ok (.dreturn, 1) := by decide +kernel
theorem dL_rating_11 : decode cL_rating 11 = .ok (.astore_n 2, 1) := by decide +kernel
theorem dL_rating_12 : decode cL_rating 12 = .ok (.ldc2_w 158, 3) := by decide +kernel
theorem dL_rating_15 : decode cL_rating 15 = .ok (.dreturn, 1) := by decide +kernel
theorem dL_ratingBits_0 : decode cL_ratingBits 0 = .ok (.aload_n 0, 1) := by decide +kernel
theorem dL_ratingBits_1 : decode cL_ratingBits 1 = .ok (.iload_n 1, 1) := by decide +kernel
theorem dL_ratingBits_2 : decode cL_ratingBits 2 = .ok (.invokevirtual 160, 3) := by decide +kernel
theorem dL_ratingBits_5 : decode cL_ratingBits 5 = .ok (.lreturn, 1) := by decide +kernel
theorem dL_ratingBits_6 : decode cL_ratingBits 6 = .ok (.astore_n 2, 1) := by decide +kernel
theorem dL_ratingBits_7 : decode cL_ratingBits 7 = .ok (.ldc2_w 164, 3) := by decide +kernel
theorem dL_ratingBits_10 : decode cL_ratingBits 10 = .ok (.lreturn, 1) := by decide +kernel
theorem dL_ratingBits_11 : decode cL_ratingBits 11 = .ok (.astore_n 2, 1) := by decide +kernel
theorem dL_ratingBits_12 : decode cL_ratingBits 12 = .ok (.ldc2_w 166, 3) := by decide +kernel
theorem dL_ratingBits_15 : decode cL_ratingBits 15 = .ok (.lreturn, 1) := by decide +kernel
theorem dL_used_0 : decode cL_used 0 = .ok (.aload_n 0, 1) := by decide +kernel
theorem dL_used_1 : decode cL_used 1 = .ok (.invokevirtual 168, 3) := by decide +kernel
theorem dL_used_4 : decode cL_used 4 = .ok (.freturn, 1) := by decide +kernel
theorem dL_used_5 : decode cL_used 5 = .ok (.astore_n 1, 1) := by decide +kernel
theorem dL_used_6 : decode cL_used 6 = .ok (.ldc 149, 2) := by decide +kernel
theorem dL_used_8 : decode cL_used 8 = .ok (.freturn, 1) := by decide +kernel
theorem dL_builds_0 : decode cL_builds 0 = .ok (.iconst 0, 1) := by decide +kernel
theorem dL_builds_1 : decode cL_builds 1 = .ok (.istore_n 1, 1) := by decide +kernel
theorem dL_builds_2 : decode cL_builds 2 = .ok (.iload_n 1, 1) := by decide +kernel
theorem dL_builds_3 : decode cL_builds 3 = .ok (.bipush 10, 2) := by decide +kernel
theorem dL_builds_5 : decode cL_builds 5 = .ok (.if_icmp .ge 18, 3) := by decide +kernel
theorem dL_builds_8 : decode cL_builds 8 = .ok (.aload_n 0, 1) := by decide +kernel
theorem dL_builds_9 : decode cL_builds 9 = .ok (.iload_n 1, 1) := by decide +kernel
theorem dL_builds_10 : decode cL_builds 10 = .ok (.iconst 3, 1) := by decide +kernel
theorem dL_builds_11 : decode cL_builds 11 = .ok (.invokestatic 172, 3) := by decide +kernel
theorem dL_builds_14 : decode cL_builds 14 = .ok (.ifCond .lt 9, 3) := by decide +kernel
theorem dL_builds_17 : decode cL_builds 17 = .ok (.iinc 1 1, 3) := by decide +kernel
theorem dL_builds_20 : decode cL_builds 20 = .ok (.goto (-18), 3) := by decide +kernel
theorem dL_builds_23 : decode cL_builds 23 = .ok (.iload_n 1, 1) := by decide +kernel
theorem dL_builds_24 : decode cL_builds 24 = .ok (.ireturn, 1) := by decide +kernel
theorem dL_devices_0 : decode cL_devices 0 = .ok (.iconst 0, 1) := by decide +kernel
theorem dL_devices_1 : decode cL_devices 1 = .ok (.istore_n 1, 1) := by decide +kernel
theorem dL_devices_2 : decode cL_devices 2 = .ok (.iload_n 1, 1) := by decide +kernel
theorem dL_devices_3 : decode cL_devices 3 = .ok (.bipush 12, 2) := by decide +kernel
theorem dL_devices_5 : decode cL_devices 5 = .ok (.if_icmp .ge 20, 3) := by decide +kernel
theorem dL_devices_8 : decode cL_devices 8 = .ok (.aload_n 0, 1) := by decide +kernel
theorem dL_devices_9 : decode cL_devices 9 = .ok (.bipush 111, 2) := by decide +kernel
theorem dL_devices_11 : decode cL_devices 11 = .ok (.iload_n 1, 1) := by decide +kernel
theorem dL_devices_12 : decode cL_devices 12 = .ok (.iconst 0, 1) := by decide +kernel
theorem dL_devices_13 : decode cL_devices 13 = .ok (.invokestatic 178, 3) := by decide +kernel
theorem dL_devices_16 : decode cL_devices 16 = .ok (.ifCond .lt 9, 3) := by decide +kernel
theorem dL_devices_19 : decode cL_devices 19 = .ok (.iinc 1 1, 3) := by decide +kernel
theorem dL_devices_22 : decode cL_devices 22 = .ok (.goto (-20), 3) := by decide +kernel
theorem dL_devices_25 : decode cL_devices 25 = .ok (.iload_n 1, 1) := by decide +kernel
theorem dL_devices_26 : decode cL_devices 26 = .ok (.ireturn, 1) := by decide +kernel
theorem dL_sum_0 : decode cL_sum 0 = .ok (.aload_n 0, 1) := by decide +kernel
theorem dL_sum_1 : decode cL_sum 1 = .ok (.invokestatic 182, 3) := by decide +kernel
theorem dL_sum_4 : decode cL_sum 4 = .ok (.istore_n 1, 1) := by decide +kernel
theorem dL_sum_5 : decode cL_sum 5 = .ok (.aload_n 0, 1) := by decide +kernel
theorem dL_sum_6 : decode cL_sum 6 = .ok (.invokestatic 186, 3) := by decide +kernel
theorem dL_sum_9 : decode cL_sum 9 = .ok (.istore_n 2, 1) := by decide +kernel
theorem dL_sum_10 : decode cL_sum 10 = .ok (.aload_n 0, 1) := by decide +kernel
theorem dL_sum_11 : decode cL_sum 11 = .ok (.invokevirtual 189, 3) := by decide +kernel
theorem dL_sum_14 : decode cL_sum 14 = .ok (.i2l, 1) := by decide +kernel
theorem dL_sum_15 : decode cL_sum 15 = .ok (.ldc2_w 192, 3) := by decide +kernel
theorem dL_sum_18 : decode cL_sum 18 = .ok (.aload_n 0, 1) := by decide +kernel
theorem dL_sum_19 : decode cL_sum 19 = .ok (.invokevirtual 194, 3) := by decide +kernel
theorem dL_sum_22 : decode cL_sum 22 = .ok (.i2l, 1) := by decide +kernel
theorem dL_sum_23 : decode cL_sum 23 = .ok (.lmul, 1) := by decide +kernel
theorem dL_sum_24 : decode cL_sum 24 = .ok (.ladd, 1) := by decide +kernel
theorem dL_sum_25 : decode cL_sum 25 = .ok (.ldc2_w 197, 3) := by decide +kernel
theorem dL_sum_28 : decode cL_sum 28 = .ok (.aload_n 0, 1) := by decide +kernel
theorem dL_sum_29 : decode cL_sum 29 = .ok (.iconst 0, 1) := by decide +kernel
theorem dL_sum_30 : decode cL_sum 30 = .ok (.invokestatic 199, 3) := by decide +kernel
theorem dL_sum_33 : decode cL_sum 33 = .ok (.i2l, 1) := by decide +kernel
theorem dL_sum_34 : decode cL_sum 34 = .ok (.lmul, 1) := by decide +kernel
theorem dL_sum_35 : decode cL_sum 35 = .ok (.ladd, 1) := by decide +kernel
theorem dL_sum_36 : decode cL_sum 36 = .ok (.ldc2_w 203, 3) := by decide +kernel
theorem dL_sum_39 : decode cL_sum 39 = .ok (.aload_n 0, 1) := by decide +kernel
theorem dL_sum_40 : decode cL_sum 40 = .ok (.iconst 2, 1) := by decide +kernel
theorem dL_sum_41 : decode cL_sum 41 = .ok (.invokestatic 199, 3) := by decide +kernel
theorem dL_sum_44 : decode cL_sum 44 = .ok (.i2l, 1) := by decide +kernel
theorem dL_sum_45 : decode cL_sum 45 = .ok (.lmul, 1) := by decide +kernel
theorem dL_sum_46 : decode cL_sum 46 = .ok (.ladd, 1) := by decide +kernel
theorem dL_sum_47 : decode cL_sum 47 = .ok (.lstore_n 3, 1) := by decide +kernel
theorem dL_sum_48 : decode cL_sum 48 = .ok (.iconst 0, 1) := by decide +kernel
theorem dL_sum_49 : decode cL_sum 49 = .ok (.istore 5, 2) := by decide +kernel
theorem dL_sum_51 : decode cL_sum 51 = .ok (.iload 5, 2) := by decide +kernel
theorem dL_sum_53 : decode cL_sum 53 = .ok (.iload_n 1, 1) := by decide +kernel
theorem dL_sum_54 : decode cL_sum 54 = .ok (.if_icmp .ge 67, 3) := by decide +kernel
theorem dL_sum_57 : decode cL_sum 57 = .ok (.iconst 2, 1) := by decide +kernel
theorem dL_sum_58 : decode cL_sum 58 = .ok (.istore 6, 2) := by decide +kernel
theorem dL_sum_60 : decode cL_sum 60 = .ok (.iload 6, 2) := by decide +kernel
theorem dL_sum_62 : decode cL_sum 62 = .ok (.bipush 9, 2) := by decide +kernel
theorem dL_sum_64 : decode cL_sum 64 = .ok (.if_icmp .ge 25, 3) := by decide +kernel
theorem dL_sum_67 : decode cL_sum 67 = .ok (.ldc2_w 192, 3) := by decide +kernel
theorem dL_sum_70 : decode cL_sum 70 = .ok (.lload_n 3, 1) := by decide +kernel
theorem dL_sum_71 : decode cL_sum 71 = .ok (.lmul, 1) := by decide +kernel
theorem dL_sum_72 : decode cL_sum 72 = .ok (.aload_n 0, 1) := by decide +kernel
theorem dL_sum_73 : decode cL_sum 73 = .ok (.iload 5, 2) := by decide +kernel
theorem dL_sum_75 : decode cL_sum 75 = .ok (.iload 6, 2) := by decide +kernel
theorem dL_sum_77 : decode cL_sum 77 = .ok (.invokestatic 172, 3) := by decide +kernel
theorem dL_sum_80 : decode cL_sum 80 = .ok (.i2l, 1) := by decide +kernel
theorem dL_sum_81 : decode cL_sum 81 = .ok (.ladd, 1) := by decide +kernel
theorem dL_sum_82 : decode cL_sum 82 = .ok (.lstore_n 3, 1) := by decide +kernel
theorem dL_sum_83 : decode cL_sum 83 = .ok (.iinc 6 1, 3) := by decide +kernel
theorem dL_sum_86 : decode cL_sum 86 = .ok (.goto (-26), 3) := by decide +kernel
theorem dL_sum_89 : decode cL_sum 89 = .ok (.ldc2_w 192, 3) := by decide +kernel
theorem dL_sum_92 : decode cL_sum 92 = .ok (.lload_n 3, 1) := by decide +kernel
theorem dL_sum_93 : decode cL_sum 93 = .ok (.lmul, 1) := by decide +kernel
theorem dL_sum_94 : decode cL_sum 94 = .ok (.aload_n 0, 1) := by decide +kernel
theorem dL_sum_95 : decode cL_sum 95 = .ok (.iload 5, 2) := by decide +kernel
theorem dL_sum_97 : decode cL_sum 97 = .ok (.invokestatic 205, 3) := by decide +kernel
theorem dL_sum_100 : decode cL_sum 100 = .ok (.ladd, 1) := by decide +kernel
theorem dL_sum_101 : decode cL_sum 101 = .ok (.aload_n 0, 1) := by decide +kernel
theorem dL_sum_102 : decode cL_sum 102 = .ok (.iload 5, 2) := by decide +kernel
theorem dL_sum_104 : decode cL_sum 104 = .ok (.bipush (-9), 2) := by decide +kernel
theorem dL_sum_106 : decode cL_sum 106 = .ok (.invokestatic 208, 3) := by decide +kernel
theorem dL_sum_109 : decode cL_sum 109 = .ok (.invokestatic 212, 3) := by decide +kernel
theorem dL_sum_112 : decode cL_sum 112 = .ok (.i2l, 1) := by decide +kernel
theorem dL_sum_113 : decode cL_sum 113 = .ok (.ladd, 1) := by decide +kernel
theorem dL_sum_114 : decode cL_sum 114 = .ok (.lstore_n 3, 1) := by decide +kernel
theorem dL_sum_115 : decode cL_sum 115 = .ok (.iinc 5 1, 3) := by decide +kernel
theorem dL_sum_118 : decode cL_sum 118 = .ok (.goto (-67), 3) := by decide +kernel
theorem dL_sum_121 : decode cL_sum 121 = .ok (.iconst 0, 1) := by decide +kernel
theorem dL_sum_122 : decode cL_sum 122 = .ok (.istore 5, 2) := by decide +kernel
theorem dL_sum_124 : decode cL_sum 124 = .ok (.iload 5, 2) := by decide +kernel
theorem dL_sum_126 : decode cL_sum 126 = .ok (.iload_n 2, 1) := by decide +kernel
theorem dL_sum_127 : decode cL_sum 127 = .ok (.if_icmp .ge 71, 3) := by decide +kernel
theorem dL_sum_130 : decode cL_sum 130 = .ok (.ldc2_w 192, 3) := by decide +kernel
theorem dL_sum_133 : decode cL_sum 133 = .ok (.lload_n 3, 1) := by decide +kernel
theorem dL_sum_134 : decode cL_sum 134 = .ok (.lmul, 1) := by decide +kernel
theorem dL_sum_135 : decode cL_sum 135 = .ok (.aload_n 0, 1) := by decide +kernel
theorem dL_sum_136 : decode cL_sum 136 = .ok (.iload 5, 2) := by decide +kernel
theorem dL_sum_138 : decode cL_sum 138 = .ok (.iconst 0, 1) := by decide +kernel
theorem dL_sum_139 : decode cL_sum 139 = .ok (.invokestatic 218, 3) := by decide +kernel
theorem dL_sum_142 : decode cL_sum 142 = .ok (.i2l, 1) := by decide +kernel
theorem dL_sum_143 : decode cL_sum 143 = .ok (.ladd, 1) := by decide +kernel
theorem dL_sum_144 : decode cL_sum 144 = .ok (.ldc2_w 221, 3) := by decide +kernel
theorem dL_sum_147 : decode cL_sum 147 = .ok (.aload_n 0, 1) := by decide +kernel
theorem dL_sum_148 : decode cL_sum 148 = .ok (.iload 5, 2) := by decide +kernel
theorem dL_sum_150 : decode cL_sum 150 = .ok (.iconst 2, 1) := by decide +kernel
theorem dL_sum_151 : decode cL_sum 151 = .ok (.invokestatic 218, 3) := by decide +kernel
theorem dL_sum_154 : decode cL_sum 154 = .ok (.i2l, 1) := by decide +kernel
theorem dL_sum_155 : decode cL_sum 155 = .ok (.lmul, 1) := by decide +kernel
theorem dL_sum_156 : decode cL_sum 156 = .ok (.ladd, 1) := by decide +kernel
theorem dL_sum_157 : decode cL_sum 157 = .ok (.lstore_n 3, 1) := by decide +kernel
theorem dL_sum_158 : decode cL_sum 158 = .ok (.iconst 0, 1) := by decide +kernel
theorem dL_sum_159 : decode cL_sum 159 = .ok (.istore 6, 2) := by decide +kernel
theorem dL_sum_161 : decode cL_sum 161 = .ok (.iload 6, 2) := by decide +kernel
theorem dL_sum_163 : decode cL_sum 163 = .ok (.bipush 8, 2) := by decide +kernel
theorem dL_sum_165 : decode cL_sum 165 = .ok (.if_icmp .ge 27, 3) := by decide +kernel
theorem dL_sum_168 : decode cL_sum 168 = .ok (.ldc2_w 192, 3) := by decide +kernel
theorem dL_sum_171 : decode cL_sum 171 = .ok (.lload_n 3, 1) := by decide +kernel
theorem dL_sum_172 : decode cL_sum 172 = .ok (.lmul, 1) := by decide +kernel
theorem dL_sum_173 : decode cL_sum 173 = .ok (.aload_n 0, 1) := by decide +kernel
theorem dL_sum_174 : decode cL_sum 174 = .ok (.bipush 111, 2) := by decide +kernel
theorem dL_sum_176 : decode cL_sum 176 = .ok (.iload 5, 2) := by decide +kernel
theorem dL_sum_178 : decode cL_sum 178 = .ok (.iload 6, 2) := by decide +kernel
theorem dL_sum_180 : decode cL_sum 180 = .ok (.invokestatic 178, 3) := by decide +kernel
theorem dL_sum_183 : decode cL_sum 183 = .ok (.i2l, 1) := by decide +kernel
theorem dL_sum_184 : decode cL_sum 184 = .ok (.ladd, 1) := by decide +kernel
theorem dL_sum_185 : decode cL_sum 185 = .ok (.lstore_n 3, 1) := by decide +kernel
theorem dL_sum_186 : decode cL_sum 186 = .ok (.iinc 6 1, 3) := by decide +kernel
theorem dL_sum_189 : decode cL_sum 189 = .ok (.goto (-28), 3) := by decide +kernel
theorem dL_sum_192 : decode cL_sum 192 = .ok (.iinc 5 1, 3) := by decide +kernel
theorem dL_sum_195 : decode cL_sum 195 = .ok (.goto (-71), 3) := by decide +kernel
theorem dL_sum_198 : decode cL_sum 198 = .ok (.iconst 0, 1) := by decide +kernel
theorem dL_sum_199 : decode cL_sum 199 = .ok (.istore 5, 2) := by decide +kernel
theorem dL_sum_201 : decode cL_sum 201 = .ok (.iload 5, 2) := by decide +kernel
theorem dL_sum_203 : decode cL_sum 203 = .ok (.aload_n 0, 1) := by decide +kernel
theorem dL_sum_204 : decode cL_sum 204 = .ok (.invokevirtual 194, 3) := by decide +kernel
theorem dL_sum_207 : decode cL_sum 207 = .ok (.if_icmp .ge 38, 3) := by decide +kernel
theorem dL_sum_210 : decode cL_sum 210 = .ok (.ldc2_w 192, 3) := by decide +kernel
theorem dL_sum_213 : decode cL_sum 213 = .ok (.lload_n 3, 1) := by decide +kernel
theorem dL_sum_214 : decode cL_sum 214 = .ok (.lmul, 1) := by decide +kernel
theorem dL_sum_215 : decode cL_sum 215 = .ok (.aload_n 0, 1) := by decide +kernel
theorem dL_sum_216 : decode cL_sum 216 = .ok (.iload 5, 2) := by decide +kernel
theorem dL_sum_218 : decode cL_sum 218 = .ok (.iconst (-1), 1) := by decide +kernel
theorem dL_sum_219 : decode cL_sum 219 = .ok (.invokestatic 223, 3) := by decide +kernel
theorem dL_sum_222 : decode cL_sum 222 = .ok (.i2l, 1) := by decide +kernel
theorem dL_sum_223 : decode cL_sum 223 = .ok (.ladd, 1) := by decide +kernel
theorem dL_sum_224 : decode cL_sum 224 = .ok (.ldc2_w 221, 3) := by decide +kernel
theorem dL_sum_227 : decode cL_sum 227 = .ok (.aload_n 0, 1) := by decide +kernel
theorem dL_sum_228 : decode cL_sum 228 = .ok (.iload 5, 2) := by decide +kernel
theorem dL_sum_230 : decode cL_sum 230 = .ok (.bipush (-2), 2) := by decide +kernel
theorem dL_sum_232 : decode cL_sum 232 = .ok (.invokestatic 223, 3) := by decide +kernel
theorem dL_sum_235 : decode cL_sum 235 = .ok (.i2l, 1) := by decide +kernel
theorem dL_sum_236 : decode cL_sum 236 = .ok (.lmul, 1) := by decide +kernel
theorem dL_sum_237 : decode cL_sum 237 = .ok (.ladd, 1) := by decide +kernel
theorem dL_sum_238 : decode cL_sum 238 = .ok (.lstore_n 3, 1) := by decide +kernel
theorem dL_sum_239 : decode cL_sum 239 = .ok (.iinc 5 1, 3) := by decide +kernel
theorem dL_sum_242 : decode cL_sum 242 = .ok (.goto (-41), 3) := by decide +kernel
theorem dL_sum_245 : decode cL_sum 245 = .ok (.lload_n 3, 1) := by decide +kernel
theorem dL_sum_246 : decode cL_sum 246 = .ok (.lreturn, 1) := by decide +kernel
theorem dL_isSound_0 : decode cL_isSound 0 = .ok (.aload_n 0, 1) := by decide +kernel
theorem dL_isSound_1 : decode cL_isSound 1 = .ok (.invokestatic 182, 3) := by decide +kernel
theorem dL_isSound_4 : decode cL_isSound 4 = .ok (.istore_n 1, 1) := by decide +kernel
theorem dL_isSound_5 : decode cL_isSound 5 = .ok (.aload_n 0, 1) := by decide +kernel
theorem dL_isSound_6 : decode cL_isSound 6 = .ok (.invokestatic 186, 3) := by decide +kernel
theorem dL_isSound_9 : decode cL_isSound 9 = .ok (.istore_n 2, 1) := by decide +kernel
theorem dL_isSound_10 : decode cL_isSound 10 = .ok (.iconst 0, 1) := by decide +kernel
theorem dL_isSound_11 : decode cL_isSound 11 = .ok (.istore_n 3, 1) := by decide +kernel
theorem dL_isSound_12 : decode cL_isSound 12 = .ok (.iconst 0, 1) := by decide +kernel
theorem dL_isSound_13 : decode cL_isSound 13 = .ok (.istore 4, 2) := by decide +kernel
theorem dL_isSound_15 : decode cL_isSound 15 = .ok (.iload 4, 2) := by decide +kernel
theorem dL_isSound_17 : decode cL_isSound 17 = .ok (.iload_n 1, 1) := by decide +kernel
theorem dL_isSound_18 : decode cL_isSound 18 = .ok (.if_icmp .ge 305, 3) := by decide +kernel
theorem dL_isSound_21 : decode cL_isSound 21 = .ok (.iconst 0, 1) := by decide +kernel
theorem dL_isSound_22 : decode cL_isSound 22 = .ok (.istore 5, 2) := by decide +kernel
theorem dL_isSound_24 : decode cL_isSound 24 = .ok (.iconst 0, 1) := by decide +kernel
theorem dL_isSound_25 : decode cL_isSound 25 = .ok (.istore 6, 2) := by decide +kernel
theorem dL_isSound_27 : decode cL_isSound 27 = .ok (.iload 6, 2) := by decide +kernel
theorem dL_isSound_29 : decode cL_isSound 29 = .ok (.iload_n 2, 1) := by decide +kernel
theorem dL_isSound_30 : decode cL_isSound 30 = .ok (.if_icmp .ge 24, 3) := by decide +kernel
theorem dL_isSound_33 : decode cL_isSound 33 = .ok (.iload 5, 2) := by decide +kernel
theorem dL_isSound_35 : decode cL_isSound 35 = .ok (.aload_n 0, 1) := by decide +kernel
theorem dL_isSound_36 : decode cL_isSound 36 = .ok (.bipush 99, 2) := by decide +kernel
theorem dL_isSound_38 : decode cL_isSound 38 = .ok (.iload 6, 2) := by decide +kernel
theorem dL_isSound_40 : decode cL_isSound 40 = .ok (.iload 4, 2) := by decide +kernel
theorem dL_isSound_42 : decode cL_isSound 42 = .ok (.invokestatic 178, 3) := by decide +kernel
theorem dL_isSound_45 : decode cL_isSound 45 = .ok (.iadd, 1) := by decide +kernel
theorem dL_isSound_46 : decode cL_isSound 46 = .ok (.istore 5, 2) := by decide +kernel
theorem dL_isSound_48 : decode cL_isSound 48 = .ok (.iinc 6 1, 3) := by decide +kernel
theorem dL_isSound_51 : decode cL_isSound 51 = .ok (.goto (-24), 3) := by decide +kernel
theorem dL_isSound_54 : decode cL_isSound 54 = .ok (.aload_n 0, 1) := by decide +kernel
theorem dL_isSound_55 : decode cL_isSound 55 = .ok (.iload 4, 2) := by decide +kernel
theorem dL_isSound_57 : decode cL_isSound 57 = .ok (.iconst 4, 1) := by decide +kernel
theorem dL_isSound_58 : decode cL_isSound 58 = .ok (.invokestatic 172, 3) := by decide +kernel
theorem dL_isSound_61 : decode cL_isSound 61 = .ok (.istore 6, 2) := by decide +kernel
theorem dL_isSound_63 : decode cL_isSound 63 = .ok (.aload_n 0, 1) := by decide +kernel
theorem dL_isSound_64 : decode cL_isSound 64 = .ok (.iload 4, 2) := by decide +kernel
theorem dL_isSound_66 : decode cL_isSound 66 = .ok (.iconst 3, 1) := by decide +kernel
theorem dL_isSound_67 : decode cL_isSound 67 = .ok (.invokestatic 172, 3) := by decide +kernel
theorem dL_isSound_70 : decode cL_isSound 70 = .ok (.istore 7, 2) := by decide +kernel
theorem dL_isSound_72 : decode cL_isSound 72 = .ok (.iload_n 3, 1) := by decide +kernel
theorem dL_isSound_73 : decode cL_isSound 73 = .ok (.aload_n 0, 1) := by decide +kernel
theorem dL_isSound_74 : decode cL_isSound 74 = .ok (.iload 4, 2) := by decide +kernel
theorem dL_isSound_76 : decode cL_isSound 76 = .ok (.bipush 7, 2) := by decide +kernel
theorem dL_isSound_78 : decode cL_isSound 78 = .ok (.invokestatic 172, 3) := by decide +kernel
theorem dL_isSound_81 : decode cL_isSound 81 = .ok (.iadd, 1) := by decide +kernel
theorem dL_isSound_82 : decode cL_isSound 82 = .ok (.istore_n 3, 1) := by decide +kernel
theorem dL_isSound_83 : decode cL_isSound 83 = .ok (.aload_n 0, 1) := by decide +kernel
theorem dL_isSound_84 : decode cL_isSound 84 = .ok (.iload 4, 2) := by decide +kernel
theorem dL_isSound_86 : decode cL_isSound 86 = .ok (.iconst 5, 1) := by decide +kernel
theorem dL_isSound_87 : decode cL_isSound 87 = .ok (.invokestatic 172, 3) := by decide +kernel
theorem dL_isSound_90 : decode cL_isSound 90 = .ok (.iload 5, 2) := by decide +kernel
theorem dL_isSound_92 : decode cL_isSound 92 = .ok (.if_icmp .ne 141, 3) := by decide +kernel
theorem dL_isSound_95 : decode cL_isSound 95 = .ok (.aload_n 0, 1) := by decide +kernel
theorem dL_isSound_96 : decode cL_isSound 96 = .ok (.iload 4, 2) := by decide +kernel
theorem dL_isSound_98 : decode cL_isSound 98 = .ok (.bipush 6, 2) := by decide +kernel
theorem dL_isSound_100 : decode cL_isSound 100 = .ok (.invokestatic 172, 3) := by decide +kernel
theorem dL_isSound_103 : decode cL_isSound 103 = .ok (.iload 5, 2) := by decide +kernel
theorem dL_isSound_105 : decode cL_isSound 105 = .ok (.if_icmp .ne 128, 3) := by decide +kernel
theorem dL_isSound_108 : decode cL_isSound 108 = .ok (.iload 6, 2) := by decide +kernel
theorem dL_isSound_110 : decode cL_isSound 110 = .ok (.sipush (-1003), 3) := by decide +kernel
theorem dL_isSound_113 : decode cL_isSound 113 = .ok (.if_icmp .ne 7, 3) := by decide +kernel
theorem dL_isSound_116 : decode cL_isSound 116 = .ok (.iconst 1, 1) := by decide +kernel
theorem dL_isSound_117 : decode cL_isSound 117 = .ok (.goto 4, 3) := by decide +kernel
theorem dL_isSound_120 : decode cL_isSound 120 = .ok (.iconst 0, 1) := by decide +kernel
theorem dL_isSound_121 : decode cL_isSound 121 = .ok (.aload_n 0, 1) := by decide +kernel
theorem dL_isSound_122 : decode cL_isSound 122 = .ok (.iload 4, 2) := by decide +kernel
theorem dL_isSound_124 : decode cL_isSound 124 = .ok (.iconst 2, 1) := by decide +kernel
theorem dL_isSound_125 : decode cL_isSound 125 = .ok (.invokestatic 172, 3) := by decide +kernel
theorem dL_isSound_128 : decode cL_isSound 128 = .ok (.bipush 97, 2) := by decide +kernel
theorem dL_isSound_130 : decode cL_isSound 130 = .ok (.if_icmp .eq 7, 3) := by decide +kernel
theorem dL_isSound_133 : decode cL_isSound 133 = .ok (.iconst 1, 1) := by decide +kernel
theorem dL_isSound_134 : decode cL_isSound 134 = .ok (.goto 4, 3) := by decide +kernel
theorem dL_isSound_137 : decode cL_isSound 137 = .ok (.iconst 0, 1) := by decide +kernel
theorem dL_isSound_138 : decode cL_isSound 138 = .ok (.if_icmp .ne 95, 3) := by decide +kernel
theorem dL_isSound_141 : decode cL_isSound 141 = .ok (.iload 6, 2) := by decide +kernel
theorem dL_isSound_143 : decode cL_isSound 143 = .ok (.bipush 45, 2) := by decide +kernel
theorem dL_isSound_145 : decode cL_isSound 145 = .ok (.if_icmp .eq 8, 3) := by decide +kernel
theorem dL_isSound_148 : decode cL_isSound 148 = .ok (.iload 5, 2) := by decide +kernel
theorem dL_isSound_150 : decode cL_isSound 150 = .ok (.ifCond .gt 83, 3) := by decide +kernel
theorem dL_isSound_153 : decode cL_isSound 153 = .ok (.iload 7, 2) := by decide +kernel
theorem dL_isSound_155 : decode cL_isSound 155 = .ok (.ifCond .ne 8, 3) := by decide +kernel
theorem dL_isSound_158 : decode cL_isSound 158 = .ok (.iload 5, 2) := by decide +kernel
theorem dL_isSound_160 : decode cL_isSound 160 = .ok (.ifCond .gt 73, 3) := by decide +kernel
theorem dL_isSound_163 : decode cL_isSound 163 = .ok (.iload 7, 2) := by decide +kernel
theorem dL_isSound_165 : decode cL_isSound 165 = .ok (.bipush 100, 2) := by decide +kernel
theorem dL_isSound_167 : decode cL_isSound 167 = .ok (.if_icmp .gt 66, 3) := by decide +kernel
theorem dL_isSound_170 : decode cL_isSound 170 = .ok (.iload 7, 2) := by decide +kernel
theorem dL_isSound_172 : decode cL_isSound 172 = .ok (.ifCond .le 15, 3) := by decide +kernel
theorem dL_isSound_175 : decode cL_isSound 175 = .ok (.aload_n 0, 1) := by decide +kernel
theorem dL_isSound_176 : decode cL_isSound 176 = .ok (.iload 4, 2) := by decide +kernel
theorem dL_isSound_178 : decode cL_isSound 178 = .ok (.iconst 2, 1) := by decide +kernel
theorem dL_isSound_179 : decode cL_isSound 179 = .ok (.invokestatic 172, 3) := by decide +kernel
theorem dL_isSound_182 : decode cL_isSound 182 = .ok (.bipush 97, 2) := by decide +kernel
theorem dL_isSound_184 : decode cL_isSound 184 = .ok (.if_icmp .ne 49, 3) := by decide +kernel
theorem dL_isSound_187 : decode cL_isSound 187 = .ok (.aload_n 0, 1) := by decide +kernel
theorem dL_isSound_188 : decode cL_isSound 188 = .ok (.iload 4, 2) := by decide +kernel
theorem dL_isSound_190 : decode cL_isSound 190 = .ok (.bipush 7, 2) := by decide +kernel
theorem dL_isSound_192 : decode cL_isSound 192 = .ok (.invokestatic 172, 3) := by decide +kernel
theorem dL_isSound_195 : decode cL_isSound 195 = .ok (.aload_n 0, 1) := by decide +kernel
theorem dL_isSound_196 : decode cL_isSound 196 = .ok (.iload 4, 2) := by decide +kernel
theorem dL_isSound_198 : decode cL_isSound 198 = .ok (.bipush 8, 2) := by decide +kernel
theorem dL_isSound_200 : decode cL_isSound 200 = .ok (.invokestatic 172, 3) := by decide +kernel
theorem dL_isSound_203 : decode cL_isSound 203 = .ok (.if_icmp .gt 30, 3) := by decide +kernel
theorem dL_isSound_206 : decode cL_isSound 206 = .ok (.aload_n 0, 1) := by decide +kernel
theorem dL_isSound_207 : decode cL_isSound 207 = .ok (.bipush 112, 2) := by decide +kernel
theorem dL_isSound_209 : decode cL_isSound 209 = .ok (.iload 4, 2) := by decide +kernel
theorem dL_isSound_211 : decode cL_isSound 211 = .ok (.iconst 1, 1) := by decide +kernel
theorem dL_isSound_212 : decode cL_isSound 212 = .ok (.invokestatic 178, 3) := by decide +kernel
theorem dL_isSound_215 : decode cL_isSound 215 = .ok (.iload 7, 2) := by decide +kernel
theorem dL_isSound_217 : decode cL_isSound 217 = .ok (.if_icmp .lt 16, 3) := by decide +kernel
theorem dL_isSound_220 : decode cL_isSound 220 = .ok (.aload_n 0, 1) := by decide +kernel
theorem dL_isSound_221 : decode cL_isSound 221 = .ok (.iload 4, 2) := by decide +kernel
theorem dL_isSound_223 : decode cL_isSound 223 = .ok (.bipush 9, 2) := by decide +kernel
theorem dL_isSound_225 : decode cL_isSound 225 = .ok (.invokestatic 172, 3) := by decide +kernel
theorem dL_isSound_228 : decode cL_isSound 228 = .ok (.bipush 10, 2) := by decide +kernel
theorem dL_isSound_230 : decode cL_isSound 230 = .ok (.if_icmp .ge 5, 3) := by decide +kernel
theorem dL_isSound_233 : decode cL_isSound 233 = .ok (.iconst 0, 1) := by decide +kernel
theorem dL_isSound_234 : decode cL_isSound 234 = .ok (.ireturn, 1) := by decide +kernel
