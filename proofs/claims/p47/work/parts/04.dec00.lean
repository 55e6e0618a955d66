theorem dX0_init_0 : decode cX0_init 0 = .ok (.aload_n 0, 1) := by decide +kernel
theorem dX0_init_1 : decode cX0_init 1 = .ok (.invokespecial 3, 3) := by decide +kernel
theorem dX0_init_4 : decode cX0_init 4 = .ok (.aload_n 0, 1) := by decide +kernel
theorem dX0_init_5 : decode cX0_init 5 = .ok (.bipush 101, 2) := by decide +kernel
theorem dX0_init_7 : decode cX0_init 7 = .ok (.newarray .int, 2) := by decide +kernel
theorem dX0_init_9 : decode cX0_init 9 = .ok (.putfield 9, 3) := by decide +kernel
theorem dX0_init_12 : decode cX0_init 12 = .ok (.aload_n 0, 1) := by decide +kernel
theorem dX0_init_13 : decode cX0_init 13 = .ok (.iconst 0, 1) := by decide +kernel
theorem dX0_init_14 : decode cX0_init 14 = .ok (.putfield 15, 3) := by decide +kernel
theorem dX0_init_17 : decode cX0_init 17 = .ok (.return_, 1) := by decide +kernel
theorem dX0_change_0 : decode cX0_change 0 = .ok (.aload_n 0, 1) := by decide +kernel
theorem dX0_change_1 : decode cX0_change 1 = .ok (.dup, 1) := by decide +kernel
theorem dX0_change_2 : decode cX0_change 2 = .ok (.getfield 15, 3) := by decide +kernel
theorem dX0_change_5 : decode cX0_change 5 = .ok (.iload_n 2, 1) := by decide +kernel
theorem dX0_change_6 : decode cX0_change 6 = .ok (.iadd, 1) := by decide +kernel
theorem dX0_change_7 : decode cX0_change 7 = .ok (.putfield 15, 3) := by decide +kernel
theorem dX0_change_10 : decode cX0_change 10 = .ok (.iconst 0, 1) := by decide +kernel
theorem dX0_change_11 : decode cX0_change 11 = .ok (.istore_n 3, 1) := by decide +kernel
theorem dX0_change_12 : decode cX0_change 12 = .ok (.iload_n 3, 1) := by decide +kernel
theorem dX0_change_13 : decode cX0_change 13 = .ok (.aload_n 0, 1) := by decide +kernel
theorem dX0_change_14 : decode cX0_change 14 = .ok (.getfield 9, 3) := by decide +kernel
theorem dX0_change_17 : decode cX0_change 17 = .ok (.arraylength, 1) := by decide +kernel
theorem dX0_change_18 : decode cX0_change 18 = .ok (.if_icmp .ge 24, 3) := by decide +kernel
theorem dX0_change_21 : decode cX0_change 21 = .ok (.iload_n 1, 1) := by decide +kernel
theorem dX0_change_22 : decode cX0_change 22 = .ok (.iload_n 3, 1) := by decide +kernel
theorem dX0_change_23 : decode cX0_change 23 = .ok (.if_icmp .ge 13, 3) := by decide +kernel
theorem dX0_change_26 : decode cX0_change 26 = .ok (.aload_n 0, 1) := by decide +kernel
theorem dX0_change_27 : decode cX0_change 27 = .ok (.getfield 9, 3) := by decide +kernel
theorem dX0_change_30 : decode cX0_change 30 = .ok (.iload_n 3, 1) := by decide +kernel
theorem dX0_change_31 : decode cX0_change 31 = .ok (.dup2, 1) := by decide +kernel
theorem dX0_change_32 : decode cX0_change 32 = .ok (.iaload, 1) := by decide +kernel
theorem dX0_change_33 : decode cX0_change 33 = .ok (.iload_n 2, 1) := by decide +kernel
theorem dX0_change_34 : decode cX0_change 34 = .ok (.iadd, 1) := by decide +kernel
theorem dX0_change_35 : decode cX0_change 35 = .ok (.iastore, 1) := by decide +kernel
theorem dX0_change_36 : decode cX0_change 36 = .ok (.iinc 3 1, 3) := by decide +kernel
theorem dX0_change_39 : decode cX0_change 39 = .ok (.goto (-27), 3) := by decide +kernel
theorem dX0_change_42 : decode cX0_change 42 = .ok (.return_, 1) := by decide +kernel
theorem dX0_countBelow_0 : decode cX0_countBelow 0 = .ok (.iload_n 1, 1) := by decide +kernel
theorem dX0_countBelow_1 : decode cX0_countBelow 1 = .ok (.iconst 0, 1) := by decide +kernel
theorem dX0_countBelow_2 : decode cX0_countBelow 2 = .ok (.aload_n 0, 1) := by decide +kernel
theorem dX0_countBelow_3 : decode cX0_countBelow 3 = .ok (.getfield 9, 3) := by decide +kernel
theorem dX0_countBelow_6 : decode cX0_countBelow 6 = .ok (.arraylength, 1) := by decide +kernel
theorem dX0_countBelow_7 : decode cX0_countBelow 7 = .ok (.iconst 1, 1) := by decide +kernel
theorem dX0_countBelow_8 : decode cX0_countBelow 8 = .ok (.isub, 1) := by decide +kernel
theorem dX0_countBelow_9 : decode cX0_countBelow 9 = .ok (.invokestatic 19, 3) := by decide +kernel
theorem dX0_countBelow_12 : decode cX0_countBelow 12 = .ok (.ifCond .eq 7, 3) := by decide +kernel
theorem dX0_countBelow_15 : decode cX0_countBelow 15 = .ok (.iconst 0, 1) := by decide +kernel
theorem dX0_countBelow_16 : decode cX0_countBelow 16 = .ok (.goto 9, 3) := by decide +kernel
theorem dX0_countBelow_19 : decode cX0_countBelow 19 = .ok (.aload_n 0, 1) := by decide +kernel
theorem dX0_countBelow_20 : decode cX0_countBelow 20 = .ok (.getfield 9, 3) := by decide +kernel
theorem dX0_countBelow_23 : decode cX0_countBelow 23 = .ok (.iload_n 1, 1) := by decide +kernel
theorem dX0_countBelow_24 : decode cX0_countBelow 24 = .ok (.iaload, 1) := by decide +kernel
theorem dX0_countBelow_25 : decode cX0_countBelow 25 = .ok (.ireturn, 1) := by decide +kernel
theorem dX1_init_0 : decode cX1_init 0 = .ok (.aload_n 0, 1) := by decide +kernel
theorem dX1_init_1 : decode cX1_init 1 = .ok (.invokespecial 3, 3) := by decide +kernel
theorem dX1_init_4 : decode cX1_init 4 = .ok (.aload_n 0, 1) := by decide +kernel
theorem dX1_init_5 : decode cX1_init 5 = .ok (.new 9, 3) := by decide +kernel
theorem dX1_init_8 : decode cX1_init 8 = .ok (.dup, 1) := by decide +kernel
theorem dX1_init_9 : decode cX1_init 9 = .ok (.invokespecial 11, 3) := by decide +kernel
theorem dX1_init_12 : decode cX1_init 12 = .ok (.putfield 12, 3) := by decide +kernel
theorem dX1_init_15 : decode cX1_init 15 = .ok (.aload_n 0, 1) := by decide +kernel
theorem dX1_init_16 : decode cX1_init 16 = .ok (.bipush 100, 2) := by decide +kernel
theorem dX1_init_18 : decode cX1_init 18 = .ok (.putfield 18, 3) := by decide +kernel
theorem dX1_init_21 : decode cX1_init 21 = .ok (.aload_n 0, 1) := by decide +kernel
theorem dX1_init_22 : decode cX1_init 22 = .ok (.iconst 0, 1) := by decide +kernel
theorem dX1_init_23 : decode cX1_init 23 = .ok (.putfield 22, 3) := by decide +kernel
theorem dX1_init_26 : decode cX1_init 26 = .ok (.aload_n 0, 1) := by decide +kernel
theorem dX1_init_27 : decode cX1_init 27 = .ok (.iconst 0, 1) := by decide +kernel
theorem dX1_init_28 : decode cX1_init 28 = .ok (.putfield 26, 3) := by decide +kernel
theorem dX1_init_31 : decode cX1_init 31 = .ok (.aload_n 0, 1) := by decide +kernel
theorem dX1_init_32 : decode cX1_init 32 = .ok (.iconst 0, 1) := by decide +kernel
theorem dX1_init_33 : decode cX1_init 33 = .ok (.putfield 30, 3) := by decide +kernel
theorem dX1_init_36 : decode cX1_init 36 = .ok (.aload_n 0, 1) := by decide +kernel
theorem dX1_init_37 : decode cX1_init 37 = .ok (.iconst 0, 1) := by decide +kernel
theorem dX1_init_38 : decode cX1_init 38 = .ok (.putfield 33, 3) := by decide +kernel
theorem dX1_init_41 : decode cX1_init 41 = .ok (.aload_n 0, 1) := by decide +kernel
theorem dX1_init_42 : decode cX1_init 42 = .ok (.iconst 0, 1) := by decide +kernel
theorem dX1_init_43 : decode cX1_init 43 = .ok (.putfield 36, 3) := by decide +kernel
theorem dX1_init_46 : decode cX1_init 46 = .ok (.aload_n 0, 1) := by decide +kernel
theorem dX1_init_47 : decode cX1_init 47 = .ok (.iconst 0, 1) := by decide +kernel
theorem dX1_init_48 : decode cX1_init 48 = .ok (.putfield 39, 3) := by decide +kernel
theorem dX1_init_51 : decode cX1_init 51 = .ok (.aload_n 0, 1) := by decide +kernel
theorem dX1_init_52 : decode cX1_init 52 = .ok (.iconst 0, 1) := by decide +kernel
theorem dX1_init_53 : decode cX1_init 53 = .ok (.putfield 42, 3) := by decide +kernel
theorem dX1_init_56 : decode cX1_init 56 = .ok (.aload_n 0, 1) := by decide +kernel
theorem dX1_init_57 : decode cX1_init 57 = .ok (.iconst 0, 1) := by decide +kernel
theorem dX1_init_58 : decode cX1_init 58 = .ok (.putfield 45, 3) := by decide +kernel
theorem dX1_init_61 : decode cX1_init 61 = .ok (.aload_n 0, 1) := by decide +kernel
theorem dX1_init_62 : decode cX1_init 62 = .ok (.iload_n 1, 1) := by decide +kernel
theorem dX1_init_63 : decode cX1_init 63 = .ok (.putfield 48, 3) := by decide +kernel
theorem dX1_init_66 : decode cX1_init 66 = .ok (.aload_n 0, 1) := by decide +kernel
theorem dX1_init_67 : decode cX1_init 67 = .ok (.iload_n 2, 1) := by decide +kernel
theorem dX1_init_68 : decode cX1_init 68 = .ok (.putfield 51, 3) := by decide +kernel
theorem dX1_init_71 : decode cX1_init 71 = .ok (.aload_n 0, 1) := by decide +kernel
theorem dX1_init_72 : decode cX1_init 72 = .ok (.aload_n 3, 1) := by decide +kernel
theorem dX1_init_73 : decode cX1_init 73 = .ok (.putfield 54, 3) := by decide +kernel
theorem dX1_init_76 : decode cX1_init 76 = .ok (.aload_n 0, 1) := by decide +kernel
theorem dX1_init_77 : decode cX1_init 77 = .ok (.iload 4, 2) := by decide +kernel
theorem dX1_init_79 : decode cX1_init 79 = .ok (.putfield 58, 3) := by decide +kernel
theorem dX1_init_82 : decode cX1_init 82 = .ok (.aload_n 0, 1) := by decide +kernel
theorem dX1_init_83 : decode cX1_init 83 = .ok (.iload 5, 2) := by decide +kernel
theorem dX1_init_85 : decode cX1_init 85 = .ok (.putfield 61, 3) := by decide +kernel
theorem dX1_init_88 : decode cX1_init 88 = .ok (.aload_n 0, 1) := by decide +kernel
theorem dX1_init_89 : decode cX1_init 89 = .ok (.aload 6, 2) := by decide +kernel
theorem dX1_init_91 : decode cX1_init 91 = .ok (.putfield 64, 3) := by decide +kernel
theorem dX1_init_94 : decode cX1_init 94 = .ok (.return_, 1) := by decide +kernel
theorem dX1_isFix_0 : decode cX1_isFix 0 = .ok (.aload_n 0, 1) := by decide +kernel
theorem dX1_isFix_1 : decode cX1_isFix 1 = .ok (.getfield 64, 3) := by decide +kernel
theorem dX1_isFix_4 : decode cX1_isFix 4 = .ok (.ifnull 7, 3) := by decide +kernel
theorem dX1_isFix_7 : decode cX1_isFix 7 = .ok (.iconst 1, 1) := by decide +kernel
theorem dX1_isFix_8 : decode cX1_isFix 8 = .ok (.goto 4, 3) := by decide +kernel
theorem dX1_isFix_11 : decode cX1_isFix 11 = .ok (.iconst 0, 1) := by decide +kernel
theorem dX1_isFix_12 : decode cX1_isFix 12 = .ok (.ireturn, 1) := by decide +kernel
theorem dX1_isFixOf_0 : decode cX1_isFixOf 0 = .ok (.aload_n 0, 1) := by decide +kernel
theorem dX1_isFixOf_1 : decode cX1_isFixOf 1 = .ok (.getfield 64, 3) := by decide +kernel
theorem dX1_isFixOf_4 : decode cX1_isFixOf 4 = .ok (.ifnull 15, 3) := by decide +kernel
theorem dX1_isFixOf_7 : decode cX1_isFixOf 7 = .ok (.aload_n 0, 1) := by decide +kernel
theorem dX1_isFixOf_8 : decode cX1_isFixOf 8 = .ok (.getfield 64, 3) := by decide +kernel
theorem dX1_isFixOf_11 : decode cX1_isFixOf 11 = .ok (.aload_n 1, 1) := by decide +kernel
theorem dX1_isFixOf_12 : decode cX1_isFixOf 12 = .ok (.if_acmp .ne 7, 3) := by decide +kernel
theorem dX1_isFixOf_15 : decode cX1_isFixOf 15 = .ok (.iconst 1, 1) := by decide +kernel
theorem dX1_isFixOf_16 : decode cX1_isFixOf 16 = .ok (.goto 4, 3) := by decide +kernel
theorem dX1_isFixOf_19 : decode cX1_isFixOf 19 = .ok (.iconst 0, 1) := by decide +kernel
theorem dX1_isFixOf_20 : decode cX1_isFixOf 20 = .ok (.ireturn, 1) := by decide +kernel
theorem dX1_isNewerThan_0 : decode cX1_isNewerThan 0 = .ok (.aload_n 1, 1) := by decide +kernel
theorem dX1_isNewerThan_1 : decode cX1_isNewerThan 1 = .ok (.ifnull 14, 3) := by decide +kernel
theorem dX1_isNewerThan_4 : decode cX1_isNewerThan 4 = .ok (.aload_n 0, 1) := by decide +kernel
theorem dX1_isNewerThan_5 : decode cX1_isNewerThan 5 = .ok (.getfield 51, 3) := by decide +kernel
theorem dX1_isNewerThan_8 : decode cX1_isNewerThan 8 = .ok (.aload_n 1, 1) := by decide +kernel
theorem dX1_isNewerThan_9 : decode cX1_isNewerThan 9 = .ok (.getfield 51, 3) := by decide +kernel
theorem dX1_isNewerThan_12 : decode cX1_isNewerThan 12 = .ok (.if_icmp .le 7, 3) := by decide +kernel
theorem dX1_isNewerThan_15 : decode cX1_isNewerThan 15 = .ok (.iconst 1, 1) := by decide +kernel
theorem dX1_isNewerThan_16 : decode cX1_isNewerThan 16 = .ok (.goto 4, 3) := by decide +kernel
theorem dX1_isNewerThan_19 : decode cX1_isNewerThan 19 = .ok (.iconst 0, 1) := by decide +kernel
theorem dX1_isNewerThan_20 : decode cX1_isNewerThan 20 = .ok (.ireturn, 1) := by decide +kernel
theorem dX1_isReviewedAheadOf_0 : decode cX1_isReviewedAheadOf 0 = .ok (.aload_n 0, 1) := by decide +kernel
theorem dX1_isReviewedAheadOf_1 : decode cX1_isReviewedAheadOf 1 = .ok (.invokevirtual 68, 3) := by decide +kernel
theorem dX1_isReviewedAheadOf_4 : decode cX1_isReviewedAheadOf 4 = .ok (.aload_n 1, 1) := by decide +kernel
theorem dX1_isReviewedAheadOf_5 : decode cX1_isReviewedAheadOf 5 = .ok (.invokevirtual 68, 3) := by decide +kernel
theorem dX1_isReviewedAheadOf_8 : decode cX1_isReviewedAheadOf 8 = .ok (.if_icmp .ne 22, 3) := by decide +kernel
theorem dX1_isReviewedAheadOf_11 : decode cX1_isReviewedAheadOf 11 = .ok (.aload_n 0, 1) := by decide +kernel
theorem dX1_isReviewedAheadOf_12 : decode cX1_isReviewedAheadOf 12 = .ok (.getfield 26, 3) := by decide +kernel
theorem dX1_isReviewedAheadOf_15 : decode cX1_isReviewedAheadOf 15 = .ok (.aload_n 1, 1) := by decide +kernel
theorem dX1_isReviewedAheadOf_16 : decode cX1_isReviewedAheadOf 16 = .ok (.getfield 26, 3) := by decide +kernel
theorem dX1_isReviewedAheadOf_19 : decode cX1_isReviewedAheadOf 19 = .ok (.if_icmp .ge 7, 3) := by decide +kernel
theorem dX1_isReviewedAheadOf_22 : decode cX1_isReviewedAheadOf 22 = .ok (.iconst 1, 1) := by decide +kernel
theorem dX1_isReviewedAheadOf_23 : decode cX1_isReviewedAheadOf 23 = .ok (.goto 11, 3) := by decide +kernel
theorem dX1_isReviewedAheadOf_26 : decode cX1_isReviewedAheadOf 26 = .ok (.iconst 0, 1) := by decide +kernel
theorem dX1_isReviewedAheadOf_27 : decode cX1_isReviewedAheadOf 27 = .ok (.goto 7, 3) := by decide +kernel
theorem dX1_isReviewedAheadOf_30 : decode cX1_isReviewedAheadOf 30 = .ok (.aload_n 0, 1) := by decide +kernel
theorem dX1_isReviewedAheadOf_31 : decode cX1_isReviewedAheadOf 31 = .ok (.invokevirtual 68, 3) := by decide +kernel
theorem dX1_isReviewedAheadOf_34 : decode cX1_isReviewedAheadOf 34 = .ok (.ireturn, 1) := by decide +kernel
theorem dX1_isGivenAheadOf_0 : decode cX1_isGivenAheadOf 0 = .ok (.aload_n 0, 1) := by decide +kernel
theorem dX1_isGivenAheadOf_1 : decode cX1_isGivenAheadOf 1 = .ok (.invokevirtual 68, 3) := by decide +kernel
theorem dX1_isGivenAheadOf_4 : decode cX1_isGivenAheadOf 4 = .ok (.aload_n 1, 1) := by decide +kernel
theorem dX1_isGivenAheadOf_5 : decode cX1_isGivenAheadOf 5 = .ok (.invokevirtual 68, 3) := by decide +kernel
theorem dX1_isGivenAheadOf_8 : decode cX1_isGivenAheadOf 8 = .ok (.if_icmp .ne 22, 3) := by decide +kernel
theorem dX1_isGivenAheadOf_11 : decode cX1_isGivenAheadOf 11 = .ok (.aload_n 0, 1) := by decide +kernel
theorem dX1_isGivenAheadOf_12 : decode cX1_isGivenAheadOf 12 = .ok (.getfield 51, 3) := by decide +kernel
theorem dX1_isGivenAheadOf_15 : decode cX1_isGivenAheadOf 15 = .ok (.aload_n 1, 1) := by decide +kernel
theorem dX1_isGivenAheadOf_16 : decode cX1_isGivenAheadOf 16 = .ok (.getfield 51, 3) := by decide +kernel
theorem dX1_isGivenAheadOf_19 : decode cX1_isGivenAheadOf 19 = .ok (.if_icmp .le 7, 3) := by decide +kernel
theorem dX1_isGivenAheadOf_22 : decode cX1_isGivenAheadOf 22 = .ok (.iconst 1, 1) := by decide +kernel
theorem dX1_isGivenAheadOf_23 : decode cX1_isGivenAheadOf 23 = .ok (.goto 11, 3) := by decide +kernel
theorem dX1_isGivenAheadOf_26 : decode cX1_isGivenAheadOf 26 = .ok (.iconst 0, 1) := by decide +kernel
theorem dX1_isGivenAheadOf_27 : decode cX1_isGivenAheadOf 27 = .ok (.goto 7, 3) := by decide +kernel
theorem dX1_isGivenAheadOf_30 : decode cX1_isGivenAheadOf 30 = .ok (.aload_n 0, 1) := by decide +kernel
theorem dX1_isGivenAheadOf_31 : decode cX1_isGivenAheadOf 31 = .ok (.invokevirtual 68, 3) := by decide +kernel
theorem dX1_isGivenAheadOf_34 : decode cX1_isGivenAheadOf 34 = .ok (.ireturn, 1) := by decide +kernel
theorem dX1_crashesPerInstall_0 : decode cX1_crashesPerInstall 0 = .ok (.aload_n 0, 1) := by decide +kernel
theorem dX1_crashesPerInstall_1 : decode cX1_crashesPerInstall 1 = .ok (.getfield 36, 3) := by decide +kernel
theorem dX1_crashesPerInstall_4 : decode cX1_crashesPerInstall 4 = .ok (.ifCond .ne 7, 3) := by decide +kernel
theorem dX1_crashesPerInstall_7 : decode cX1_crashesPerInstall 7 = .ok (.fconst 0, 1) := by decide +kernel
theorem dX1_crashesPerInstall_8 : decode cX1_crashesPerInstall 8 = .ok (.goto 14, 3) := by decide +kernel
theorem dX1_crashesPerInstall_11 : decode cX1_crashesPerInstall 11 = .ok (.aload_n 0, 1) := by decide +kernel
theorem dX1_crashesPerInstall_12 : decode cX1_crashesPerInstall 12 = .ok (.getfield 39, 3) := by decide +kernel
theorem dX1_crashesPerInstall_15 : decode cX1_crashesPerInstall 15 = .ok (.i2f, 1) := by decide +kernel
theorem dX1_crashesPerInstall_16 : decode cX1_crashesPerInstall 16 = .ok (.aload_n 0, 1) := by decide +kernel
theorem dX1_crashesPerInstall_17 : decode cX1_crashesPerInstall 17 = .ok (.getfield 36, 3) := by decide +kernel
theorem dX1_crashesPerInstall_20 : decode cX1_crashesPerInstall 20 = .ok (.i2f, 1) := by decide +kernel
theorem dX1_crashesPerInstall_21 : decode cX1_crashesPerInstall 21 = .ok (.fdiv, 1) := by decide +kernel
theorem dX1_crashesPerInstall_22 : decode cX1_crashesPerInstall 22 = .ok (.freturn, 1) := by decide +kernel
theorem dX1_meanStars_0 : decode cX1_meanStars 0 = .ok (.aload_n 0, 1) := by decide +kernel
theorem dX1_meanStars_1 : decode cX1_meanStars 1 = .ok (.getfield 42, 3) := by decide +kernel
theorem dX1_meanStars_4 : decode cX1_meanStars 4 = .ok (.ifCond .ne 7, 3) := by decide +kernel
theorem dX1_meanStars_7 : decode cX1_meanStars 7 = .ok (.dconst 0, 1) := by decide +kernel
theorem dX1_meanStars_8 : decode cX1_meanStars 8 = .ok (.goto 14, 3) := by decide +kernel
theorem dX1_meanStars_11 : decode cX1_meanStars 11 = .ok (.aload_n 0, 1) := by decide +kernel
theorem dX1_meanStars_12 : decode cX1_meanStars 12 = .ok (.getfield 45, 3) := by decide +kernel
theorem dX1_meanStars_15 : decode cX1_meanStars 15 = .ok (.i2d, 1) := by decide +kernel
theorem dX1_meanStars_16 : decode cX1_meanStars 16 = .ok (.aload_n 0, 1) := by decide +kernel
theorem dX1_meanStars_17 : decode cX1_meanStars 17 = .ok (.getfield 42, 3) := by decide +kernel
theorem dX1_meanStars_20 : decode cX1_meanStars 20 = .ok (.i2d, 1) := by decide +kernel
theorem dX1_meanStars_21 : decode cX1_meanStars 21 = .ok (.ddiv, 1) := by decide +kernel
theorem dX1_meanStars_22 : decode cX1_meanStars 22 = .ok (.dreturn, 1) := by decide +kernel
theorem dX2_init_0 : decode cX2_init 0 = .ok (.aload_n 0, 1) := by decide +kernel
theorem dX2_init_1 : decode cX2_init 1 = .ok (.invokespecial 1, 3) := by decide +kernel
theorem dX2_init_4 : decode cX2_init 4 = .ok (.aload_n 0, 1) := by decide +kernel
theorem dX2_init_5 : decode cX2_init 5 = .ok (.aconst_null, 1) := by decide +kernel
theorem dX2_init_6 : decode cX2_init 6 = .ok (.putfield 7, 3) := by decide +kernel
theorem dX2_init_9 : decode cX2_init 9 = .ok (.aload_n 0, 1) := by decide +kernel
theorem dX2_init_10 : decode cX2_init 10 = .ok (.iconst 0, 1) := by decide +kernel
theorem dX2_init_11 : decode cX2_init 11 = .ok (.putfield 13, 3) := by decide +kernel
theorem dX2_init_14 : decode cX2_init 14 = .ok (.aload_n 0, 1) := by decide +kernel
theorem dX2_init_15 : decode cX2_init 15 = .ok (.iconst 0, 1) := by decide +kernel
theorem dX2_init_16 : decode cX2_init 16 = .ok (.putfield 17, 3) := by decide +kernel
theorem dX2_init_19 : decode cX2_init 19 = .ok (.aload_n 0, 1) := by decide +kernel
theorem dX2_init_20 : decode cX2_init 20 = .ok (.iload_n 1, 1) := by decide +kernel
theorem dX2_init_21 : decode cX2_init 21 = .ok (.putfield 20, 3) := by decide +kernel
theorem dX2_init_24 : decode cX2_init 24 = .ok (.aload_n 0, 1) := by decide +kernel
theorem dX2_init_25 : decode cX2_init 25 = .ok (.iload_n 2, 1) := by decide +kernel
theorem dX2_init_26 : decode cX2_init 26 = .ok (.putfield 23, 3) := by decide +kernel
theorem dX2_init_29 : decode cX2_init 29 = .ok (.aload_n 0, 1) := by decide +kernel
theorem dX2_init_30 : decode cX2_init 30 = .ok (.iload_n 3, 1) := by decide +kernel
theorem dX2_init_31 : decode cX2_init 31 = .ok (.putfield 26, 3) := by decide +kernel
theorem dX2_init_34 : decode cX2_init 34 = .ok (.return_, 1) := by decide +kernel
theorem dX2_usableItems_0 : decode cX2_usableItems 0 = .ok (.aload_n 0, 1) := by decide +kernel
theorem dX2_usableItems_1 : decode cX2_usableItems 1 = .ok (.getfield 7, 3) := by decide +kernel
theorem dX2_usableItems_4 : decode cX2_usableItems 4 = .ok (.ifnonnull 7, 3) := by decide +kernel
theorem dX2_usableItems_7 : decode cX2_usableItems 7 = .ok (.iconst 0, 1) := by decide +kernel
theorem dX2_usableItems_8 : decode cX2_usableItems 8 = .ok (.goto 18, 3) := by decide +kernel
theorem dX2_usableItems_11 : decode cX2_usableItems 11 = .ok (.aload_n 0, 1) := by decide +kernel
theorem dX2_usableItems_12 : decode cX2_usableItems 12 = .ok (.getfield 17, 3) := by decide +kernel
theorem dX2_usableItems_15 : decode cX2_usableItems 15 = .ok (.aload_n 0, 1) := by decide +kernel
theorem dX2_usableItems_16 : decode cX2_usableItems 16 = .ok (.getfield 7, 3) := by decide +kernel
theorem dX2_usableItems_19 : decode cX2_usableItems 19 = .ok (.getfield 29, 3) := by decide +kernel
theorem dX2_usableItems_22 : decode cX2_usableItems 22 = .ok (.getfield 35, 3) := by decide +kernel
theorem dX2_usableItems_25 : decode cX2_usableItems 25 = .ok (.iand, 1) := by decide +kernel
theorem dX2_usableItems_26 : decode cX2_usableItems 26 = .ok (.ireturn, 1) := by decide +kernel
theorem dX3_init_0 : decode cX3_init 0 = .ok (.aload_n 0, 1) := by decide +kernel
theorem dX3_init_1 : decode cX3_init 1 = .ok (.invokespecial 1, 3) := by decide +kernel
theorem dX3_init_4 : decode cX3_init 4 = .ok (.aload_n 0, 1) := by decide +kernel
theorem dX3_init_5 : decode cX3_init 5 = .ok (.new 7, 3) := by decide +kernel
theorem dX3_init_8 : decode cX3_init 8 = .ok (.dup, 1) := by decide +kernel
theorem dX3_init_9 : decode cX3_init 9 = .ok (.invokespecial 9, 3) := by decide +kernel
theorem dX3_init_12 : decode cX3_init 12 = .ok (.putfield 10, 3) := by decide +kernel
theorem dX3_init_15 : decode cX3_init 15 = .ok (.aload_n 0, 1) := by decide +kernel
theorem dX3_init_16 : decode cX3_init 16 = .ok (.iload_n 1, 1) := by decide +kernel
theorem dX3_init_17 : decode cX3_init 17 = .ok (.putfield 16, 3) := by decide +kernel
theorem dX3_init_20 : decode cX3_init 20 = .ok (.aload_n 0, 1) := by decide +kernel
theorem dX3_init_21 : decode cX3_init 21 = .ok (.iload_n 2, 1) := by decide +kernel
theorem dX3_init_22 : decode cX3_init 22 = .ok (.putfield 20, 3) := by decide +kernel
theorem dX3_init_25 : decode cX3_init 25 = .ok (.return_, 1) := by decide +kernel
theorem dX4_init_0 : decode cX4_init 0 = .ok (.aload_n 0, 1) := by decide +kernel
theorem dX4_init_1 : decode cX4_init 1 = .ok (.invokespecial 1, 3) := by decide +kernel
theorem dX4_init_4 : decode cX4_init 4 = .ok (.aload_n 0, 1) := by decide +kernel
theorem dX4_init_5 : decode cX4_init 5 = .ok (.new 7, 3) := by decide +kernel
theorem dX4_init_8 : decode cX4_init 8 = .ok (.dup, 1) := by decide +kernel
theorem dX4_init_9 : decode cX4_init 9 = .ok (.invokespecial 9, 3) := by decide +kernel
theorem dX4_init_12 : decode cX4_init 12 = .ok (.putfield 10, 3) := by decide +kernel
theorem dX4_init_15 : decode cX4_init 15 = .ok (.aload_n 0, 1) := by decide +kernel
theorem dX4_init_16 : decode cX4_init 16 = .ok (.iconst 0, 1) := by decide +kernel
theorem dX4_init_17 : decode cX4_init 17 = .ok (.putfield 16, 3) := by decide +kernel
theorem dX4_init_20 : decode cX4_init 20 = .ok (.aload_n 0, 1) := by decide +kernel
theorem dX4_init_21 : decode cX4_init 21 = .ok (.iconst 0, 1) := by decide +kernel
theorem dX4_init_22 : decode cX4_init 22 = .ok (.putfield 20, 3) := by decide +kernel
theorem dX4_init_25 : decode cX4_init 25 = .ok (.aload_n 0, 1) := by decide +kernel
theorem dX4_init_26 : decode cX4_init 26 = .ok (.iload_n 1, 1) := by decide +kernel
theorem dX4_init_27 : decode cX4_init 27 = .ok (.putfield 23, 3) := by decide +kernel
theorem dX4_init_30 : decode cX4_init 30 = .ok (.aload_n 0, 1) := by decide +kernel
theorem dX4_init_31 : decode cX4_init 31 = .ok (.getfield 10, 3) := by decide +kernel
theorem dX4_init_34 : decode cX4_init 34 = .ok (.aload_n 2, 1) := by decide +kernel
theorem dX4_init_35 : decode cX4_init 35 = .ok (.invokevirtual 26, 3) := by decide +kernel
theorem dX4_init_38 : decode cX4_init 38 = .ok (.return_, 1) := by decide +kernel
theorem dX5_init_0 : decode cX5_init 0 = .ok (.aload_n 0, 1) := by decide +kernel
theorem dX5_init_1 : decode cX5_init 1 = .ok (.invokespecial 1, 3) := by decide +kernel
theorem dX5_init_4 : decode cX5_init 4 = .ok (.aload_n 0, 1) := by decide +kernel
theorem dX5_init_5 : decode cX5_init 5 = .ok (.iload_n 1, 1) := by decide +kernel
theorem dX5_init_6 : decode cX5_init 6 = .ok (.putfield 7, 3) := by decide +kernel
theorem dX5_init_9 : decode cX5_init 9 = .ok (.aload_n 0, 1) := by decide +kernel
theorem dX5_init_10 : decode cX5_init 10 = .ok (.iload_n 2, 1) := by decide +kernel
theorem dX5_init_11 : decode cX5_init 11 = .ok (.putfield 13, 3) := by decide +kernel
theorem dX5_init_14 : decode cX5_init 14 = .ok (.aload_n 0, 1) := by decide +kernel
theorem dX5_init_15 : decode cX5_init 15 = .ok (.iload_n 3, 1) := by decide +kernel
theorem dX5_init_16 : decode cX5_init 16 = .ok (.putfield 16, 3) := by decide +kernel
theorem dX5_init_19 : decode cX5_init 19 = .ok (.return_, 1) := by decide +kernel
theorem dX5_isFor_0 : decode cX5_isFor 0 = .ok (.aload_n 0, 1) := by decide +kernel
theorem dX5_isFor_1 : decode cX5_isFor 1 = .ok (.getfield 7, 3) := by decide +kernel
theorem dX5_isFor_4 : decode cX5_isFor 4 = .ok (.iload_n 1, 1) := by decide +kernel
theorem dX5_isFor_5 : decode cX5_isFor 5 = .ok (.invokestatic 19, 3) := by decide +kernel
theorem dX5_isFor_8 : decode cX5_isFor 8 = .ok (.ifCond .eq 18, 3) := by decide +kernel
theorem dX5_isFor_11 : decode cX5_isFor 11 = .ok (.aload_n 0, 1) := by decide +kernel
theorem dX5_isFor_12 : decode cX5_isFor 12 = .ok (.getfield 13, 3) := by decide +kernel
theorem dX5_isFor_15 : decode cX5_isFor 15 = .ok (.iload_n 2, 1) := by decide +kernel
theorem dX5_isFor_16 : decode cX5_isFor 16 = .ok (.invokestatic 19, 3) := by decide +kernel
theorem dX5_isFor_19 : decode cX5_isFor 19 = .ok (.ifCond .eq 7, 3) := by decide +kernel
theorem dX5_isFor_22 : decode cX5_isFor 22 = .ok (.iconst 1, 1) := by decide +kernel
theorem dX5_isFor_23 : decode cX5_isFor 23 = .ok (.goto 4, 3) := by decide +kernel
theorem dX5_isFor_26 : decode cX5_isFor 26 = .ok (.iconst 0, 1) := by decide +kernel
theorem dX5_isFor_27 : decode cX5_isFor 27 = .ok (.ireturn, 1) := by decide +kernel
theorem dX6_init_0 : decode cX6_init 0 = .ok (.aload_n 0, 1) := by decide +kernel
theorem dX6_init_1 : decode cX6_init 1 = .ok (.invokespecial 3, 3) := by decide +kernel
theorem dX6_init_4 : decode cX6_init 4 = .ok (.aload_n 0, 1) := by decide +kernel
theorem dX6_init_5 : decode cX6_init 5 = .ok (.bipush 6, 2) := by decide +kernel
theorem dX6_init_7 : decode cX6_init 7 = .ok (.newarray .char, 2) := by decide +kernel
theorem dX6_init_9 : decode cX6_init 9 = .ok (.putfield 9, 3) := by decide +kernel
theorem dX6_init_12 : decode cX6_init 12 = .ok (.aload_n 0, 1) := by decide +kernel
theorem dX6_init_13 : decode cX6_init 13 = .ok (.iconst 0, 1) := by decide +kernel
theorem dX6_init_14 : decode cX6_init 14 = .ok (.putfield 15, 3) := by decide +kernel
theorem dX6_init_17 : decode cX6_init 17 = .ok (.return_, 1) := by decide +kernel
theorem dX6_append_0 : decode cX6_append 0 = .ok (.aload_n 0, 1) := by decide +kernel
theorem dX6_append_1 : decode cX6_append 1 = .ok (.getfield 15, 3) := by decide +kernel
theorem dX6_append_4 : decode cX6_append 4 = .ok (.aload_n 0, 1) := by decide +kernel
theorem dX6_append_5 : decode cX6_append 5 = .ok (.getfield 9, 3) := by decide +kernel
theorem dX6_append_8 : decode cX6_append 8 = .ok (.arraylength, 1) := by decide +kernel
theorem dX6_append_9 : decode cX6_append 9 = .ok (.if_icmp .ge 23, 3) := by decide +kernel
theorem dX6_append_12 : decode cX6_append 12 = .ok (.aload_n 0, 1) := by decide +kernel
theorem dX6_append_13 : decode cX6_append 13 = .ok (.getfield 9, 3) := by decide +kernel
theorem dX6_append_16 : decode cX6_append 16 = .ok (.aload_n 0, 1) := by decide +kernel
theorem dX6_append_17 : decode cX6_append 17 = .ok (.getfield 15, 3) := by decide +kernel
theorem dX6_append_20 : decode cX6_append 20 = .ok (.iload_n 1, 1) := by decide +kernel
theorem dX6_append_21 : decode cX6_append 21 = .ok (.castore, 1) := by decide +kernel
theorem dX6_append_22 : decode cX6_append 22 = .ok (.aload_n 0, 1) := by decide +kernel
theorem dX6_append_23 : decode cX6_append 23 = .ok (.dup, 1) := by decide +kernel
theorem dX6_append_24 : decode cX6_append 24 = .ok (.getfield 15, 3) := by decide +kernel
theorem dX6_append_27 : decode cX6_append 27 = .ok (.iconst 1, 1) := by decide +kernel
theorem dX6_append_28 : decode cX6_append 28 = .ok (.iadd, 1) := by decide +kernel
theorem dX6_append_29 : decode cX6_append 29 = .ok (.putfield 15, 3) := by decide +kernel
theorem dX6_append_32 : decode cX6_append 32 = .ok (.return_, 1) := by decide +kernel
theorem dX6_clear_0 : decode cX6_clear 0 = .ok (.aload_n 0, 1) := by decide +kernel
theorem dX6_clear_1 : decode cX6_clear 1 = .ok (.iconst 0, 1) := by decide +kernel
theorem dX6_clear_2 : decode cX6_clear 2 = .ok (.putfield 15, 3) := by decide +kernel
theorem dX6_clear_5 : decode cX6_clear 5 = .ok (.return_, 1) := by decide +kernel
theorem dX6_copyFrom_0 : decode cX6_copyFrom 0 = .ok (.aload_n 0, 1) := by decide +kernel
theorem dX6_copyFrom_1 : decode cX6_copyFrom 1 = .ok (.invokevirtual 19, 3) := by decide +kernel
theorem dX6_copyFrom_4 : decode cX6_copyFrom 4 = .ok (.iconst 0, 1) := by decide +kernel
theorem dX6_copyFrom_5 : decode cX6_copyFrom 5 = .ok (.istore_n 2, 1) := by decide +kernel
theorem dX6_copyFrom_6 : decode cX6_copyFrom 6 = .ok (.iload_n 2, 1) := by decide +kernel
theorem dX6_copyFrom_7 : decode cX6_copyFrom 7 = .ok (.aload_n 1, 1) := by decide +kernel
theorem dX6_copyFrom_8 : decode cX6_copyFrom 8 = .ok (.getfield 15, 3) := by decide +kernel
theorem dX6_copyFrom_11 : decode cX6_copyFrom 11 = .ok (.if_icmp .ge 19, 3) := by decide +kernel
theorem dX6_copyFrom_14 : decode cX6_copyFrom 14 = .ok (.aload_n 0, 1) := by decide +kernel
theorem dX6_copyFrom_15 : decode cX6_copyFrom 15 = .ok (.aload_n 1, 1) := by decide +kernel
theorem dX6_copyFrom_16 : decode cX6_copyFrom 16 = .ok (.getfield 9, 3) := by decide +kernel
theorem dX6_copyFrom_19 : decode cX6_copyFrom 19 = .ok (.iload_n 2, 1) := by decide +kernel
theorem dX6_copyFrom_20 : decode cX6_copyFrom 20 = .ok (.caload, 1) := by decide +kernel
theorem dX6_copyFrom_21 : decode cX6_copyFrom 21 = .ok (.invokevirtual 22, 3) := by decide +kernel
theorem dX6_copyFrom_24 : decode cX6_copyFrom 24 = .ok (.iinc 2 1, 3) := by decide +kernel
theorem dX6_copyFrom_27 : decode cX6_copyFrom 27 = .ok (.goto (-21), 3) := by decide +kernel
theorem dX6_copyFrom_30 : decode cX6_copyFrom 30 = .ok (.return_, 1) := by decide +kernel
theorem dX6_likenessTo_0 : decode cX6_likenessTo 0 = .ok (.aload_n 0, 1) := by decide +kernel
theorem dX6_likenessTo_1 : decode cX6_likenessTo 1 = .ok (.getfield 15, 3) := by decide +kernel
theorem dX6_likenessTo_4 : decode cX6_likenessTo 4 = .ok (.aload_n 1, 1) := by decide +kernel
theorem dX6_likenessTo_5 : decode cX6_likenessTo 5 = .ok (.getfield 15, 3) := by decide +kernel
theorem dX6_likenessTo_8 : decode cX6_likenessTo 8 = .ok (.invokestatic 26, 3) := by decide +kernel
theorem dX6_likenessTo_11 : decode cX6_likenessTo 11 = .ok (.istore_n 2, 1) := by decide +kernel
theorem dX6_likenessTo_12 : decode cX6_likenessTo 12 = .ok (.iload_n 2, 1) := by decide +kernel
theorem dX6_likenessTo_13 : decode cX6_likenessTo 13 = .ok (.ifCond .ne 5, 3) := by decide +kernel
theorem dX6_likenessTo_16 : decode cX6_likenessTo 16 = .ok (.fconst 0, 1) := by decide +kernel
theorem dX6_likenessTo_17 : decode cX6_likenessTo 17 = .ok (.freturn, 1) := by decide +kernel
theorem dX6_likenessTo_18 : decode cX6_likenessTo 18 = .ok (.aload_n 0, 1) := by decide +kernel
theorem dX6_likenessTo_19 : decode cX6_likenessTo 19 = .ok (.getfield 15, 3) := by decide +kernel
theorem dX6_likenessTo_22 : decode cX6_likenessTo 22 = .ok (.aload_n 1, 1) := by decide +kernel
theorem dX6_likenessTo_23 : decode cX6_likenessTo 23 = .ok (.getfield 15, 3) := by decide +kernel
theorem dX6_likenessTo_26 : decode cX6_likenessTo 26 = .ok (.invokestatic 32, 3) := by decide +kernel
theorem dX6_likenessTo_29 : decode cX6_likenessTo 29 = .ok (.istore_n 3, 1) := by decide +kernel
theorem dX6_likenessTo_30 : decode cX6_likenessTo 30 = .ok (.iconst 0, 1) := by decide +kernel
theorem dX6_likenessTo_31 : decode cX6_likenessTo 31 = .ok (.istore 4, 2) := by decide +kernel
theorem dX6_likenessTo_33 : decode cX6_likenessTo 33 = .ok (.iload 4, 2) := by decide +kernel
theorem dX6_likenessTo_35 : decode cX6_likenessTo 35 = .ok (.iload_n 3, 1) := by decide +kernel
theorem dX6_likenessTo_36 : decode cX6_likenessTo 36 = .ok (.if_icmp .ge 26, 3) := by decide +kernel
theorem dX6_likenessTo_39 : decode cX6_likenessTo 39 = .ok (.aload_n 0, 1) := by decide +kernel
theorem dX6_likenessTo_40 : decode cX6_likenessTo 40 = .ok (.getfield 9, 3) := by decide +kernel
theorem dX6_likenessTo_43 : decode cX6_likenessTo 43 = .ok (.iload 4, 2) := by decide +kernel
theorem dX6_likenessTo_45 : decode cX6_likenessTo 45 = .ok (.caload, 1) := by decide +kernel
theorem dX6_likenessTo_46 : decode cX6_likenessTo 46 = .ok (.aload_n 1, 1) := by decide +kernel
theorem dX6_likenessTo_47 : decode cX6_likenessTo 47 = .ok (.getfield 9, 3) := by decide +kernel
theorem dX6_likenessTo_50 : decode cX6_likenessTo 50 = .ok (.iload 4, 2) := by decide +kernel
theorem dX6_likenessTo_52 : decode cX6_likenessTo 52 = .ok (.caload, 1) := by decide +kernel
theorem dX6_likenessTo_53 : decode cX6_likenessTo 53 = .ok (.if_icmp .ne 9, 3) := by decide +kernel
theorem dX6_likenessTo_56 : decode cX6_likenessTo 56 = .ok (.iinc 4 1, 3) := by decide +kernel
theorem dX6_likenessTo_59 : decode cX6_likenessTo 59 = .ok (.goto (-26), 3) := by decide +kernel
theorem dX6_likenessTo_62 : decode cX6_likenessTo 62 = .ok (.iload 4, 2) := by decide +kernel
theorem dX6_likenessTo_64 : decode cX6_likenessTo 64 = .ok (.i2f, 1) := by decide +kernel
theorem dX6_likenessTo_65 : decode cX6_likenessTo 65 = .ok (.iload_n 2, 1) := by decide +kernel
theorem dX6_likenessTo_66 : decode cX6_likenessTo 66 = .ok (.i2f, 1) := by decide +kernel
theorem dX6_likenessTo_67 : decode cX6_likenessTo 67 = .ok (.fdiv, 1) := by decide +kernel
theorem dX6_likenessTo_68 : decode cX6_likenessTo 68 = .ok (.freturn, 1) := by decide +kernel
theorem dX7_init_0 : decode cX7_init 0 = .ok (.aload_n 0, 1) := by decide +kernel
theorem dX7_init_1 : decode cX7_init 1 = .ok (.invokespecial 1, 3) := by decide +kernel
theorem dX7_init_4 : decode cX7_init 4 = .ok (.aload_n 0, 1) := by decide +kernel
theorem dX7_init_5 : decode cX7_init 5 = .ok (.new 7, 3) := by decide +kernel
theorem dX7_init_8 : decode cX7_init 8 = .ok (.dup, 1) := by decide +kernel
theorem dX7_init_9 : decode cX7_init 9 = .ok (.invokespecial 9, 3) := by decide +kernel
theorem dX7_init_12 : decode cX7_init 12 = .ok (.putfield 10, 3) := by decide +kernel
theorem dX7_init_15 : decode cX7_init 15 = .ok (.aload_n 0, 1) := by decide +kernel
theorem dX7_init_16 : decode cX7_init 16 = .ok (.new 7, 3) := by decide +kernel
theorem dX7_init_19 : decode cX7_init 19 = .ok (.dup, 1) := by decide +kernel
theorem dX7_init_20 : decode cX7_init 20 = .ok (.invokespecial 9, 3) := by decide +kernel
theorem dX7_init_23 : decode cX7_init 23 = .ok (.putfield 16, 3) := by decide +kernel
theorem dX7_init_26 : decode cX7_init 26 = .ok (.aload_n 0, 1) := by decide +kernel
theorem dX7_init_27 : decode cX7_init 27 = .ok (.new 7, 3) := by decide +kernel
theorem dX7_init_30 : decode cX7_init 30 = .ok (.dup, 1) := by decide +kernel
theorem dX7_init_31 : decode cX7_init 31 = .ok (.invokespecial 9, 3) := by decide +kernel
theorem dX7_init_34 : decode cX7_init 34 = .ok (.putfield 19, 3) := by decide +kernel
theorem dX7_init_37 : decode cX7_init 37 = .ok (.aload_n 0, 1) := by decide +kernel
theorem dX7_init_38 : decode cX7_init 38 = .ok (.new 7, 3) := by decide +kernel
theorem dX7_init_41 : decode cX7_init 41 = .ok (.dup, 1) := by decide +kernel
theorem dX7_init_42 : decode cX7_init 42 = .ok (.invokespecial 9, 3) := by decide +kernel
theorem dX7_init_45 : decode cX7_init 45 = .ok (.putfield 22, 3) := by decide +kernel
theorem dX7_init_48 : decode cX7_init 48 = .ok (.aload_n 0, 1) := by decide +kernel
theorem dX7_init_49 : decode cX7_init 49 = .ok (.new 25, 3) := by decide +kernel
theorem dX7_init_52 : decode cX7_init 52 = .ok (.dup, 1) := by decide +kernel
theorem dX7_init_53 : decode cX7_init 53 = .ok (.invokespecial 27, 3) := by decide +kernel
theorem dX7_init_56 : decode cX7_init 56 = .ok (.putfield 28, 3) := by decide +kernel
theorem dX7_init_59 : decode cX7_init 59 = .ok (.aload_n 0, 1) := by decide +kernel
theorem dX7_init_60 : decode cX7_init 60 = .ok (.new 25, 3) := by decide +kernel
theorem dX7_init_63 : decode cX7_init 63 = .ok (.dup, 1) := by decide +kernel
theorem dX7_init_64 : decode cX7_init 64 = .ok (.invokespecial 27, 3) := by decide +kernel
theorem dX7_init_67 : decode cX7_init 67 = .ok (.putfield 32, 3) := by decide +kernel
theorem dX7_init_70 : decode cX7_init 70 = .ok (.aload_n 0, 1) := by decide +kernel
theorem dX7_init_71 : decode cX7_init 71 = .ok (.new 35, 3) := by decide +kernel
theorem dX7_init_74 : decode cX7_init 74 = .ok (.dup, 1) := by decide +kernel
theorem dX7_init_75 : decode cX7_init 75 = .ok (.invokespecial 37, 3) := by decide +kernel
theorem dX7_init_78 : decode cX7_init 78 = .ok (.putfield 38, 3) := by decide +kernel
theorem dX7_init_81 : decode cX7_init 81 = .ok (.aload_n 0, 1) := by decide +kernel
theorem dX7_init_82 : decode cX7_init 82 = .ok (.sipush 200, 3) := by decide +kernel
theorem dX7_init_85 : decode cX7_init 85 = .ok (.putfield 42, 3) := by decide +kernel
theorem dX7_init_88 : decode cX7_init 88 = .ok (.aload_n 0, 1) := by decide +kernel
theorem dX7_init_89 : decode cX7_init 89 = .ok (.iconst 0, 1) := by decide +kernel
theorem dX7_init_90 : decode cX7_init 90 = .ok (.putfield 46, 3) := by decide +kernel
theorem dX7_init_93 : decode cX7_init 93 = .ok (.aload_n 0, 1) := by decide +kernel
theorem dX7_init_94 : decode cX7_init 94 = .ok (.iconst 0, 1) := by decide +kernel
theorem dX7_init_95 : decode cX7_init 95 = .ok (.putfield 49, 3) := by decide +kernel
theorem dX7_init_98 : decode cX7_init 98 = .ok (.aload_n 0, 1) := by decide +kernel
theorem dX7_init_99 : decode cX7_init 99 = .ok (.ldc 52, 2) := by decide +kernel
theorem dX7_init_101 : decode cX7_init 101 = .ok (.putfield 53, 3) := by decide +kernel
theorem dX7_init_104 : decode cX7_init 104 = .ok (.aload_n 0, 1) := by decide +kernel
theorem dX7_init_105 : decode cX7_init 105 = .ok (.ldc 52, 2) := by decide +kernel
theorem dX7_init_107 : decode cX7_init 107 = .ok (.putfield 57, 3) := by decide +kernel
theorem dX7_init_110 : decode cX7_init 110 = .ok (.aload_n 0, 1) := by decide +kernel
theorem dX7_init_111 : decode cX7_init 111 = .ok (.iconst 0, 1) := by decide +kernel
theorem dX7_init_112 : decode cX7_init 112 = .ok (.putfield 60, 3) := by decide +kernel
theorem dX7_init_115 : decode cX7_init 115 = .ok (.return_, 1) := by decide +kernel
theorem dX7_addDevice_0 : decode cX7_addDevice 0 = .ok (.iload_n 1, 1) := by decide +kernel
theorem dX7_addDevice_1 : decode cX7_addDevice 1 = .ok (.iconst 0, 1) := by decide +kernel
theorem dX7_addDevice_2 : decode cX7_addDevice 2 = .ok (.iconst 5, 1) := by decide +kernel
theorem dX7_addDevice_3 : decode cX7_addDevice 3 = .ok (.invokestatic 63, 3) := by decide +kernel
theorem dX7_addDevice_6 : decode cX7_addDevice 6 = .ok (.ifCond .ne 22, 3) := by decide +kernel
theorem dX7_addDevice_9 : decode cX7_addDevice 9 = .ok (.iload_n 2, 1) := by decide +kernel
theorem dX7_addDevice_10 : decode cX7_addDevice 10 = .ok (.iconst 0, 1) := by decide +kernel
theorem dX7_addDevice_11 : decode cX7_addDevice 11 = .ok (.iconst 2, 1) := by decide +kernel
theorem dX7_addDevice_12 : decode cX7_addDevice 12 = .ok (.invokestatic 63, 3) := by decide +kernel
theorem dX7_addDevice_15 : decode cX7_addDevice 15 = .ok (.ifCond .ne 13, 3) := by decide +kernel
theorem dX7_addDevice_18 : decode cX7_addDevice 18 = .ok (.iload_n 3, 1) := by decide +kernel
theorem dX7_addDevice_19 : decode cX7_addDevice 19 = .ok (.iconst 0, 1) := by decide +kernel
theorem dX7_addDevice_20 : decode cX7_addDevice 20 = .ok (.bipush 99, 2) := by decide +kernel
theorem dX7_addDevice_22 : decode cX7_addDevice 22 = .ok (.invokestatic 63, 3) := by decide +kernel
theorem dX7_addDevice_25 : decode cX7_addDevice 25 = .ok (.ifCond .eq 13, 3) := by decide +kernel
theorem dX7_addDevice_28 : decode cX7_addDevice 28 = .ok (.new 67, 3) := by decide +kernel
theorem dX7_addDevice_31 : decode cX7_addDevice 31 = .ok (.dup, 1) := by decide +kernel
theorem dX7_addDevice_32 : decode cX7_addDevice 32 = .ok (.ldc 69, 2) := by decide +kernel
theorem dX7_addDevice_34 : decode cX7_addDevice 34 = .ok (.invokespecial 71, 3) := by decide +kernel
theorem dX7_addDevice_37 : decode cX7_addDevice 37 = .ok (.athrow, 1) := by decide +kernel
theorem dX7_addDevice_38 : decode cX7_addDevice 38 = .ok (.aload_n 0, 1) := by decide +kernel
theorem dX7_addDevice_39 : decode cX7_addDevice 39 = .ok (.getfield 10, 3) := by decide +kernel
theorem dX7_addDevice_42 : decode cX7_addDevice 42 = .ok (.invokevirtual 74, 3) := by decide +kernel
theorem dX7_addDevice_45 : decode cX7_addDevice 45 = .ok (.bipush 12, 2) := by decide +kernel
theorem dX7_addDevice_47 : decode cX7_addDevice 47 = .ok (.if_icmp .lt 13, 3) := by decide +kernel
theorem dX7_addDevice_50 : decode cX7_addDevice 50 = .ok (.new 78, 3) := by decide +kernel
theorem dX7_addDevice_53 : decode cX7_addDevice 53 = .ok (.dup, 1) := by decide +kernel
theorem dX7_addDevice_54 : decode cX7_addDevice 54 = .ok (.ldc 80, 2) := by decide +kernel
theorem dX7_addDevice_56 : decode cX7_addDevice 56 = .ok (.invokespecial 82, 3) := by decide +kernel
theorem dX7_addDevice_59 : decode cX7_addDevice 59 = .ok (.athrow, 1) := by decide +kernel
theorem dX7_addDevice_60 : decode cX7_addDevice 60 = .ok (.aload_n 0, 1) := by decide +kernel
theorem dX7_addDevice_61 : decode cX7_addDevice 61 = .ok (.getfield 10, 3) := by decide +kernel
theorem dX7_addDevice_64 : decode cX7_addDevice 64 = .ok (.new 83, 3) := by decide +kernel
theorem dX7_addDevice_67 : decode cX7_addDevice 67 = .ok (.dup, 1) := by decide +kernel
theorem dX7_addDevice_68 : decode cX7_addDevice 68 = .ok (.iload_n 1, 1) := by decide +kernel
theorem dX7_addDevice_69 : decode cX7_addDevice 69 = .ok (.iload_n 2, 1) := by decide +kernel
theorem dX7_addDevice_70 : decode cX7_addDevice 70 = .ok (.iload_n 3, 1) := by decide +kernel
theorem dX7_addDevice_71 : decode cX7_addDevice 71 = .ok (.invokespecial 85, 3) := by decide +kernel
theorem dX7_addDevice_74 : decode cX7_addDevice 74 = .ok (.invokevirtual 88, 3) := by decide +kernel
theorem dX7_addDevice_77 : decode cX7_addDevice 77 = .ok (.pop, 1) := by decide +kernel
theorem dX7_addDevice_78 : decode cX7_addDevice 78 = .ok (.aload_n 0, 1) := by decide +kernel
theorem dX7_addDevice_79 : decode cX7_addDevice 79 = .ok (.iload_n 1, 1) := by decide +kernel
theorem dX7_addDevice_80 : decode cX7_addDevice 80 = .ok (.iload_n 2, 1) := by decide +kernel
theorem dX7_addDevice_81 : decode cX7_addDevice 81 = .ok (.invokevirtual 92, 3) := by decide +kernel
theorem dX7_addDevice_84 : decode cX7_addDevice 84 = .ok (.getfield 96, 3) := by decide +kernel
theorem dX7_addDevice_87 : decode cX7_addDevice 87 = .ok (.iload_n 3, 1) := by decide +kernel
theorem dX7_addDevice_88 : decode cX7_addDevice 88 = .ok (.iconst 1, 1) := by decide +kernel
theorem dX7_addDevice_89 : decode cX7_addDevice 89 = .ok (.invokevirtual 102, 3) := by decide +kernel
theorem dX7_addDevice_92 : decode cX7_addDevice 92 = .ok (.aload_n 0, 1) := by decide +kernel
theorem dX7_addDevice_93 : decode cX7_addDevice 93 = .ok (.getfield 10, 3) := by decide +kernel
theorem dX7_addDevice_96 : decode cX7_addDevice 96 = .ok (.invokevirtual 74, 3) := by decide +kernel
theorem dX7_addDevice_99 : decode cX7_addDevice 99 = .ok (.iconst 1, 1) := by decide +kernel
theorem dX7_addDevice_100 : decode cX7_addDevice 100 = .ok (.isub, 1) := by decide +kernel
theorem dX7_addDevice_101 : decode cX7_addDevice 101 = .ok (.ireturn, 1) := by decide +kernel
theorem dX7_addBuild_0 : decode cX7_addBuild 0 = .ok (.iload_n 2, 1) := by decide +kernel
theorem dX7_addBuild_1 : decode cX7_addBuild 1 = .ok (.iconst 1, 1) := by decide +kernel
theorem dX7_addBuild_2 : decode cX7_addBuild 2 = .ok (.bipush 63, 2) := by decide +kernel
theorem dX7_addBuild_4 : decode cX7_addBuild 4 = .ok (.invokestatic 63, 3) := by decide +kernel
theorem dX7_addBuild_7 : decode cX7_addBuild 7 = .ok (.ifCond .ne 25, 3) := by decide +kernel
theorem dX7_addBuild_10 : decode cX7_addBuild 10 = .ok (.iload_n 3, 1) := by decide +kernel
theorem dX7_addBuild_11 : decode cX7_addBuild 11 = .ok (.iconst 1, 1) := by decide +kernel
theorem dX7_addBuild_12 : decode cX7_addBuild 12 = .ok (.bipush 7, 2) := by decide +kernel
theorem dX7_addBuild_14 : decode cX7_addBuild 14 = .ok (.invokestatic 63, 3) := by decide +kernel
theorem dX7_addBuild_17 : decode cX7_addBuild 17 = .ok (.ifCond .ne 15, 3) := by decide +kernel
theorem dX7_addBuild_20 : decode cX7_addBuild 20 = .ok (.iload 6, 2) := by decide +kernel
theorem dX7_addBuild_22 : decode cX7_addBuild 22 = .ok (.iconst 0, 1) := by decide +kernel
theorem dX7_addBuild_23 : decode cX7_addBuild 23 = .ok (.sipush 255, 3) := by decide +kernel
theorem dX7_addBuild_26 : decode cX7_addBuild 26 = .ok (.invokestatic 63, 3) := by decide +kernel
theorem dX7_addBuild_29 : decode cX7_addBuild 29 = .ok (.ifCond .eq 13, 3) := by decide +kernel
theorem dX7_addBuild_32 : decode cX7_addBuild 32 = .ok (.new 67, 3) := by decide +kernel
theorem dX7_addBuild_35 : decode cX7_addBuild 35 = .ok (.dup, 1) := by decide +kernel
theorem dX7_addBuild_36 : decode cX7_addBuild 36 = .ok (.ldc 69, 2) := by decide +kernel
theorem dX7_addBuild_38 : decode cX7_addBuild 38 = .ok (.invokespecial 71, 3) := by decide +kernel
theorem dX7_addBuild_41 : decode cX7_addBuild 41 = .ok (.athrow, 1) := by decide +kernel
theorem dX7_addBuild_42 : decode cX7_addBuild 42 = .ok (.aload_n 0, 1) := by decide +kernel
theorem dX7_addBuild_43 : decode cX7_addBuild 43 = .ok (.iload_n 1, 1) := by decide +kernel
theorem dX7_addBuild_44 : decode cX7_addBuild 44 = .ok (.new 108, 3) := by decide +kernel
theorem dX7_addBuild_47 : decode cX7_addBuild 47 = .ok (.dup, 1) := by decide +kernel
theorem dX7_addBuild_48 : decode cX7_addBuild 48 = .ok (.iload_n 2, 1) := by decide +kernel
theorem dX7_addBuild_49 : decode cX7_addBuild 49 = .ok (.iload_n 3, 1) := by decide +kernel
theorem dX7_addBuild_50 : decode cX7_addBuild 50 = .ok (.iload 6, 2) := by decide +kernel
theorem dX7_addBuild_52 : decode cX7_addBuild 52 = .ok (.invokespecial 110, 3) := by decide +kernel
theorem dX7_addBuild_55 : decode cX7_addBuild 55 = .ok (.iload 4, 2) := by decide +kernel
theorem dX7_addBuild_57 : decode cX7_addBuild 57 = .ok (.iload 5, 2) := by decide +kernel
theorem dX7_addBuild_59 : decode cX7_addBuild 59 = .ok (.aconst_null, 1) := by decide +kernel
theorem dX7_addBuild_60 : decode cX7_addBuild 60 = .ok (.invokevirtual 111, 3) := by decide +kernel
theorem dX7_addBuild_63 : decode cX7_addBuild 63 = .ok (.ireturn, 1) := by decide +kernel
theorem dX7_addFix_0 : decode cX7_addFix 0 = .ok (.aload_n 0, 1) := by decide +kernel
theorem dX7_addFix_1 : decode cX7_addFix 1 = .ok (.iload_n 1, 1) := by decide +kernel
theorem dX7_addFix_2 : decode cX7_addFix 2 = .ok (.invokevirtual 115, 3) := by decide +kernel
theorem dX7_addFix_5 : decode cX7_addFix 5 = .ok (.astore 5, 2) := by decide +kernel
theorem dX7_addFix_7 : decode cX7_addFix 7 = .ok (.aload_n 0, 1) := by decide +kernel
theorem dX7_addFix_8 : decode cX7_addFix 8 = .ok (.iload_n 2, 1) := by decide +kernel
theorem dX7_addFix_9 : decode cX7_addFix 9 = .ok (.aload 5, 2) := by decide +kernel
theorem dX7_addFix_11 : decode cX7_addFix 11 = .ok (.getfield 119, 3) := by decide +kernel
theorem dX7_addFix_14 : decode cX7_addFix 14 = .ok (.iload_n 3, 1) := by decide +kernel
theorem dX7_addFix_15 : decode cX7_addFix 15 = .ok (.iload 4, 2) := by decide +kernel
theorem dX7_addFix_17 : decode cX7_addFix 17 = .ok (.aload 5, 2) := by decide +kernel
theorem dX7_addFix_19 : decode cX7_addFix 19 = .ok (.invokevirtual 111, 3) := by decide +kernel
theorem dX7_addFix_22 : decode cX7_addFix 22 = .ok (.ireturn, 1) := by decide +kernel
theorem dX7_submit_0 : decode cX7_submit 0 = .ok (.aload_n 0, 1) := by decide +kernel
theorem dX7_submit_1 : decode cX7_submit 1 = .ok (.iload_n 1, 1) := by decide +kernel
theorem dX7_submit_2 : decode cX7_submit 2 = .ok (.invokevirtual 115, 3) := by decide +kernel
theorem dX7_submit_5 : decode cX7_submit 5 = .ok (.astore_n 2, 1) := by decide +kernel
theorem dX7_submit_6 : decode cX7_submit 6 = .ok (.aload_n 2, 1) := by decide +kernel
theorem dX7_submit_7 : decode cX7_submit 7 = .ok (.getfield 125, 3) := by decide +kernel
theorem dX7_submit_10 : decode cX7_submit 10 = .ok (.bipush 100, 2) := by decide +kernel
theorem dX7_submit_12 : decode cX7_submit 12 = .ok (.if_icmp .eq 13, 3) := by decide +kernel
theorem dX7_submit_15 : decode cX7_submit 15 = .ok (.new 78, 3) := by decide +kernel
theorem dX7_submit_18 : decode cX7_submit 18 = .ok (.dup, 1) := by decide +kernel
theorem dX7_submit_19 : decode cX7_submit 19 = .ok (.ldc 129, 2) := by decide +kernel
theorem dX7_submit_21 : decode cX7_submit 21 = .ok (.invokespecial 82, 3) := by decide +kernel
theorem dX7_submit_24 : decode cX7_submit 24 = .ok (.athrow, 1) := by decide +kernel
theorem dX7_submit_25 : decode cX7_submit 25 = .ok (.aload_n 0, 1) := by decide +kernel
theorem dX7_submit_26 : decode cX7_submit 26 = .ok (.aload_n 2, 1) := by decide +kernel
theorem dX7_submit_27 : decode cX7_submit 27 = .ok (.invokevirtual 131, 3) := by decide +kernel
theorem dX7_submit_30 : decode cX7_submit 30 = .ok (.aload_n 0, 1) := by decide +kernel
theorem dX7_submit_31 : decode cX7_submit 31 = .ok (.invokevirtual 135, 3) := by decide +kernel
theorem dX7_submit_34 : decode cX7_submit 34 = .ok (.ireturn, 1) := by decide +kernel
theorem dX7_nextInReview_0 : decode cX7_nextInReview 0 = .ok (.aload_n 0, 1) := by decide +kernel
theorem dX7_nextInReview_1 : decode cX7_nextInReview 1 = .ok (.invokevirtual 138, 3) := by decide +kernel
theorem dX7_nextInReview_4 : decode cX7_nextInReview 4 = .ok (.getfield 142, 3) := by decide +kernel
theorem dX7_nextInReview_7 : decode cX7_nextInReview 7 = .ok (.ireturn, 1) := by decide +kernel
theorem dX7_review_0 : decode cX7_review 0 = .ok (.aload_n 0, 1) := by decide +kernel
theorem dX7_review_1 : decode cX7_review 1 = .ok (.invokevirtual 138, 3) := by decide +kernel
theorem dX7_review_4 : decode cX7_review 4 = .ok (.astore_n 1, 1) := by decide +kernel
theorem dX7_review_5 : decode cX7_review 5 = .ok (.aload_n 0, 1) := by decide +kernel
theorem dX7_review_6 : decode cX7_review 6 = .ok (.aload_n 1, 1) := by decide +kernel
theorem dX7_review_7 : decode cX7_review 7 = .ok (.invokevirtual 145, 3) := by decide +kernel
theorem dX7_review_10 : decode cX7_review 10 = .ok (.istore_n 2, 1) := by decide +kernel
theorem dX7_review_11 : decode cX7_review 11 = .ok (.aload_n 1, 1) := by decide +kernel
theorem dX7_review_12 : decode cX7_review 12 = .ok (.iload_n 2, 1) := by decide +kernel
theorem dX7_review_13 : decode cX7_review 13 = .ok (.bipush 45, 2) := by decide +kernel
theorem dX7_review_15 : decode cX7_review 15 = .ok (.if_icmp .ne 8, 3) := by decide +kernel
theorem dX7_review_18 : decode cX7_review 18 = .ok (.bipush 97, 2) := by decide +kernel
theorem dX7_review_20 : decode cX7_review 20 = .ok (.goto 5, 3) := by decide +kernel
theorem dX7_review_23 : decode cX7_review 23 = .ok (.bipush 114, 2) := by decide +kernel
theorem dX7_review_25 : decode cX7_review 25 = .ok (.putfield 125, 3) := by decide +kernel
theorem dX7_review_28 : decode cX7_review 28 = .ok (.iload_n 2, 1) := by decide +kernel
theorem dX7_review_29 : decode cX7_review 29 = .ok (.ireturn, 1) := by decide +kernel
theorem dX7_appeal_0 : decode cX7_appeal 0 = .ok (.aload_n 0, 1) := by decide +kernel
theorem dX7_appeal_1 : decode cX7_appeal 1 = .ok (.iload_n 1, 1) := by decide +kernel
theorem dX7_appeal_2 : decode cX7_appeal 2 = .ok (.invokevirtual 115, 3) := by decide +kernel
theorem dX7_appeal_5 : decode cX7_appeal 5 = .ok (.astore_n 2, 1) := by decide +kernel
theorem dX7_appeal_6 : decode cX7_appeal 6 = .ok (.aload_n 2, 1) := by decide +kernel
theorem dX7_appeal_7 : decode cX7_appeal 7 = .ok (.getfield 125, 3) := by decide +kernel
theorem dX7_appeal_10 : decode cX7_appeal 10 = .ok (.bipush 114, 2) := by decide +kernel
theorem dX7_appeal_12 : decode cX7_appeal 12 = .ok (.if_icmp .ne 10, 3) := by decide +kernel
theorem dX7_appeal_15 : decode cX7_appeal 15 = .ok (.aload_n 2, 1) := by decide +kernel
theorem dX7_appeal_16 : decode cX7_appeal 16 = .ok (.getfield 149, 3) := by decide +kernel
theorem dX7_appeal_19 : decode cX7_appeal 19 = .ok (.ifCond .eq 13, 3) := by decide +kernel
theorem dX7_appeal_22 : decode cX7_appeal 22 = .ok (.new 78, 3) := by decide +kernel
theorem dX7_appeal_25 : decode cX7_appeal 25 = .ok (.dup, 1) := by decide +kernel
theorem dX7_appeal_26 : decode cX7_appeal 26 = .ok (.ldc 153, 2) := by decide +kernel
theorem dX7_appeal_28 : decode cX7_appeal 28 = .ok (.invokespecial 82, 3) := by decide +kernel
theorem dX7_appeal_31 : decode cX7_appeal 31 = .ok (.athrow, 1) := by decide +kernel
theorem dX7_appeal_32 : decode cX7_appeal 32 = .ok (.aload_n 2, 1) := by decide +kernel
theorem dX7_appeal_33 : decode cX7_appeal 33 = .ok (.iconst 1, 1) := by decide +kernel
theorem dX7_appeal_34 : decode cX7_appeal 34 = .ok (.putfield 149, 3) := by decide +kernel
theorem dX7_appeal_37 : decode cX7_appeal 37 = .ok (.aload_n 0, 1) := by decide +kernel
theorem dX7_appeal_38 : decode cX7_appeal 38 = .ok (.aload_n 2, 1) := by decide +kernel
theorem dX7_appeal_39 : decode cX7_appeal 39 = .ok (.invokevirtual 131, 3) := by decide +kernel
theorem dX7_appeal_42 : decode cX7_appeal 42 = .ok (.aload_n 0, 1) := by decide +kernel
theorem dX7_appeal_43 : decode cX7_appeal 43 = .ok (.invokevirtual 135, 3) := by decide +kernel
theorem dX7_appeal_46 : decode cX7_appeal 46 = .ok (.ireturn, 1) := by decide +kernel
theorem dX7_setSize_0 : decode cX7_setSize 0 = .ok (.iload_n 1, 1) := by decide +kernel
theorem dX7_setSize_1 : decode cX7_setSize 1 = .ok (.iconst 1, 1) := by decide +kernel
theorem dX7_setSize_2 : decode cX7_setSize 2 = .ok (.sipush 500, 3) := by decide +kernel
theorem dX7_setSize_5 : decode cX7_setSize 5 = .ok (.invokestatic 63, 3) := by decide +kernel
theorem dX7_setSize_8 : decode cX7_setSize 8 = .ok (.ifCond .eq 13, 3) := by decide +kernel
theorem dX7_setSize_11 : decode cX7_setSize 11 = .ok (.new 67, 3) := by decide +kernel
theorem dX7_setSize_14 : decode cX7_setSize 14 = .ok (.dup, 1) := by decide +kernel
theorem dX7_setSize_15 : decode cX7_setSize 15 = .ok (.ldc 155, 2) := by decide +kernel
theorem dX7_setSize_17 : decode cX7_setSize 17 = .ok (.invokespecial 71, 3) := by decide +kernel
theorem dX7_setSize_20 : decode cX7_setSize 20 = .ok (.athrow, 1) := by decide +kernel
theorem dX7_setSize_21 : decode cX7_setSize 21 = .ok (.aload_n 0, 1) := by decide +kernel
theorem dX7_setSize_22 : decode cX7_setSize 22 = .ok (.getfield 42, 3) := by decide +kernel
theorem dX7_setSize_25 : decode cX7_setSize 25 = .ok (.istore_n 2, 1) := by decide +kernel
theorem dX7_setSize_26 : decode cX7_setSize 26 = .ok (.aload_n 0, 1) := by decide +kernel
theorem dX7_setSize_27 : decode cX7_setSize 27 = .ok (.iload_n 1, 1) := by decide +kernel
theorem dX7_setSize_28 : decode cX7_setSize 28 = .ok (.putfield 42, 3) := by decide +kernel
theorem dX7_setSize_31 : decode cX7_setSize 31 = .ok (.iload_n 2, 1) := by decide +kernel
theorem dX7_setSize_32 : decode cX7_setSize 32 = .ok (.ireturn, 1) := by decide +kernel
theorem dX7_setBarred_0 : decode cX7_setBarred 0 = .ok (.iload_n 1, 1) := by decide +kernel
theorem dX7_setBarred_1 : decode cX7_setBarred 1 = .ok (.iconst 0, 1) := by decide +kernel
theorem dX7_setBarred_2 : decode cX7_setBarred 2 = .ok (.bipush 15, 2) := by decide +kernel
theorem dX7_setBarred_4 : decode cX7_setBarred 4 = .ok (.invokestatic 63, 3) := by decide +kernel
theorem dX7_setBarred_7 : decode cX7_setBarred 7 = .ok (.ifCond .eq 13, 3) := by decide +kernel
theorem dX7_setBarred_10 : decode cX7_setBarred 10 = .ok (.new 67, 3) := by decide +kernel
theorem dX7_setBarred_13 : decode cX7_setBarred 13 = .ok (.dup, 1) := by decide +kernel
theorem dX7_setBarred_14 : decode cX7_setBarred 14 = .ok (.ldc 157, 2) := by decide +kernel
theorem dX7_setBarred_16 : decode cX7_setBarred 16 = .ok (.invokespecial 71, 3) := by decide +kernel
theorem dX7_setBarred_19 : decode cX7_setBarred 19 = .ok (.athrow, 1) := by decide +kernel
theorem dX7_setBarred_20 : decode cX7_setBarred 20 = .ok (.aload_n 0, 1) := by decide +kernel
theorem dX7_setBarred_21 : decode cX7_setBarred 21 = .ok (.getfield 46, 3) := by decide +kernel
theorem dX7_setBarred_24 : decode cX7_setBarred 24 = .ok (.istore_n 2, 1) := by decide +kernel
theorem dX7_setBarred_25 : decode cX7_setBarred 25 = .ok (.aload_n 0, 1) := by decide +kernel
theorem dX7_setBarred_26 : decode cX7_setBarred 26 = .ok (.iload_n 1, 1) := by decide +kernel
theorem dX7_setBarred_27 : decode cX7_setBarred 27 = .ok (.putfield 46, 3) := by decide +kernel
theorem dX7_setBarred_30 : decode cX7_setBarred 30 = .ok (.iload_n 2, 1) := by decide +kernel
theorem dX7_setBarred_31 : decode cX7_setBarred 31 = .ok (.ireturn, 1) := by decide +kernel
theorem dX7_stateOf_0 : decode cX7_stateOf 0 = .ok (.aload_n 0, 1) := by decide +kernel
theorem dX7_stateOf_1 : decode cX7_stateOf 1 = .ok (.iload_n 1, 1) := by decide +kernel
theorem dX7_stateOf_2 : decode cX7_stateOf 2 = .ok (.invokevirtual 115, 3) := by decide +kernel
theorem dX7_stateOf_5 : decode cX7_stateOf 5 = .ok (.getfield 125, 3) := by decide +kernel
theorem dX7_stateOf_8 : decode cX7_stateOf 8 = .ok (.ireturn, 1) := by decide +kernel
theorem dX7_stage_0 : decode cX7_stage 0 = .ok (.aload_n 0, 1) := by decide +kernel
theorem dX7_stage_1 : decode cX7_stage 1 = .ok (.iload_n 1, 1) := by decide +kernel
theorem dX7_stage_2 : decode cX7_stage 2 = .ok (.invokevirtual 115, 3) := by decide +kernel
theorem dX7_stage_5 : decode cX7_stage 5 = .ok (.astore 4, 2) := by decide +kernel
theorem dX7_stage_7 : decode cX7_stage 7 = .ok (.iload_n 2, 1) := by decide +kernel
theorem dX7_stage_8 : decode cX7_stage 8 = .ok (.iconst 1, 1) := by decide +kernel
theorem dX7_stage_9 : decode cX7_stage 9 = .ok (.bipush 100, 2) := by decide +kernel
theorem dX7_stage_11 : decode cX7_stage 11 = .ok (.invokestatic 63, 3) := by decide +kernel
theorem dX7_stage_14 : decode cX7_stage 14 = .ok (.ifCond .ne 13, 3) := by decide +kernel
theorem dX7_stage_17 : decode cX7_stage 17 = .ok (.iload_n 3, 1) := by decide +kernel
theorem dX7_stage_18 : decode cX7_stage 18 = .ok (.iconst 0, 1) := by decide +kernel
theorem dX7_stage_19 : decode cX7_stage 19 = .ok (.bipush 100, 2) := by decide +kernel
theorem dX7_stage_21 : decode cX7_stage 21 = .ok (.invokestatic 63, 3) := by decide +kernel
theorem dX7_stage_24 : decode cX7_stage 24 = .ok (.ifCond .eq 13, 3) := by decide +kernel
theorem dX7_stage_27 : decode cX7_stage 27 = .ok (.new 67, 3) := by decide +kernel
theorem dX7_stage_30 : decode cX7_stage 30 = .ok (.dup, 1) := by decide +kernel
theorem dX7_stage_31 : decode cX7_stage 31 = .ok (.ldc 69, 2) := by decide +kernel
theorem dX7_stage_33 : decode cX7_stage 33 = .ok (.invokespecial 71, 3) := by decide +kernel
theorem dX7_stage_36 : decode cX7_stage 36 = .ok (.athrow, 1) := by decide +kernel
theorem dX7_stage_37 : decode cX7_stage 37 = .ok (.aload 4, 2) := by decide +kernel
theorem dX7_stage_39 : decode cX7_stage 39 = .ok (.getfield 125, 3) := by decide +kernel
theorem dX7_stage_42 : decode cX7_stage 42 = .ok (.bipush 97, 2) := by decide +kernel
theorem dX7_stage_44 : decode cX7_stage 44 = .ok (.if_icmp .eq 13, 3) := by decide +kernel
theorem dX7_stage_47 : decode cX7_stage 47 = .ok (.new 78, 3) := by decide +kernel
theorem dX7_stage_50 : decode cX7_stage 50 = .ok (.dup, 1) := by decide +kernel
theorem dX7_stage_51 : decode cX7_stage 51 = .ok (.ldc 159, 2) := by decide +kernel
theorem dX7_stage_53 : decode cX7_stage 53 = .ok (.invokespecial 82, 3) := by decide +kernel
theorem dX7_stage_56 : decode cX7_stage 56 = .ok (.athrow, 1) := by decide +kernel
theorem dX7_stage_57 : decode cX7_stage 57 = .ok (.aload 4, 2) := by decide +kernel
theorem dX7_stage_59 : decode cX7_stage 59 = .ok (.getfield 161, 3) := by decide +kernel
theorem dX7_stage_62 : decode cX7_stage 62 = .ok (.istore 5, 2) := by decide +kernel
theorem dX7_stage_64 : decode cX7_stage 64 = .ok (.iload_n 2, 1) := by decide +kernel
theorem dX7_stage_65 : decode cX7_stage 65 = .ok (.iload 5, 2) := by decide +kernel
theorem dX7_stage_67 : decode cX7_stage 67 = .ok (.if_icmp .ge 13, 3) := by decide +kernel
theorem dX7_stage_70 : decode cX7_stage 70 = .ok (.new 164, 3) := by decide +kernel
theorem dX7_stage_73 : decode cX7_stage 73 = .ok (.dup, 1) := by decide +kernel
theorem dX7_stage_74 : decode cX7_stage 74 = .ok (.ldc 166, 2) := by decide +kernel
theorem dX7_stage_76 : decode cX7_stage 76 = .ok (.invokespecial 168, 3) := by decide +kernel
theorem dX7_stage_79 : decode cX7_stage 79 = .ok (.athrow, 1) := by decide +kernel
theorem dX7_stage_80 : decode cX7_stage 80 = .ok (.aload 4, 2) := by decide +kernel
theorem dX7_stage_82 : decode cX7_stage 82 = .ok (.iload_n 2, 1) := by decide +kernel
theorem dX7_stage_83 : decode cX7_stage 83 = .ok (.putfield 161, 3) := by decide +kernel
theorem dX7_stage_86 : decode cX7_stage 86 = .ok (.aload 4, 2) := by decide +kernel
theorem dX7_stage_88 : decode cX7_stage 88 = .ok (.iload_n 3, 1) := by decide +kernel
theorem dX7_stage_89 : decode cX7_stage 89 = .ok (.putfield 169, 3) := by decide +kernel
theorem dX7_stage_92 : decode cX7_stage 92 = .ok (.iload 5, 2) := by decide +kernel
theorem dX7_stage_94 : decode cX7_stage 94 = .ok (.ireturn, 1) := by decide +kernel
theorem dX7_percentageOf_0 : decode cX7_percentageOf 0 = .ok (.aload_n 0, 1) := by decide +kernel
theorem dX7_percentageOf_1 : decode cX7_percentageOf 1 = .ok (.iload_n 1, 1) := by decide +kernel
theorem dX7_percentageOf_2 : decode cX7_percentageOf 2 = .ok (.invokevirtual 115, 3) := by decide +kernel
theorem dX7_percentageOf_5 : decode cX7_percentageOf 5 = .ok (.getfield 161, 3) := by decide +kernel
theorem dX7_percentageOf_8 : decode cX7_percentageOf 8 = .ok (.ireturn, 1) := by decide +kernel
theorem dX7_percentageAfter_0 : decode cX7_percentageAfter 0 = .ok (.aload_n 0, 1) := by decide +kernel
theorem dX7_percentageAfter_1 : decode cX7_percentageAfter 1 = .ok (.iload_n 1, 1) := by decide +kernel
theorem dX7_percentageAfter_2 : decode cX7_percentageAfter 2 = .ok (.invokevirtual 115, 3) := by decide +kernel
theorem dX7_percentageAfter_5 : decode cX7_percentageAfter 5 = .ok (.astore_n 3, 1) := by decide +kernel
theorem dX7_percentageAfter_6 : decode cX7_percentageAfter 6 = .ok (.iload_n 2, 1) := by decide +kernel
theorem dX7_percentageAfter_7 : decode cX7_percentageAfter 7 = .ok (.iconst 1, 1) := by decide +kernel
theorem dX7_percentageAfter_8 : decode cX7_percentageAfter 8 = .ok (.bipush 99, 2) := by decide +kernel
theorem dX7_percentageAfter_10 : decode cX7_percentageAfter 10 = .ok (.invokestatic 63, 3) := by decide +kernel
theorem dX7_percentageAfter_13 : decode cX7_percentageAfter 13 = .ok (.ifCond .eq 13, 3) := by decide +kernel
theorem dX7_percentageAfter_16 : decode cX7_percentageAfter 16 = .ok (.new 67, 3) := by decide +kernel
theorem dX7_percentageAfter_19 : decode cX7_percentageAfter 19 = .ok (.dup, 1) := by decide +kernel
theorem dX7_percentageAfter_20 : decode cX7_percentageAfter 20 = .ok (.ldc 157, 2) := by decide +kernel
theorem dX7_percentageAfter_22 : decode cX7_percentageAfter 22 = .ok (.invokespecial 71, 3) := by decide +kernel
theorem dX7_percentageAfter_25 : decode cX7_percentageAfter 25 = .ok (.athrow, 1) := by decide +kernel
theorem dX7_percentageAfter_26 : decode cX7_percentageAfter 26 = .ok (.aload_n 0, 1) := by decide +kernel
theorem dX7_percentageAfter_27 : decode cX7_percentageAfter 27 = .ok (.aload_n 3, 1) := by decide +kernel
theorem dX7_percentageAfter_28 : decode cX7_percentageAfter 28 = .ok (.iload_n 2, 1) := by decide +kernel
theorem dX7_percentageAfter_29 : decode cX7_percentageAfter 29 = .ok (.invokevirtual 172, 3) := by decide +kernel
theorem dX7_percentageAfter_32 : decode cX7_percentageAfter 32 = .ok (.ireturn, 1) := by decide +kernel
theorem dX7_pass_0 : decode cX7_pass 0 = .ok (.iload_n 1, 1) := by decide +kernel
theorem dX7_pass_1 : decode cX7_pass 1 = .ok (.iconst 1, 1) := by decide +kernel
theorem dX7_pass_2 : decode cX7_pass 2 = .ok (.bipush 99, 2) := by decide +kernel
theorem dX7_pass_4 : decode cX7_pass 4 = .ok (.invokestatic 63, 3) := by decide +kernel
theorem dX7_pass_7 : decode cX7_pass 7 = .ok (.ifCond .eq 13, 3) := by decide +kernel
theorem dX7_pass_10 : decode cX7_pass 10 = .ok (.new 67, 3) := by decide +kernel
theorem dX7_pass_13 : decode cX7_pass 13 = .ok (.dup, 1) := by decide +kernel
theorem dX7_pass_14 : decode cX7_pass 14 = .ok (.ldc 157, 2) := by decide +kernel
theorem dX7_pass_16 : decode cX7_pass 16 = .ok (.invokespecial 71, 3) := by decide +kernel
theorem dX7_pass_19 : decode cX7_pass 19 = .ok (.athrow, 1) := by decide +kernel
theorem dX7_pass_20 : decode cX7_pass 20 = .ok (.aload_n 0, 1) := by decide +kernel
theorem dX7_pass_21 : decode cX7_pass 21 = .ok (.getfield 60, 3) := by decide +kernel
theorem dX7_pass_24 : decode cX7_pass 24 = .ok (.iload_n 1, 1) := by decide +kernel
theorem dX7_pass_25 : decode cX7_pass 25 = .ok (.iadd, 1) := by decide +kernel
theorem dX7_pass_26 : decode cX7_pass 26 = .ok (.sipush 999, 3) := by decide +kernel
theorem dX7_pass_29 : decode cX7_pass 29 = .ok (.if_icmp .le 13, 3) := by decide +kernel
theorem dX7_pass_32 : decode cX7_pass 32 = .ok (.new 78, 3) := by decide +kernel
theorem dX7_pass_35 : decode cX7_pass 35 = .ok (.dup, 1) := by decide +kernel
theorem dX7_pass_36 : decode cX7_pass 36 = .ok (.ldc 176, 2) := by decide +kernel
theorem dX7_pass_38 : decode cX7_pass 38 = .ok (.invokespecial 82, 3) := by decide +kernel
theorem dX7_pass_41 : decode cX7_pass 41 = .ok (.athrow, 1) := by decide +kernel
theorem dX7_pass_42 : decode cX7_pass 42 = .ok (.iconst 0, 1) := by decide +kernel
theorem dX7_pass_43 : decode cX7_pass 43 = .ok (.istore_n 2, 1) := by decide +kernel
theorem dX7_pass_44 : decode cX7_pass 44 = .ok (.iload_n 2, 1) := by decide +kernel
theorem dX7_pass_45 : decode cX7_pass 45 = .ok (.aload_n 0, 1) := by decide +kernel
theorem dX7_pass_46 : decode cX7_pass 46 = .ok (.getfield 19, 3) := by decide +kernel
theorem dX7_pass_49 : decode cX7_pass 49 = .ok (.invokevirtual 74, 3) := by decide +kernel
theorem dX7_pass_52 : decode cX7_pass 52 = .ok (.if_icmp .ge 31, 3) := by decide +kernel
theorem dX7_pass_55 : decode cX7_pass 55 = .ok (.aload_n 0, 1) := by decide +kernel
theorem dX7_pass_56 : decode cX7_pass 56 = .ok (.getfield 19, 3) := by decide +kernel
theorem dX7_pass_59 : decode cX7_pass 59 = .ok (.iload_n 2, 1) := by decide +kernel
theorem dX7_pass_60 : decode cX7_pass 60 = .ok (.invokevirtual 178, 3) := by decide +kernel
theorem dX7_pass_63 : decode cX7_pass 63 = .ok (.checkcast 120, 3) := by decide +kernel
theorem dX7_pass_66 : decode cX7_pass 66 = .ok (.astore_n 3, 1) := by decide +kernel
theorem dX7_pass_67 : decode cX7_pass 67 = .ok (.aload_n 3, 1) := by decide +kernel
theorem dX7_pass_68 : decode cX7_pass 68 = .ok (.aload_n 0, 1) := by decide +kernel
theorem dX7_pass_69 : decode cX7_pass 69 = .ok (.aload_n 3, 1) := by decide +kernel
theorem dX7_pass_70 : decode cX7_pass 70 = .ok (.iload_n 1, 1) := by decide +kernel
theorem dX7_pass_71 : decode cX7_pass 71 = .ok (.invokevirtual 172, 3) := by decide +kernel
theorem dX7_pass_74 : decode cX7_pass 74 = .ok (.putfield 161, 3) := by decide +kernel
theorem dX7_pass_77 : decode cX7_pass 77 = .ok (.iinc 2 1, 3) := by decide +kernel
theorem dX7_pass_80 : decode cX7_pass 80 = .ok (.goto (-36), 3) := by decide +kernel
theorem dX7_pass_83 : decode cX7_pass 83 = .ok (.aload_n 0, 1) := by decide +kernel
theorem dX7_pass_84 : decode cX7_pass 84 = .ok (.dup, 1) := by decide +kernel
theorem dX7_pass_85 : decode cX7_pass 85 = .ok (.getfield 60, 3) := by decide +kernel
theorem dX7_pass_88 : decode cX7_pass 88 = .ok (.iload_n 1, 1) := by decide +kernel
theorem dX7_pass_89 : decode cX7_pass 89 = .ok (.iadd, 1) := by decide +kernel
theorem dX7_pass_90 : decode cX7_pass 90 = .ok (.putfield 60, 3) := by decide +kernel
theorem dX7_pass_93 : decode cX7_pass 93 = .ok (.aload_n 0, 1) := by decide +kernel
theorem dX7_pass_94 : decode cX7_pass 94 = .ok (.getfield 60, 3) := by decide +kernel
theorem dX7_pass_97 : decode cX7_pass 97 = .ok (.ireturn, 1) := by decide +kernel
theorem dX7_holdOf_0 : decode cX7_holdOf 0 = .ok (.aload_n 0, 1) := by decide +kernel
theorem dX7_holdOf_1 : decode cX7_holdOf 1 = .ok (.iload_n 1, 1) := by decide +kernel
theorem dX7_holdOf_2 : decode cX7_holdOf 2 = .ok (.invokevirtual 115, 3) := by decide +kernel
theorem dX7_holdOf_5 : decode cX7_holdOf 5 = .ok (.astore_n 2, 1) := by decide +kernel
theorem dX7_holdOf_6 : decode cX7_holdOf 6 = .ok (.aload_n 2, 1) := by decide +kernel
theorem dX7_holdOf_7 : decode cX7_holdOf 7 = .ok (.getfield 125, 3) := by decide +kernel
theorem dX7_holdOf_10 : decode cX7_holdOf 10 = .ok (.bipush 97, 2) := by decide +kernel
theorem dX7_holdOf_12 : decode cX7_holdOf 12 = .ok (.if_icmp .eq 13, 3) := by decide +kernel
theorem dX7_holdOf_15 : decode cX7_holdOf 15 = .ok (.new 78, 3) := by decide +kernel
theorem dX7_holdOf_18 : decode cX7_holdOf 18 = .ok (.dup, 1) := by decide +kernel
theorem dX7_holdOf_19 : decode cX7_holdOf 19 = .ok (.ldc 159, 2) := by decide +kernel
theorem dX7_holdOf_21 : decode cX7_holdOf 21 = .ok (.invokespecial 82, 3) := by decide +kernel
theorem dX7_holdOf_24 : decode cX7_holdOf 24 = .ok (.athrow, 1) := by decide +kernel
theorem dX7_holdOf_25 : decode cX7_holdOf 25 = .ok (.aload_n 0, 1) := by decide +kernel
theorem dX7_holdOf_26 : decode cX7_holdOf 26 = .ok (.aload_n 2, 1) := by decide +kernel
theorem dX7_holdOf_27 : decode cX7_holdOf 27 = .ok (.invokevirtual 182, 3) := by decide +kernel
theorem dX7_holdOf_30 : decode cX7_holdOf 30 = .ok (.ireturn, 1) := by decide +kernel
theorem dX7_day_0 : decode cX7_day 0 = .ok (.aload_n 0, 1) := by decide +kernel
theorem dX7_day_1 : decode cX7_day 1 = .ok (.getfield 60, 3) := by decide +kernel
theorem dX7_day_4 : decode cX7_day 4 = .ok (.ireturn, 1) := by decide +kernel
theorem dX7_couldHave_0 : decode cX7_couldHave 0 = .ok (.aload_n 0, 1) := by decide +kernel
theorem dX7_couldHave_1 : decode cX7_couldHave 1 = .ok (.iload_n 1, 1) := by decide +kernel
theorem dX7_couldHave_2 : decode cX7_couldHave 2 = .ok (.invokevirtual 185, 3) := by decide +kernel
theorem dX7_couldHave_5 : decode cX7_couldHave 5 = .ok (.astore_n 3, 1) := by decide +kernel
theorem dX7_couldHave_6 : decode cX7_couldHave 6 = .ok (.aload_n 0, 1) := by decide +kernel
theorem dX7_couldHave_7 : decode cX7_couldHave 7 = .ok (.aload_n 0, 1) := by decide +kernel
theorem dX7_couldHave_8 : decode cX7_couldHave 8 = .ok (.iload_n 2, 1) := by decide +kernel
theorem dX7_couldHave_9 : decode cX7_couldHave 9 = .ok (.invokevirtual 115, 3) := by decide +kernel
theorem dX7_couldHave_12 : decode cX7_couldHave 12 = .ok (.aload_n 3, 1) := by decide +kernel
theorem dX7_couldHave_13 : decode cX7_couldHave 13 = .ok (.invokevirtual 189, 3) := by decide +kernel
theorem dX7_couldHave_16 : decode cX7_couldHave 16 = .ok (.ireturn, 1) := by decide +kernel
theorem dX7_reach_0 : decode cX7_reach 0 = .ok (.aload_n 0, 1) := by decide +kernel
theorem dX7_reach_1 : decode cX7_reach 1 = .ok (.iload_n 1, 1) := by decide +kernel
theorem dX7_reach_2 : decode cX7_reach 2 = .ok (.invokevirtual 115, 3) := by decide +kernel
theorem dX7_reach_5 : decode cX7_reach 5 = .ok (.astore_n 2, 1) := by decide +kernel
theorem dX7_reach_6 : decode cX7_reach 6 = .ok (.aload_n 0, 1) := by decide +kernel
theorem dX7_reach_7 : decode cX7_reach 7 = .ok (.aload_n 2, 1) := by decide +kernel
theorem dX7_reach_8 : decode cX7_reach 8 = .ok (.invokevirtual 193, 3) := by decide +kernel
theorem dX7_reach_11 : decode cX7_reach 11 = .ok (.ifCond .ne 5, 3) := by decide +kernel
theorem dX7_reach_14 : decode cX7_reach 14 = .ok (.iconst 0, 1) := by decide +kernel
theorem dX7_reach_15 : decode cX7_reach 15 = .ok (.ireturn, 1) := by decide +kernel
theorem dX7_reach_16 : decode cX7_reach 16 = .ok (.iconst 0, 1) := by decide +kernel
theorem dX7_reach_17 : decode cX7_reach 17 = .ok (.istore_n 3, 1) := by decide +kernel
theorem dX7_reach_18 : decode cX7_reach 18 = .ok (.iconst 0, 1) := by decide +kernel
theorem dX7_reach_19 : decode cX7_reach 19 = .ok (.istore 4, 2) := by decide +kernel
theorem dX7_reach_21 : decode cX7_reach 21 = .ok (.iload 4, 2) := by decide +kernel
theorem dX7_reach_23 : decode cX7_reach 23 = .ok (.aload_n 0, 1) := by decide +kernel
theorem dX7_reach_24 : decode cX7_reach 24 = .ok (.getfield 16, 3) := by decide +kernel
theorem dX7_reach_27 : decode cX7_reach 27 = .ok (.invokevirtual 74, 3) := by decide +kernel
theorem dX7_reach_30 : decode cX7_reach 30 = .ok (.if_icmp .ge 58, 3) := by decide +kernel
theorem dX7_reach_33 : decode cX7_reach 33 = .ok (.aload_n 0, 1) := by decide +kernel
theorem dX7_reach_34 : decode cX7_reach 34 = .ok (.getfield 16, 3) := by decide +kernel
theorem dX7_reach_37 : decode cX7_reach 37 = .ok (.iload 4, 2) := by decide +kernel
theorem dX7_reach_39 : decode cX7_reach 39 = .ok (.invokevirtual 178, 3) := by decide +kernel
theorem dX7_reach_42 : decode cX7_reach 42 = .ok (.checkcast 97, 3) := by decide +kernel
theorem dX7_reach_45 : decode cX7_reach 45 = .ok (.astore 5, 2) := by decide +kernel
theorem dX7_reach_47 : decode cX7_reach 47 = .ok (.aload_n 2, 1) := by decide +kernel
theorem dX7_reach_48 : decode cX7_reach 48 = .ok (.getfield 119, 3) := by decide +kernel
theorem dX7_reach_51 : decode cX7_reach 51 = .ok (.aload 5, 2) := by decide +kernel
theorem dX7_reach_53 : decode cX7_reach 53 = .ok (.getfield 197, 3) := by decide +kernel
theorem dX7_reach_56 : decode cX7_reach 56 = .ok (.aload 5, 2) := by decide +kernel
theorem dX7_reach_58 : decode cX7_reach 58 = .ok (.getfield 200, 3) := by decide +kernel
theorem dX7_reach_61 : decode cX7_reach 61 = .ok (.invokevirtual 203, 3) := by decide +kernel
theorem dX7_reach_64 : decode cX7_reach 64 = .ok (.ifCond .eq 18, 3) := by decide +kernel
theorem dX7_reach_67 : decode cX7_reach 67 = .ok (.iload_n 3, 1) := by decide +kernel
theorem dX7_reach_68 : decode cX7_reach 68 = .ok (.aload 5, 2) := by decide +kernel
theorem dX7_reach_70 : decode cX7_reach 70 = .ok (.getfield 96, 3) := by decide +kernel
theorem dX7_reach_73 : decode cX7_reach 73 = .ok (.aload_n 2, 1) := by decide +kernel
theorem dX7_reach_74 : decode cX7_reach 74 = .ok (.getfield 161, 3) := by decide +kernel
theorem dX7_reach_77 : decode cX7_reach 77 = .ok (.invokevirtual 207, 3) := by decide +kernel
theorem dX7_reach_80 : decode cX7_reach 80 = .ok (.iadd, 1) := by decide +kernel
theorem dX7_reach_81 : decode cX7_reach 81 = .ok (.istore_n 3, 1) := by decide +kernel
theorem dX7_reach_82 : decode cX7_reach 82 = .ok (.iinc 4 1, 3) := by decide +kernel
theorem dX7_reach_85 : decode cX7_reach 85 = .ok (.goto (-64), 3) := by decide +kernel
theorem dX7_reach_88 : decode cX7_reach 88 = .ok (.aload_n 2, 1) := by decide +kernel
theorem dX7_reach_89 : decode cX7_reach 89 = .ok (.getfield 211, 3) := by decide +kernel
theorem dX7_reach_92 : decode cX7_reach 92 = .ok (.ifnull 30, 3) := by decide +kernel
theorem dX7_reach_95 : decode cX7_reach 95 = .ok (.aload_n 2, 1) := by decide +kernel
theorem dX7_reach_96 : decode cX7_reach 96 = .ok (.getfield 211, 3) := by decide +kernel
theorem dX7_reach_99 : decode cX7_reach 99 = .ok (.getfield 215, 3) := by decide +kernel
theorem dX7_reach_102 : decode cX7_reach 102 = .ok (.astore 4, 2) := by decide +kernel
theorem dX7_reach_104 : decode cX7_reach 104 = .ok (.iload_n 3, 1) := by decide +kernel
theorem dX7_reach_105 : decode cX7_reach 105 = .ok (.aload 4, 2) := by decide +kernel
theorem dX7_reach_107 : decode cX7_reach 107 = .ok (.getfield 218, 3) := by decide +kernel
theorem dX7_reach_110 : decode cX7_reach 110 = .ok (.aload 4, 2) := by decide +kernel
theorem dX7_reach_112 : decode cX7_reach 112 = .ok (.aload_n 2, 1) := by decide +kernel
theorem dX7_reach_113 : decode cX7_reach 113 = .ok (.getfield 161, 3) := by decide +kernel
theorem dX7_reach_116 : decode cX7_reach 116 = .ok (.invokevirtual 207, 3) := by decide +kernel
theorem dX7_reach_119 : decode cX7_reach 119 = .ok (.isub, 1) := by decide +kernel
theorem dX7_reach_120 : decode cX7_reach 120 = .ok (.iadd, 1) := by decide +kernel
theorem dX7_reach_121 : decode cX7_reach 121 = .ok (.istore_n 3, 1) := by decide +kernel
theorem dX7_reach_122 : decode cX7_reach 122 = .ok (.iload_n 3, 1) := by decide +kernel
theorem dX7_reach_123 : decode cX7_reach 123 = .ok (.ireturn, 1) := by decide +kernel
theorem dX7_reachByDevices_0 : decode cX7_reachByDevices 0 = .ok (.aload_n 0, 1) := by decide +kernel
theorem dX7_reachByDevices_1 : decode cX7_reachByDevices 1 = .ok (.iload_n 1, 1) := by decide +kernel
theorem dX7_reachByDevices_2 : decode cX7_reachByDevices 2 = .ok (.invokevirtual 115, 3) := by decide +kernel
theorem dX7_reachByDevices_5 : decode cX7_reachByDevices 5 = .ok (.astore_n 2, 1) := by decide +kernel
theorem dX7_reachByDevices_6 : decode cX7_reachByDevices 6 = .ok (.iconst 0, 1) := by decide +kernel
theorem dX7_reachByDevices_7 : decode cX7_reachByDevices 7 = .ok (.istore_n 3, 1) := by decide +kernel
theorem dX7_reachByDevices_8 : decode cX7_reachByDevices 8 = .ok (.iconst 0, 1) := by decide +kernel
theorem dX7_reachByDevices_9 : decode cX7_reachByDevices 9 = .ok (.istore 4, 2) := by decide +kernel
theorem dX7_reachByDevices_11 : decode cX7_reachByDevices 11 = .ok (.iload 4, 2) := by decide +kernel
theorem dX7_reachByDevices_13 : decode cX7_reachByDevices 13 = .ok (.aload_n 0, 1) := by decide +kernel
theorem dX7_reachByDevices_14 : decode cX7_reachByDevices 14 = .ok (.getfield 10, 3) := by decide +kernel
theorem dX7_reachByDevices_17 : decode cX7_reachByDevices 17 = .ok (.invokevirtual 74, 3) := by decide +kernel
theorem dX7_reachByDevices_20 : decode cX7_reachByDevices 20 = .ok (.if_icmp .ge 32, 3) := by decide +kernel
theorem dX7_reachByDevices_23 : decode cX7_reachByDevices 23 = .ok (.aload_n 0, 1) := by decide +kernel
theorem dX7_reachByDevices_24 : decode cX7_reachByDevices 24 = .ok (.aload_n 2, 1) := by decide +kernel
theorem dX7_reachByDevices_25 : decode cX7_reachByDevices 25 = .ok (.aload_n 0, 1) := by decide +kernel
theorem dX7_reachByDevices_26 : decode cX7_reachByDevices 26 = .ok (.getfield 10, 3) := by decide +kernel
theorem dX7_reachByDevices_29 : decode cX7_reachByDevices 29 = .ok (.iload 4, 2) := by decide +kernel
theorem dX7_reachByDevices_31 : decode cX7_reachByDevices 31 = .ok (.invokevirtual 178, 3) := by decide +kernel
theorem dX7_reachByDevices_34 : decode cX7_reachByDevices 34 = .ok (.checkcast 83, 3) := by decide +kernel
theorem dX7_reachByDevices_37 : decode cX7_reachByDevices 37 = .ok (.invokevirtual 189, 3) := by decide +kernel
theorem dX7_reachByDevices_40 : decode cX7_reachByDevices 40 = .ok (.ifCond .eq 6, 3) := by decide +kernel
theorem dX7_reachByDevices_43 : decode cX7_reachByDevices 43 = .ok (.iinc 3 1, 3) := by decide +kernel
theorem dX7_reachByDevices_46 : decode cX7_reachByDevices 46 = .ok (.iinc 4 1, 3) := by decide +kernel
theorem dX7_reachByDevices_49 : decode cX7_reachByDevices 49 = .ok (.goto (-38), 3) := by decide +kernel
theorem dX7_reachByDevices_52 : decode cX7_reachByDevices 52 = .ok (.iload_n 3, 1) := by decide +kernel
theorem dX7_reachByDevices_53 : decode cX7_reachByDevices 53 = .ok (.ireturn, 1) := by decide +kernel
theorem dX7_offered_0 : decode cX7_offered 0 = .ok (.aload_n 0, 1) := by decide +kernel
theorem dX7_offered_1 : decode cX7_offered 1 = .ok (.aload_n 0, 1) := by decide +kernel
theorem dX7_offered_2 : decode cX7_offered 2 = .ok (.iload_n 1, 1) := by decide +kernel
theorem dX7_offered_3 : decode cX7_offered 3 = .ok (.invokevirtual 185, 3) := by decide +kernel
theorem dX7_offered_6 : decode cX7_offered 6 = .ok (.invokevirtual 221, 3) := by decide +kernel
theorem dX7_offered_9 : decode cX7_offered 9 = .ok (.getfield 142, 3) := by decide +kernel
theorem dX7_offered_12 : decode cX7_offered 12 = .ok (.ireturn, 1) := by decide +kernel
theorem dX7_update_0 : decode cX7_update 0 = .ok (.aload_n 0, 1) := by decide +kernel
theorem dX7_update_1 : decode cX7_update 1 = .ok (.iload_n 1, 1) := by decide +kernel
theorem dX7_update_2 : decode cX7_update 2 = .ok (.invokevirtual 185, 3) := by decide +kernel
theorem dX7_update_5 : decode cX7_update 5 = .ok (.astore_n 2, 1) := by decide +kernel
theorem dX7_update_6 : decode cX7_update 6 = .ok (.aload_n 0, 1) := by decide +kernel
theorem dX7_update_7 : decode cX7_update 7 = .ok (.aload_n 2, 1) := by decide +kernel
theorem dX7_update_8 : decode cX7_update 8 = .ok (.invokevirtual 221, 3) := by decide +kernel
theorem dX7_update_11 : decode cX7_update 11 = .ok (.astore_n 3, 1) := by decide +kernel
theorem dX7_update_12 : decode cX7_update 12 = .ok (.aload_n 2, 1) := by decide +kernel
theorem dX7_update_13 : decode cX7_update 13 = .ok (.getfield 225, 3) := by decide +kernel
theorem dX7_update_16 : decode cX7_update 16 = .ok (.ifnull 18, 3) := by decide +kernel
