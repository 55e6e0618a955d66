theorem dX8_isDevice_7 : decode cX8_isDevice 7 = .ok (.isub, 1) := by decide +kernel
theorem dX8_isDevice_8 : decode cX8_isDevice 8 = .ok (.invokestatic 116, 3) := by decide +kernel
theorem dX8_isDevice_11 : decode cX8_isDevice 11 = .ok (.ireturn, 1) := by decide +kernel
theorem dX8_isBuild_0 : decode cX8_isBuild 0 = .ok (.iload_n 1, 1) := by decide +kernel
theorem dX8_isBuild_1 : decode cX8_isBuild 1 = .ok (.iconst 0, 1) := by decide +kernel
theorem dX8_isBuild_2 : decode cX8_isBuild 2 = .ok (.aload_n 0, 1) := by decide +kernel
theorem dX8_isBuild_3 : decode cX8_isBuild 3 = .ok (.getfield 120, 3) := by decide +kernel
theorem dX8_isBuild_6 : decode cX8_isBuild 6 = .ok (.iconst 1, 1) := by decide +kernel
theorem dX8_isBuild_7 : decode cX8_isBuild 7 = .ok (.isub, 1) := by decide +kernel
theorem dX8_isBuild_8 : decode cX8_isBuild 8 = .ok (.invokestatic 116, 3) := by decide +kernel
theorem dX8_isBuild_11 : decode cX8_isBuild 11 = .ok (.ireturn, 1) := by decide +kernel
theorem dX8_noBuild_0 : decode cX8_noBuild 0 = .ok (.aload_n 0, 1) := by decide +kernel
theorem dX8_noBuild_1 : decode cX8_noBuild 1 = .ok (.aload_n 0, 1) := by decide +kernel
theorem dX8_noBuild_2 : decode cX8_noBuild 2 = .ok (.iload_n 1, 1) := by decide +kernel
theorem dX8_noBuild_3 : decode cX8_noBuild 3 = .ok (.invokevirtual 123, 3) := by decide +kernel
theorem dX8_noBuild_6 : decode cX8_noBuild 6 = .ok (.ifCond .eq 7, 3) := by decide +kernel
theorem dX8_noBuild_9 : decode cX8_noBuild 9 = .ok (.iconst 0, 1) := by decide +kernel
theorem dX8_noBuild_10 : decode cX8_noBuild 10 = .ok (.goto 4, 3) := by decide +kernel
theorem dX8_noBuild_13 : decode cX8_noBuild 13 = .ok (.iconst 1, 1) := by decide +kernel
theorem dX8_noBuild_14 : decode cX8_noBuild 14 = .ok (.putfield 110, 3) := by decide +kernel
theorem dX8_noBuild_17 : decode cX8_noBuild 17 = .ok (.aload_n 0, 1) := by decide +kernel
theorem dX8_noBuild_18 : decode cX8_noBuild 18 = .ok (.getfield 110, 3) := by decide +kernel
theorem dX8_noBuild_21 : decode cX8_noBuild 21 = .ok (.ifCond .le 7, 3) := by decide +kernel
theorem dX8_noBuild_24 : decode cX8_noBuild 24 = .ok (.iconst 1, 1) := by decide +kernel
theorem dX8_noBuild_25 : decode cX8_noBuild 25 = .ok (.goto 4, 3) := by decide +kernel
theorem dX8_noBuild_28 : decode cX8_noBuild 28 = .ok (.iconst 0, 1) := by decide +kernel
theorem dX8_noBuild_29 : decode cX8_noBuild 29 = .ok (.ireturn, 1) := by decide +kernel
theorem dX8_noDevice_0 : decode cX8_noDevice 0 = .ok (.aload_n 0, 1) := by decide +kernel
theorem dX8_noDevice_1 : decode cX8_noDevice 1 = .ok (.aload_n 0, 1) := by decide +kernel
theorem dX8_noDevice_2 : decode cX8_noDevice 2 = .ok (.iload_n 1, 1) := by decide +kernel
theorem dX8_noDevice_3 : decode cX8_noDevice 3 = .ok (.invokevirtual 127, 3) := by decide +kernel
theorem dX8_noDevice_6 : decode cX8_noDevice 6 = .ok (.ifCond .eq 7, 3) := by decide +kernel
theorem dX8_noDevice_9 : decode cX8_noDevice 9 = .ok (.iconst 0, 1) := by decide +kernel
theorem dX8_noDevice_10 : decode cX8_noDevice 10 = .ok (.goto 4, 3) := by decide +kernel
theorem dX8_noDevice_13 : decode cX8_noDevice 13 = .ok (.iconst 1, 1) := by decide +kernel
theorem dX8_noDevice_14 : decode cX8_noDevice 14 = .ok (.putfield 110, 3) := by decide +kernel
theorem dX8_noDevice_17 : decode cX8_noDevice 17 = .ok (.aload_n 0, 1) := by decide +kernel
theorem dX8_noDevice_18 : decode cX8_noDevice 18 = .ok (.getfield 110, 3) := by decide +kernel
theorem dX8_noDevice_21 : decode cX8_noDevice 21 = .ok (.ifCond .le 7, 3) := by decide +kernel
theorem dX8_noDevice_24 : decode cX8_noDevice 24 = .ok (.iconst 1, 1) := by decide +kernel
theorem dX8_noDevice_25 : decode cX8_noDevice 25 = .ok (.goto 4, 3) := by decide +kernel
theorem dX8_noDevice_28 : decode cX8_noDevice 28 = .ok (.iconst 0, 1) := by decide +kernel
theorem dX8_noDevice_29 : decode cX8_noDevice 29 = .ok (.ireturn, 1) := by decide +kernel
theorem dX8_noGroup_0 : decode cX8_noGroup 0 = .ok (.aload_n 0, 1) := by decide +kernel
theorem dX8_noGroup_1 : decode cX8_noGroup 1 = .ok (.iload_n 1, 1) := by decide +kernel
theorem dX8_noGroup_2 : decode cX8_noGroup 2 = .ok (.iconst 0, 1) := by decide +kernel
theorem dX8_noGroup_3 : decode cX8_noGroup 3 = .ok (.aload_n 0, 1) := by decide +kernel
theorem dX8_noGroup_4 : decode cX8_noGroup 4 = .ok (.getfield 130, 3) := by decide +kernel
theorem dX8_noGroup_7 : decode cX8_noGroup 7 = .ok (.iconst 1, 1) := by decide +kernel
theorem dX8_noGroup_8 : decode cX8_noGroup 8 = .ok (.isub, 1) := by decide +kernel
theorem dX8_noGroup_9 : decode cX8_noGroup 9 = .ok (.invokestatic 116, 3) := by decide +kernel
theorem dX8_noGroup_12 : decode cX8_noGroup 12 = .ok (.ifCond .eq 7, 3) := by decide +kernel
theorem dX8_noGroup_15 : decode cX8_noGroup 15 = .ok (.iconst 0, 1) := by decide +kernel
theorem dX8_noGroup_16 : decode cX8_noGroup 16 = .ok (.goto 4, 3) := by decide +kernel
theorem dX8_noGroup_19 : decode cX8_noGroup 19 = .ok (.iconst 1, 1) := by decide +kernel
theorem dX8_noGroup_20 : decode cX8_noGroup 20 = .ok (.putfield 110, 3) := by decide +kernel
theorem dX8_noGroup_23 : decode cX8_noGroup 23 = .ok (.aload_n 0, 1) := by decide +kernel
theorem dX8_noGroup_24 : decode cX8_noGroup 24 = .ok (.getfield 110, 3) := by decide +kernel
theorem dX8_noGroup_27 : decode cX8_noGroup 27 = .ok (.ifCond .le 7, 3) := by decide +kernel
theorem dX8_noGroup_30 : decode cX8_noGroup 30 = .ok (.iconst 1, 1) := by decide +kernel
theorem dX8_noGroup_31 : decode cX8_noGroup 31 = .ok (.goto 4, 3) := by decide +kernel
theorem dX8_noGroup_34 : decode cX8_noGroup 34 = .ok (.iconst 0, 1) := by decide +kernel
theorem dX8_noGroup_35 : decode cX8_noGroup 35 = .ok (.ireturn, 1) := by decide +kernel
theorem dX8_addDevice_0 : decode cX8_addDevice 0 = .ok (.aload_n 0, 1) := by decide +kernel
theorem dX8_addDevice_1 : decode cX8_addDevice 1 = .ok (.iload_n 1, 1) := by decide +kernel
theorem dX8_addDevice_2 : decode cX8_addDevice 2 = .ok (.iconst 0, 1) := by decide +kernel
theorem dX8_addDevice_3 : decode cX8_addDevice 3 = .ok (.iconst 5, 1) := by decide +kernel
theorem dX8_addDevice_4 : decode cX8_addDevice 4 = .ok (.invokestatic 116, 3) := by decide +kernel
theorem dX8_addDevice_7 : decode cX8_addDevice 7 = .ok (.ifCond .eq 22, 3) := by decide +kernel
theorem dX8_addDevice_10 : decode cX8_addDevice 10 = .ok (.iload_n 2, 1) := by decide +kernel
theorem dX8_addDevice_11 : decode cX8_addDevice 11 = .ok (.iconst 0, 1) := by decide +kernel
theorem dX8_addDevice_12 : decode cX8_addDevice 12 = .ok (.iconst 2, 1) := by decide +kernel
theorem dX8_addDevice_13 : decode cX8_addDevice 13 = .ok (.invokestatic 116, 3) := by decide +kernel
theorem dX8_addDevice_16 : decode cX8_addDevice 16 = .ok (.ifCond .eq 13, 3) := by decide +kernel
theorem dX8_addDevice_19 : decode cX8_addDevice 19 = .ok (.iload_n 3, 1) := by decide +kernel
theorem dX8_addDevice_20 : decode cX8_addDevice 20 = .ok (.iconst 0, 1) := by decide +kernel
theorem dX8_addDevice_21 : decode cX8_addDevice 21 = .ok (.bipush 99, 2) := by decide +kernel
theorem dX8_addDevice_23 : decode cX8_addDevice 23 = .ok (.invokestatic 116, 3) := by decide +kernel
theorem dX8_addDevice_26 : decode cX8_addDevice 26 = .ok (.ifCond .ne 7, 3) := by decide +kernel
theorem dX8_addDevice_29 : decode cX8_addDevice 29 = .ok (.iconst 1, 1) := by decide +kernel
theorem dX8_addDevice_30 : decode cX8_addDevice 30 = .ok (.goto 17, 3) := by decide +kernel
theorem dX8_addDevice_33 : decode cX8_addDevice 33 = .ok (.aload_n 0, 1) := by decide +kernel
theorem dX8_addDevice_34 : decode cX8_addDevice 34 = .ok (.getfield 113, 3) := by decide +kernel
theorem dX8_addDevice_37 : decode cX8_addDevice 37 = .ok (.bipush 12, 2) := by decide +kernel
theorem dX8_addDevice_39 : decode cX8_addDevice 39 = .ok (.if_icmp .ne 7, 3) := by decide +kernel
theorem dX8_addDevice_42 : decode cX8_addDevice 42 = .ok (.iconst 2, 1) := by decide +kernel
theorem dX8_addDevice_43 : decode cX8_addDevice 43 = .ok (.goto 4, 3) := by decide +kernel
theorem dX8_addDevice_46 : decode cX8_addDevice 46 = .ok (.iconst 0, 1) := by decide +kernel
theorem dX8_addDevice_47 : decode cX8_addDevice 47 = .ok (.putfield 110, 3) := by decide +kernel
theorem dX8_addDevice_50 : decode cX8_addDevice 50 = .ok (.aload_n 0, 1) := by decide +kernel
theorem dX8_addDevice_51 : decode cX8_addDevice 51 = .ok (.getfield 110, 3) := by decide +kernel
theorem dX8_addDevice_54 : decode cX8_addDevice 54 = .ok (.ifCond .le 5, 3) := by decide +kernel
theorem dX8_addDevice_57 : decode cX8_addDevice 57 = .ok (.iconst 0, 1) := by decide +kernel
theorem dX8_addDevice_58 : decode cX8_addDevice 58 = .ok (.ireturn, 1) := by decide +kernel
theorem dX8_addDevice_59 : decode cX8_addDevice 59 = .ok (.aload_n 0, 1) := by decide +kernel
theorem dX8_addDevice_60 : decode cX8_addDevice 60 = .ok (.getfield 9, 3) := by decide +kernel
theorem dX8_addDevice_63 : decode cX8_addDevice 63 = .ok (.aload_n 0, 1) := by decide +kernel
theorem dX8_addDevice_64 : decode cX8_addDevice 64 = .ok (.getfield 113, 3) := by decide +kernel
theorem dX8_addDevice_67 : decode cX8_addDevice 67 = .ok (.iload_n 1, 1) := by decide +kernel
theorem dX8_addDevice_68 : decode cX8_addDevice 68 = .ok (.iastore, 1) := by decide +kernel
theorem dX8_addDevice_69 : decode cX8_addDevice 69 = .ok (.aload_n 0, 1) := by decide +kernel
theorem dX8_addDevice_70 : decode cX8_addDevice 70 = .ok (.getfield 13, 3) := by decide +kernel
theorem dX8_addDevice_73 : decode cX8_addDevice 73 = .ok (.aload_n 0, 1) := by decide +kernel
theorem dX8_addDevice_74 : decode cX8_addDevice 74 = .ok (.getfield 113, 3) := by decide +kernel
theorem dX8_addDevice_77 : decode cX8_addDevice 77 = .ok (.iload_n 2, 1) := by decide +kernel
theorem dX8_addDevice_78 : decode cX8_addDevice 78 = .ok (.iastore, 1) := by decide +kernel
theorem dX8_addDevice_79 : decode cX8_addDevice 79 = .ok (.aload_n 0, 1) := by decide +kernel
theorem dX8_addDevice_80 : decode cX8_addDevice 80 = .ok (.getfield 16, 3) := by decide +kernel
theorem dX8_addDevice_83 : decode cX8_addDevice 83 = .ok (.aload_n 0, 1) := by decide +kernel
theorem dX8_addDevice_84 : decode cX8_addDevice 84 = .ok (.getfield 113, 3) := by decide +kernel
theorem dX8_addDevice_87 : decode cX8_addDevice 87 = .ok (.iload_n 3, 1) := by decide +kernel
theorem dX8_addDevice_88 : decode cX8_addDevice 88 = .ok (.iastore, 1) := by decide +kernel
theorem dX8_addDevice_89 : decode cX8_addDevice 89 = .ok (.aload_n 0, 1) := by decide +kernel
theorem dX8_addDevice_90 : decode cX8_addDevice 90 = .ok (.getfield 19, 3) := by decide +kernel
theorem dX8_addDevice_93 : decode cX8_addDevice 93 = .ok (.aload_n 0, 1) := by decide +kernel
theorem dX8_addDevice_94 : decode cX8_addDevice 94 = .ok (.getfield 113, 3) := by decide +kernel
theorem dX8_addDevice_97 : decode cX8_addDevice 97 = .ok (.iconst (-1), 1) := by decide +kernel
theorem dX8_addDevice_98 : decode cX8_addDevice 98 = .ok (.iastore, 1) := by decide +kernel
theorem dX8_addDevice_99 : decode cX8_addDevice 99 = .ok (.aload_n 0, 1) := by decide +kernel
theorem dX8_addDevice_100 : decode cX8_addDevice 100 = .ok (.dup, 1) := by decide +kernel
theorem dX8_addDevice_101 : decode cX8_addDevice 101 = .ok (.getfield 113, 3) := by decide +kernel
theorem dX8_addDevice_104 : decode cX8_addDevice 104 = .ok (.iconst 1, 1) := by decide +kernel
theorem dX8_addDevice_105 : decode cX8_addDevice 105 = .ok (.iadd, 1) := by decide +kernel
theorem dX8_addDevice_106 : decode cX8_addDevice 106 = .ok (.putfield 113, 3) := by decide +kernel
theorem dX8_addDevice_109 : decode cX8_addDevice 109 = .ok (.aload_n 0, 1) := by decide +kernel
theorem dX8_addDevice_110 : decode cX8_addDevice 110 = .ok (.getfield 113, 3) := by decide +kernel
theorem dX8_addDevice_113 : decode cX8_addDevice 113 = .ok (.iconst 1, 1) := by decide +kernel
theorem dX8_addDevice_114 : decode cX8_addDevice 114 = .ok (.isub, 1) := by decide +kernel
theorem dX8_addDevice_115 : decode cX8_addDevice 115 = .ok (.ireturn, 1) := by decide +kernel
theorem dX8_isNew_0 : decode cX8_isNew 0 = .ok (.iconst 0, 1) := by decide +kernel
theorem dX8_isNew_1 : decode cX8_isNew 1 = .ok (.istore_n 2, 1) := by decide +kernel
theorem dX8_isNew_2 : decode cX8_isNew 2 = .ok (.iload_n 2, 1) := by decide +kernel
theorem dX8_isNew_3 : decode cX8_isNew 3 = .ok (.aload_n 0, 1) := by decide +kernel
theorem dX8_isNew_4 : decode cX8_isNew 4 = .ok (.getfield 120, 3) := by decide +kernel
theorem dX8_isNew_7 : decode cX8_isNew 7 = .ok (.if_icmp .ge 21, 3) := by decide +kernel
theorem dX8_isNew_10 : decode cX8_isNew 10 = .ok (.aload_n 0, 1) := by decide +kernel
theorem dX8_isNew_11 : decode cX8_isNew 11 = .ok (.getfield 30, 3) := by decide +kernel
theorem dX8_isNew_14 : decode cX8_isNew 14 = .ok (.iload_n 2, 1) := by decide +kernel
theorem dX8_isNew_15 : decode cX8_isNew 15 = .ok (.iaload, 1) := by decide +kernel
theorem dX8_isNew_16 : decode cX8_isNew 16 = .ok (.iload_n 1, 1) := by decide +kernel
theorem dX8_isNew_17 : decode cX8_isNew 17 = .ok (.if_icmp .ne 5, 3) := by decide +kernel
theorem dX8_isNew_20 : decode cX8_isNew 20 = .ok (.iconst 0, 1) := by decide +kernel
theorem dX8_isNew_21 : decode cX8_isNew 21 = .ok (.ireturn, 1) := by decide +kernel
theorem dX8_isNew_22 : decode cX8_isNew 22 = .ok (.iinc 2 1, 3) := by decide +kernel
theorem dX8_isNew_25 : decode cX8_isNew 25 = .ok (.goto (-23), 3) := by decide +kernel
theorem dX8_isNew_28 : decode cX8_isNew 28 = .ok (.aload_n 0, 1) := by decide +kernel
theorem dX8_isNew_29 : decode cX8_isNew 29 = .ok (.getfield 120, 3) := by decide +kernel
theorem dX8_isNew_32 : decode cX8_isNew 32 = .ok (.bipush 10, 2) := by decide +kernel
theorem dX8_isNew_34 : decode cX8_isNew 34 = .ok (.if_icmp .ge 7, 3) := by decide +kernel
theorem dX8_isNew_37 : decode cX8_isNew 37 = .ok (.iconst 1, 1) := by decide +kernel
theorem dX8_isNew_38 : decode cX8_isNew 38 = .ok (.goto 4, 3) := by decide +kernel
theorem dX8_isNew_41 : decode cX8_isNew 41 = .ok (.iconst 0, 1) := by decide +kernel
theorem dX8_isNew_42 : decode cX8_isNew 42 = .ok (.ireturn, 1) := by decide +kernel
theorem dX8_adds_0 : decode cX8_adds 0 = .ok (.aload_n 0, 1) := by decide +kernel
theorem dX8_adds_1 : decode cX8_adds 1 = .ok (.getfield 30, 3) := by decide +kernel
theorem dX8_adds_4 : decode cX8_adds 4 = .ok (.aload_n 0, 1) := by decide +kernel
theorem dX8_adds_5 : decode cX8_adds 5 = .ok (.getfield 120, 3) := by decide +kernel
theorem dX8_adds_8 : decode cX8_adds 8 = .ok (.iload_n 1, 1) := by decide +kernel
theorem dX8_adds_9 : decode cX8_adds 9 = .ok (.iastore, 1) := by decide +kernel
theorem dX8_adds_10 : decode cX8_adds 10 = .ok (.aload_n 0, 1) := by decide +kernel
theorem dX8_adds_11 : decode cX8_adds 11 = .ok (.getfield 39, 3) := by decide +kernel
theorem dX8_adds_14 : decode cX8_adds 14 = .ok (.aload_n 0, 1) := by decide +kernel
theorem dX8_adds_15 : decode cX8_adds 15 = .ok (.getfield 120, 3) := by decide +kernel
theorem dX8_adds_18 : decode cX8_adds 18 = .ok (.iload_n 2, 1) := by decide +kernel
theorem dX8_adds_19 : decode cX8_adds 19 = .ok (.iastore, 1) := by decide +kernel
theorem dX8_adds_20 : decode cX8_adds 20 = .ok (.aload_n 0, 1) := by decide +kernel
theorem dX8_adds_21 : decode cX8_adds 21 = .ok (.getfield 42, 3) := by decide +kernel
theorem dX8_adds_24 : decode cX8_adds 24 = .ok (.aload_n 0, 1) := by decide +kernel
theorem dX8_adds_25 : decode cX8_adds 25 = .ok (.getfield 120, 3) := by decide +kernel
theorem dX8_adds_28 : decode cX8_adds 28 = .ok (.iload_n 3, 1) := by decide +kernel
theorem dX8_adds_29 : decode cX8_adds 29 = .ok (.iastore, 1) := by decide +kernel
theorem dX8_adds_30 : decode cX8_adds 30 = .ok (.aload_n 0, 1) := by decide +kernel
theorem dX8_adds_31 : decode cX8_adds 31 = .ok (.getfield 48, 3) := by decide +kernel
theorem dX8_adds_34 : decode cX8_adds 34 = .ok (.aload_n 0, 1) := by decide +kernel
theorem dX8_adds_35 : decode cX8_adds 35 = .ok (.getfield 120, 3) := by decide +kernel
theorem dX8_adds_38 : decode cX8_adds 38 = .ok (.iload 4, 2) := by decide +kernel
theorem dX8_adds_40 : decode cX8_adds 40 = .ok (.iastore, 1) := by decide +kernel
theorem dX8_adds_41 : decode cX8_adds 41 = .ok (.aload_n 0, 1) := by decide +kernel
theorem dX8_adds_42 : decode cX8_adds 42 = .ok (.getfield 51, 3) := by decide +kernel
theorem dX8_adds_45 : decode cX8_adds 45 = .ok (.aload_n 0, 1) := by decide +kernel
theorem dX8_adds_46 : decode cX8_adds 46 = .ok (.getfield 120, 3) := by decide +kernel
theorem dX8_adds_49 : decode cX8_adds 49 = .ok (.bipush 100, 2) := by decide +kernel
theorem dX8_adds_51 : decode cX8_adds 51 = .ok (.castore, 1) := by decide +kernel
theorem dX8_adds_52 : decode cX8_adds 52 = .ok (.aload_n 0, 1) := by decide +kernel
theorem dX8_adds_53 : decode cX8_adds 53 = .ok (.dup, 1) := by decide +kernel
theorem dX8_adds_54 : decode cX8_adds 54 = .ok (.getfield 120, 3) := by decide +kernel
theorem dX8_adds_57 : decode cX8_adds 57 = .ok (.iconst 1, 1) := by decide +kernel
theorem dX8_adds_58 : decode cX8_adds 58 = .ok (.iadd, 1) := by decide +kernel
theorem dX8_adds_59 : decode cX8_adds 59 = .ok (.putfield 120, 3) := by decide +kernel
theorem dX8_adds_62 : decode cX8_adds 62 = .ok (.aload_n 0, 1) := by decide +kernel
theorem dX8_adds_63 : decode cX8_adds 63 = .ok (.getfield 120, 3) := by decide +kernel
theorem dX8_adds_66 : decode cX8_adds 66 = .ok (.iconst 1, 1) := by decide +kernel
theorem dX8_adds_67 : decode cX8_adds 67 = .ok (.isub, 1) := by decide +kernel
theorem dX8_adds_68 : decode cX8_adds 68 = .ok (.ireturn, 1) := by decide +kernel
theorem dX8_addBuild_0 : decode cX8_addBuild 0 = .ok (.iload_n 1, 1) := by decide +kernel
theorem dX8_addBuild_1 : decode cX8_addBuild 1 = .ok (.iconst 1, 1) := by decide +kernel
theorem dX8_addBuild_2 : decode cX8_addBuild 2 = .ok (.sipush 999, 3) := by decide +kernel
theorem dX8_addBuild_5 : decode cX8_addBuild 5 = .ok (.invokestatic 116, 3) := by decide +kernel
theorem dX8_addBuild_8 : decode cX8_addBuild 8 = .ok (.ifCond .eq 62, 3) := by decide +kernel
theorem dX8_addBuild_11 : decode cX8_addBuild 11 = .ok (.iload_n 2, 1) := by decide +kernel
theorem dX8_addBuild_12 : decode cX8_addBuild 12 = .ok (.iconst 1, 1) := by decide +kernel
theorem dX8_addBuild_13 : decode cX8_addBuild 13 = .ok (.bipush 63, 2) := by decide +kernel
theorem dX8_addBuild_15 : decode cX8_addBuild 15 = .ok (.invokestatic 116, 3) := by decide +kernel
theorem dX8_addBuild_18 : decode cX8_addBuild 18 = .ok (.ifCond .eq 52, 3) := by decide +kernel
theorem dX8_addBuild_21 : decode cX8_addBuild 21 = .ok (.iload_n 3, 1) := by decide +kernel
theorem dX8_addBuild_22 : decode cX8_addBuild 22 = .ok (.iconst 1, 1) := by decide +kernel
theorem dX8_addBuild_23 : decode cX8_addBuild 23 = .ok (.bipush 7, 2) := by decide +kernel
theorem dX8_addBuild_25 : decode cX8_addBuild 25 = .ok (.invokestatic 116, 3) := by decide +kernel
theorem dX8_addBuild_28 : decode cX8_addBuild 28 = .ok (.ifCond .eq 42, 3) := by decide +kernel
theorem dX8_addBuild_31 : decode cX8_addBuild 31 = .ok (.iload 4, 2) := by decide +kernel
theorem dX8_addBuild_33 : decode cX8_addBuild 33 = .ok (.iconst 1, 1) := by decide +kernel
theorem dX8_addBuild_34 : decode cX8_addBuild 34 = .ok (.sipush 500, 3) := by decide +kernel
theorem dX8_addBuild_37 : decode cX8_addBuild 37 = .ok (.invokestatic 116, 3) := by decide +kernel
theorem dX8_addBuild_40 : decode cX8_addBuild 40 = .ok (.ifCond .eq 30, 3) := by decide +kernel
theorem dX8_addBuild_43 : decode cX8_addBuild 43 = .ok (.iload 5, 2) := by decide +kernel
theorem dX8_addBuild_45 : decode cX8_addBuild 45 = .ok (.iconst 0, 1) := by decide +kernel
theorem dX8_addBuild_46 : decode cX8_addBuild 46 = .ok (.bipush 15, 2) := by decide +kernel
theorem dX8_addBuild_48 : decode cX8_addBuild 48 = .ok (.invokestatic 116, 3) := by decide +kernel
theorem dX8_addBuild_51 : decode cX8_addBuild 51 = .ok (.ifCond .eq 19, 3) := by decide +kernel
theorem dX8_addBuild_54 : decode cX8_addBuild 54 = .ok (.iload 6, 2) := by decide +kernel
theorem dX8_addBuild_56 : decode cX8_addBuild 56 = .ok (.iconst 0, 1) := by decide +kernel
theorem dX8_addBuild_57 : decode cX8_addBuild 57 = .ok (.sipush 255, 3) := by decide +kernel
theorem dX8_addBuild_60 : decode cX8_addBuild 60 = .ok (.invokestatic 116, 3) := by decide +kernel
theorem dX8_addBuild_63 : decode cX8_addBuild 63 = .ok (.ifCond .eq 7, 3) := by decide +kernel
theorem dX8_addBuild_66 : decode cX8_addBuild 66 = .ok (.iconst 1, 1) := by decide +kernel
theorem dX8_addBuild_67 : decode cX8_addBuild 67 = .ok (.goto 4, 3) := by decide +kernel
theorem dX8_addBuild_70 : decode cX8_addBuild 70 = .ok (.iconst 0, 1) := by decide +kernel
theorem dX8_addBuild_71 : decode cX8_addBuild 71 = .ok (.istore 7, 2) := by decide +kernel
theorem dX8_addBuild_73 : decode cX8_addBuild 73 = .ok (.aload_n 0, 1) := by decide +kernel
theorem dX8_addBuild_74 : decode cX8_addBuild 74 = .ok (.iload 7, 2) := by decide +kernel
theorem dX8_addBuild_76 : decode cX8_addBuild 76 = .ok (.ifCond .ne 7, 3) := by decide +kernel
theorem dX8_addBuild_79 : decode cX8_addBuild 79 = .ok (.iconst 1, 1) := by decide +kernel
theorem dX8_addBuild_80 : decode cX8_addBuild 80 = .ok (.goto 16, 3) := by decide +kernel
theorem dX8_addBuild_83 : decode cX8_addBuild 83 = .ok (.aload_n 0, 1) := by decide +kernel
theorem dX8_addBuild_84 : decode cX8_addBuild 84 = .ok (.iload_n 1, 1) := by decide +kernel
theorem dX8_addBuild_85 : decode cX8_addBuild 85 = .ok (.invokevirtual 133, 3) := by decide +kernel
theorem dX8_addBuild_88 : decode cX8_addBuild 88 = .ok (.ifCond .ne 7, 3) := by decide +kernel
theorem dX8_addBuild_91 : decode cX8_addBuild 91 = .ok (.iconst 2, 1) := by decide +kernel
theorem dX8_addBuild_92 : decode cX8_addBuild 92 = .ok (.goto 4, 3) := by decide +kernel
theorem dX8_addBuild_95 : decode cX8_addBuild 95 = .ok (.iconst 0, 1) := by decide +kernel
theorem dX8_addBuild_96 : decode cX8_addBuild 96 = .ok (.putfield 110, 3) := by decide +kernel
theorem dX8_addBuild_99 : decode cX8_addBuild 99 = .ok (.aload_n 0, 1) := by decide +kernel
theorem dX8_addBuild_100 : decode cX8_addBuild 100 = .ok (.getfield 110, 3) := by decide +kernel
theorem dX8_addBuild_103 : decode cX8_addBuild 103 = .ok (.ifCond .le 5, 3) := by decide +kernel
theorem dX8_addBuild_106 : decode cX8_addBuild 106 = .ok (.iconst 0, 1) := by decide +kernel
theorem dX8_addBuild_107 : decode cX8_addBuild 107 = .ok (.ireturn, 1) := by decide +kernel
theorem dX8_addBuild_108 : decode cX8_addBuild 108 = .ok (.aload_n 0, 1) := by decide +kernel
theorem dX8_addBuild_109 : decode cX8_addBuild 109 = .ok (.getfield 33, 3) := by decide +kernel
theorem dX8_addBuild_112 : decode cX8_addBuild 112 = .ok (.aload_n 0, 1) := by decide +kernel
theorem dX8_addBuild_113 : decode cX8_addBuild 113 = .ok (.getfield 120, 3) := by decide +kernel
theorem dX8_addBuild_116 : decode cX8_addBuild 116 = .ok (.iload_n 2, 1) := by decide +kernel
theorem dX8_addBuild_117 : decode cX8_addBuild 117 = .ok (.iastore, 1) := by decide +kernel
theorem dX8_addBuild_118 : decode cX8_addBuild 118 = .ok (.aload_n 0, 1) := by decide +kernel
theorem dX8_addBuild_119 : decode cX8_addBuild 119 = .ok (.getfield 36, 3) := by decide +kernel
theorem dX8_addBuild_122 : decode cX8_addBuild 122 = .ok (.aload_n 0, 1) := by decide +kernel
theorem dX8_addBuild_123 : decode cX8_addBuild 123 = .ok (.getfield 120, 3) := by decide +kernel
theorem dX8_addBuild_126 : decode cX8_addBuild 126 = .ok (.iload_n 3, 1) := by decide +kernel
theorem dX8_addBuild_127 : decode cX8_addBuild 127 = .ok (.iastore, 1) := by decide +kernel
theorem dX8_addBuild_128 : decode cX8_addBuild 128 = .ok (.aload_n 0, 1) := by decide +kernel
theorem dX8_addBuild_129 : decode cX8_addBuild 129 = .ok (.getfield 45, 3) := by decide +kernel
theorem dX8_addBuild_132 : decode cX8_addBuild 132 = .ok (.aload_n 0, 1) := by decide +kernel
theorem dX8_addBuild_133 : decode cX8_addBuild 133 = .ok (.getfield 120, 3) := by decide +kernel
theorem dX8_addBuild_136 : decode cX8_addBuild 136 = .ok (.iload 6, 2) := by decide +kernel
theorem dX8_addBuild_138 : decode cX8_addBuild 138 = .ok (.iastore, 1) := by decide +kernel
theorem dX8_addBuild_139 : decode cX8_addBuild 139 = .ok (.aload_n 0, 1) := by decide +kernel
theorem dX8_addBuild_140 : decode cX8_addBuild 140 = .ok (.iload_n 1, 1) := by decide +kernel
theorem dX8_addBuild_141 : decode cX8_addBuild 141 = .ok (.iload 4, 2) := by decide +kernel
theorem dX8_addBuild_143 : decode cX8_addBuild 143 = .ok (.iload 5, 2) := by decide +kernel
theorem dX8_addBuild_145 : decode cX8_addBuild 145 = .ok (.iconst (-1), 1) := by decide +kernel
theorem dX8_addBuild_146 : decode cX8_addBuild 146 = .ok (.invokevirtual 136, 3) := by decide +kernel
theorem dX8_addBuild_149 : decode cX8_addBuild 149 = .ok (.ireturn, 1) := by decide +kernel
theorem dX8_addFix_0 : decode cX8_addFix 0 = .ok (.aload_n 0, 1) := by decide +kernel
theorem dX8_addFix_1 : decode cX8_addFix 1 = .ok (.iload_n 1, 1) := by decide +kernel
theorem dX8_addFix_2 : decode cX8_addFix 2 = .ok (.invokevirtual 140, 3) := by decide +kernel
theorem dX8_addFix_5 : decode cX8_addFix 5 = .ok (.ifCond .eq 5, 3) := by decide +kernel
theorem dX8_addFix_8 : decode cX8_addFix 8 = .ok (.iconst 0, 1) := by decide +kernel
theorem dX8_addFix_9 : decode cX8_addFix 9 = .ok (.ireturn, 1) := by decide +kernel
theorem dX8_addFix_10 : decode cX8_addFix 10 = .ok (.iload_n 2, 1) := by decide +kernel
theorem dX8_addFix_11 : decode cX8_addFix 11 = .ok (.iconst 1, 1) := by decide +kernel
theorem dX8_addFix_12 : decode cX8_addFix 12 = .ok (.sipush 999, 3) := by decide +kernel
theorem dX8_addFix_15 : decode cX8_addFix 15 = .ok (.invokestatic 116, 3) := by decide +kernel
theorem dX8_addFix_18 : decode cX8_addFix 18 = .ok (.ifCond .eq 29, 3) := by decide +kernel
theorem dX8_addFix_21 : decode cX8_addFix 21 = .ok (.iload_n 3, 1) := by decide +kernel
theorem dX8_addFix_22 : decode cX8_addFix 22 = .ok (.iconst 1, 1) := by decide +kernel
theorem dX8_addFix_23 : decode cX8_addFix 23 = .ok (.sipush 500, 3) := by decide +kernel
theorem dX8_addFix_26 : decode cX8_addFix 26 = .ok (.invokestatic 116, 3) := by decide +kernel
theorem dX8_addFix_29 : decode cX8_addFix 29 = .ok (.ifCond .eq 18, 3) := by decide +kernel
theorem dX8_addFix_32 : decode cX8_addFix 32 = .ok (.iload 4, 2) := by decide +kernel
theorem dX8_addFix_34 : decode cX8_addFix 34 = .ok (.iconst 0, 1) := by decide +kernel
theorem dX8_addFix_35 : decode cX8_addFix 35 = .ok (.bipush 15, 2) := by decide +kernel
theorem dX8_addFix_37 : decode cX8_addFix 37 = .ok (.invokestatic 116, 3) := by decide +kernel
theorem dX8_addFix_40 : decode cX8_addFix 40 = .ok (.ifCond .eq 7, 3) := by decide +kernel
theorem dX8_addFix_43 : decode cX8_addFix 43 = .ok (.iconst 1, 1) := by decide +kernel
theorem dX8_addFix_44 : decode cX8_addFix 44 = .ok (.goto 4, 3) := by decide +kernel
theorem dX8_addFix_47 : decode cX8_addFix 47 = .ok (.iconst 0, 1) := by decide +kernel
theorem dX8_addFix_48 : decode cX8_addFix 48 = .ok (.istore 5, 2) := by decide +kernel
theorem dX8_addFix_50 : decode cX8_addFix 50 = .ok (.aload_n 0, 1) := by decide +kernel
theorem dX8_addFix_51 : decode cX8_addFix 51 = .ok (.iload 5, 2) := by decide +kernel
theorem dX8_addFix_53 : decode cX8_addFix 53 = .ok (.ifCond .ne 7, 3) := by decide +kernel
theorem dX8_addFix_56 : decode cX8_addFix 56 = .ok (.iconst 2, 1) := by decide +kernel
theorem dX8_addFix_57 : decode cX8_addFix 57 = .ok (.goto 16, 3) := by decide +kernel
theorem dX8_addFix_60 : decode cX8_addFix 60 = .ok (.aload_n 0, 1) := by decide +kernel
theorem dX8_addFix_61 : decode cX8_addFix 61 = .ok (.iload_n 2, 1) := by decide +kernel
theorem dX8_addFix_62 : decode cX8_addFix 62 = .ok (.invokevirtual 133, 3) := by decide +kernel
theorem dX8_addFix_65 : decode cX8_addFix 65 = .ok (.ifCond .ne 7, 3) := by decide +kernel
theorem dX8_addFix_68 : decode cX8_addFix 68 = .ok (.iconst 3, 1) := by decide +kernel
theorem dX8_addFix_69 : decode cX8_addFix 69 = .ok (.goto 4, 3) := by decide +kernel
theorem dX8_addFix_72 : decode cX8_addFix 72 = .ok (.iconst 0, 1) := by decide +kernel
theorem dX8_addFix_73 : decode cX8_addFix 73 = .ok (.putfield 110, 3) := by decide +kernel
theorem dX8_addFix_76 : decode cX8_addFix 76 = .ok (.aload_n 0, 1) := by decide +kernel
theorem dX8_addFix_77 : decode cX8_addFix 77 = .ok (.getfield 110, 3) := by decide +kernel
theorem dX8_addFix_80 : decode cX8_addFix 80 = .ok (.ifCond .le 5, 3) := by decide +kernel
theorem dX8_addFix_83 : decode cX8_addFix 83 = .ok (.iconst 0, 1) := by decide +kernel
theorem dX8_addFix_84 : decode cX8_addFix 84 = .ok (.ireturn, 1) := by decide +kernel
theorem dX8_addFix_85 : decode cX8_addFix 85 = .ok (.aload_n 0, 1) := by decide +kernel
theorem dX8_addFix_86 : decode cX8_addFix 86 = .ok (.getfield 33, 3) := by decide +kernel
theorem dX8_addFix_89 : decode cX8_addFix 89 = .ok (.aload_n 0, 1) := by decide +kernel
theorem dX8_addFix_90 : decode cX8_addFix 90 = .ok (.getfield 120, 3) := by decide +kernel
theorem dX8_addFix_93 : decode cX8_addFix 93 = .ok (.aload_n 0, 1) := by decide +kernel
theorem dX8_addFix_94 : decode cX8_addFix 94 = .ok (.getfield 33, 3) := by decide +kernel
theorem dX8_addFix_97 : decode cX8_addFix 97 = .ok (.iload_n 1, 1) := by decide +kernel
theorem dX8_addFix_98 : decode cX8_addFix 98 = .ok (.iaload, 1) := by decide +kernel
theorem dX8_addFix_99 : decode cX8_addFix 99 = .ok (.iastore, 1) := by decide +kernel
theorem dX8_addFix_100 : decode cX8_addFix 100 = .ok (.aload_n 0, 1) := by decide +kernel
theorem dX8_addFix_101 : decode cX8_addFix 101 = .ok (.getfield 36, 3) := by decide +kernel
theorem dX8_addFix_104 : decode cX8_addFix 104 = .ok (.aload_n 0, 1) := by decide +kernel
theorem dX8_addFix_105 : decode cX8_addFix 105 = .ok (.getfield 120, 3) := by decide +kernel
theorem dX8_addFix_108 : decode cX8_addFix 108 = .ok (.aload_n 0, 1) := by decide +kernel
theorem dX8_addFix_109 : decode cX8_addFix 109 = .ok (.getfield 36, 3) := by decide +kernel
theorem dX8_addFix_112 : decode cX8_addFix 112 = .ok (.iload_n 1, 1) := by decide +kernel
theorem dX8_addFix_113 : decode cX8_addFix 113 = .ok (.iaload, 1) := by decide +kernel
theorem dX8_addFix_114 : decode cX8_addFix 114 = .ok (.iastore, 1) := by decide +kernel
theorem dX8_addFix_115 : decode cX8_addFix 115 = .ok (.aload_n 0, 1) := by decide +kernel
theorem dX8_addFix_116 : decode cX8_addFix 116 = .ok (.getfield 45, 3) := by decide +kernel
theorem dX8_addFix_119 : decode cX8_addFix 119 = .ok (.aload_n 0, 1) := by decide +kernel
theorem dX8_addFix_120 : decode cX8_addFix 120 = .ok (.getfield 120, 3) := by decide +kernel
theorem dX8_addFix_123 : decode cX8_addFix 123 = .ok (.aload_n 0, 1) := by decide +kernel
theorem dX8_addFix_124 : decode cX8_addFix 124 = .ok (.getfield 45, 3) := by decide +kernel
theorem dX8_addFix_127 : decode cX8_addFix 127 = .ok (.iload_n 1, 1) := by decide +kernel
theorem dX8_addFix_128 : decode cX8_addFix 128 = .ok (.iaload, 1) := by decide +kernel
theorem dX8_addFix_129 : decode cX8_addFix 129 = .ok (.iastore, 1) := by decide +kernel
theorem dX8_addFix_130 : decode cX8_addFix 130 = .ok (.aload_n 0, 1) := by decide +kernel
theorem dX8_addFix_131 : decode cX8_addFix 131 = .ok (.iload_n 2, 1) := by decide +kernel
theorem dX8_addFix_132 : decode cX8_addFix 132 = .ok (.iload_n 3, 1) := by decide +kernel
theorem dX8_addFix_133 : decode cX8_addFix 133 = .ok (.iload 4, 2) := by decide +kernel
theorem dX8_addFix_135 : decode cX8_addFix 135 = .ok (.iload_n 1, 1) := by decide +kernel
theorem dX8_addFix_136 : decode cX8_addFix 136 = .ok (.invokevirtual 136, 3) := by decide +kernel
theorem dX8_addFix_139 : decode cX8_addFix 139 = .ok (.ireturn, 1) := by decide +kernel
theorem dX8_waits_0 : decode cX8_waits 0 = .ok (.aload_n 0, 1) := by decide +kernel
theorem dX8_waits_1 : decode cX8_waits 1 = .ok (.getfield 51, 3) := by decide +kernel
theorem dX8_waits_4 : decode cX8_waits 4 = .ok (.iload_n 1, 1) := by decide +kernel
theorem dX8_waits_5 : decode cX8_waits 5 = .ok (.bipush 119, 2) := by decide +kernel
theorem dX8_waits_7 : decode cX8_waits 7 = .ok (.castore, 1) := by decide +kernel
theorem dX8_waits_8 : decode cX8_waits 8 = .ok (.aload_n 0, 1) := by decide +kernel
theorem dX8_waits_9 : decode cX8_waits 9 = .ok (.getfield 55, 3) := by decide +kernel
theorem dX8_waits_12 : decode cX8_waits 12 = .ok (.iload_n 1, 1) := by decide +kernel
theorem dX8_waits_13 : decode cX8_waits 13 = .ok (.aload_n 0, 1) := by decide +kernel
theorem dX8_waits_14 : decode cX8_waits 14 = .ok (.getfield 143, 3) := by decide +kernel
theorem dX8_waits_17 : decode cX8_waits 17 = .ok (.iastore, 1) := by decide +kernel
theorem dX8_waits_18 : decode cX8_waits 18 = .ok (.aload_n 0, 1) := by decide +kernel
theorem dX8_waits_19 : decode cX8_waits 19 = .ok (.dup, 1) := by decide +kernel
theorem dX8_waits_20 : decode cX8_waits 20 = .ok (.getfield 143, 3) := by decide +kernel
theorem dX8_waits_23 : decode cX8_waits 23 = .ok (.iconst 1, 1) := by decide +kernel
theorem dX8_waits_24 : decode cX8_waits 24 = .ok (.iadd, 1) := by decide +kernel
theorem dX8_waits_25 : decode cX8_waits 25 = .ok (.putfield 143, 3) := by decide +kernel
theorem dX8_waits_28 : decode cX8_waits 28 = .ok (.iconst 0, 1) := by decide +kernel
theorem dX8_waits_29 : decode cX8_waits 29 = .ok (.istore_n 2, 1) := by decide +kernel
theorem dX8_waits_30 : decode cX8_waits 30 = .ok (.iconst 0, 1) := by decide +kernel
theorem dX8_waits_31 : decode cX8_waits 31 = .ok (.istore_n 3, 1) := by decide +kernel
theorem dX8_waits_32 : decode cX8_waits 32 = .ok (.iload_n 3, 1) := by decide +kernel
theorem dX8_waits_33 : decode cX8_waits 33 = .ok (.aload_n 0, 1) := by decide +kernel
theorem dX8_waits_34 : decode cX8_waits 34 = .ok (.getfield 120, 3) := by decide +kernel
theorem dX8_waits_37 : decode cX8_waits 37 = .ok (.if_icmp .ge 28, 3) := by decide +kernel
theorem dX8_waits_40 : decode cX8_waits 40 = .ok (.iload_n 2, 1) := by decide +kernel
theorem dX8_waits_41 : decode cX8_waits 41 = .ok (.aload_n 0, 1) := by decide +kernel
theorem dX8_waits_42 : decode cX8_waits 42 = .ok (.getfield 51, 3) := by decide +kernel
theorem dX8_waits_45 : decode cX8_waits 45 = .ok (.iload_n 3, 1) := by decide +kernel
theorem dX8_waits_46 : decode cX8_waits 46 = .ok (.caload, 1) := by decide +kernel
theorem dX8_waits_47 : decode cX8_waits 47 = .ok (.bipush 119, 2) := by decide +kernel
theorem dX8_waits_49 : decode cX8_waits 49 = .ok (.if_icmp .ne 7, 3) := by decide +kernel
theorem dX8_waits_52 : decode cX8_waits 52 = .ok (.iconst 1, 1) := by decide +kernel
theorem dX8_waits_53 : decode cX8_waits 53 = .ok (.goto 4, 3) := by decide +kernel
theorem dX8_waits_56 : decode cX8_waits 56 = .ok (.iconst 0, 1) := by decide +kernel
theorem dX8_waits_57 : decode cX8_waits 57 = .ok (.iadd, 1) := by decide +kernel
theorem dX8_waits_58 : decode cX8_waits 58 = .ok (.istore_n 2, 1) := by decide +kernel
theorem dX8_waits_59 : decode cX8_waits 59 = .ok (.iinc 3 1, 3) := by decide +kernel
theorem dX8_waits_62 : decode cX8_waits 62 = .ok (.goto (-30), 3) := by decide +kernel
theorem dX8_waits_65 : decode cX8_waits 65 = .ok (.iload_n 2, 1) := by decide +kernel
theorem dX8_waits_66 : decode cX8_waits 66 = .ok (.ireturn, 1) := by decide +kernel
theorem dX8_submit_0 : decode cX8_submit 0 = .ok (.aload_n 0, 1) := by decide +kernel
theorem dX8_submit_1 : decode cX8_submit 1 = .ok (.iload_n 1, 1) := by decide +kernel
theorem dX8_submit_2 : decode cX8_submit 2 = .ok (.invokevirtual 140, 3) := by decide +kernel
theorem dX8_submit_5 : decode cX8_submit 5 = .ok (.ifCond .eq 5, 3) := by decide +kernel
theorem dX8_submit_8 : decode cX8_submit 8 = .ok (.iconst 0, 1) := by decide +kernel
theorem dX8_submit_9 : decode cX8_submit 9 = .ok (.ireturn, 1) := by decide +kernel
theorem dX8_submit_10 : decode cX8_submit 10 = .ok (.aload_n 0, 1) := by decide +kernel
theorem dX8_submit_11 : decode cX8_submit 11 = .ok (.aload_n 0, 1) := by decide +kernel
theorem dX8_submit_12 : decode cX8_submit 12 = .ok (.getfield 51, 3) := by decide +kernel
theorem dX8_submit_15 : decode cX8_submit 15 = .ok (.iload_n 1, 1) := by decide +kernel
theorem dX8_submit_16 : decode cX8_submit 16 = .ok (.caload, 1) := by decide +kernel
theorem dX8_submit_17 : decode cX8_submit 17 = .ok (.bipush 100, 2) := by decide +kernel
theorem dX8_submit_19 : decode cX8_submit 19 = .ok (.if_icmp .ne 7, 3) := by decide +kernel
theorem dX8_submit_22 : decode cX8_submit 22 = .ok (.iconst 0, 1) := by decide +kernel
theorem dX8_submit_23 : decode cX8_submit 23 = .ok (.goto 4, 3) := by decide +kernel
theorem dX8_submit_26 : decode cX8_submit 26 = .ok (.iconst 2, 1) := by decide +kernel
theorem dX8_submit_27 : decode cX8_submit 27 = .ok (.putfield 110, 3) := by decide +kernel
theorem dX8_submit_30 : decode cX8_submit 30 = .ok (.aload_n 0, 1) := by decide +kernel
theorem dX8_submit_31 : decode cX8_submit 31 = .ok (.getfield 110, 3) := by decide +kernel
theorem dX8_submit_34 : decode cX8_submit 34 = .ok (.ifCond .le 7, 3) := by decide +kernel
theorem dX8_submit_37 : decode cX8_submit 37 = .ok (.iconst 0, 1) := by decide +kernel
theorem dX8_submit_38 : decode cX8_submit 38 = .ok (.goto 8, 3) := by decide +kernel
theorem dX8_submit_41 : decode cX8_submit 41 = .ok (.aload_n 0, 1) := by decide +kernel
theorem dX8_submit_42 : decode cX8_submit 42 = .ok (.iload_n 1, 1) := by decide +kernel
theorem dX8_submit_43 : decode cX8_submit 43 = .ok (.invokevirtual 146, 3) := by decide +kernel
theorem dX8_submit_46 : decode cX8_submit 46 = .ok (.ireturn, 1) := by decide +kernel
theorem dX8_next_0 : decode cX8_next 0 = .ok (.iconst (-1), 1) := by decide +kernel
theorem dX8_next_1 : decode cX8_next 1 = .ok (.istore_n 1, 1) := by decide +kernel
theorem dX8_next_2 : decode cX8_next 2 = .ok (.iconst 0, 1) := by decide +kernel
theorem dX8_next_3 : decode cX8_next 3 = .ok (.istore_n 2, 1) := by decide +kernel
theorem dX8_next_4 : decode cX8_next 4 = .ok (.iload_n 2, 1) := by decide +kernel
theorem dX8_next_5 : decode cX8_next 5 = .ok (.aload_n 0, 1) := by decide +kernel
theorem dX8_next_6 : decode cX8_next 6 = .ok (.getfield 120, 3) := by decide +kernel
theorem dX8_next_9 : decode cX8_next 9 = .ok (.if_icmp .ge 107, 3) := by decide +kernel
theorem dX8_next_12 : decode cX8_next 12 = .ok (.aload_n 0, 1) := by decide +kernel
theorem dX8_next_13 : decode cX8_next 13 = .ok (.getfield 51, 3) := by decide +kernel
theorem dX8_next_16 : decode cX8_next 16 = .ok (.iload_n 2, 1) := by decide +kernel
theorem dX8_next_17 : decode cX8_next 17 = .ok (.caload, 1) := by decide +kernel
theorem dX8_next_18 : decode cX8_next 18 = .ok (.bipush 119, 2) := by decide +kernel
theorem dX8_next_20 : decode cX8_next 20 = .ok (.if_icmp .ne 90, 3) := by decide +kernel
theorem dX8_next_23 : decode cX8_next 23 = .ok (.aload_n 0, 1) := by decide +kernel
theorem dX8_next_24 : decode cX8_next 24 = .ok (.getfield 48, 3) := by decide +kernel
theorem dX8_next_27 : decode cX8_next 27 = .ok (.iload_n 2, 1) := by decide +kernel
theorem dX8_next_28 : decode cX8_next 28 = .ok (.iaload, 1) := by decide +kernel
theorem dX8_next_29 : decode cX8_next 29 = .ok (.iconst (-1), 1) := by decide +kernel
theorem dX8_next_30 : decode cX8_next 30 = .ok (.if_icmp .eq 7, 3) := by decide +kernel
theorem dX8_next_33 : decode cX8_next 33 = .ok (.iconst 1, 1) := by decide +kernel
theorem dX8_next_34 : decode cX8_next 34 = .ok (.goto 4, 3) := by decide +kernel
theorem dX8_next_37 : decode cX8_next 37 = .ok (.iconst 0, 1) := by decide +kernel
theorem dX8_next_38 : decode cX8_next 38 = .ok (.istore_n 3, 1) := by decide +kernel
theorem dX8_next_39 : decode cX8_next 39 = .ok (.iload_n 1, 1) := by decide +kernel
theorem dX8_next_40 : decode cX8_next 40 = .ok (.iconst (-1), 1) := by decide +kernel
theorem dX8_next_41 : decode cX8_next 41 = .ok (.if_icmp .eq 51, 3) := by decide +kernel
theorem dX8_next_44 : decode cX8_next 44 = .ok (.iload_n 3, 1) := by decide +kernel
theorem dX8_next_45 : decode cX8_next 45 = .ok (.ifCond .eq 13, 3) := by decide +kernel
theorem dX8_next_48 : decode cX8_next 48 = .ok (.aload_n 0, 1) := by decide +kernel
theorem dX8_next_49 : decode cX8_next 49 = .ok (.getfield 48, 3) := by decide +kernel
theorem dX8_next_52 : decode cX8_next 52 = .ok (.iload_n 1, 1) := by decide +kernel
theorem dX8_next_53 : decode cX8_next 53 = .ok (.iaload, 1) := by decide +kernel
theorem dX8_next_54 : decode cX8_next 54 = .ok (.iconst (-1), 1) := by decide +kernel
theorem dX8_next_55 : decode cX8_next 55 = .ok (.if_icmp .eq 37, 3) := by decide +kernel
theorem dX8_next_58 : decode cX8_next 58 = .ok (.iload_n 3, 1) := by decide +kernel
theorem dX8_next_59 : decode cX8_next 59 = .ok (.aload_n 0, 1) := by decide +kernel
theorem dX8_next_60 : decode cX8_next 60 = .ok (.getfield 48, 3) := by decide +kernel
theorem dX8_next_63 : decode cX8_next 63 = .ok (.iload_n 1, 1) := by decide +kernel
theorem dX8_next_64 : decode cX8_next 64 = .ok (.iaload, 1) := by decide +kernel
theorem dX8_next_65 : decode cX8_next 65 = .ok (.iconst (-1), 1) := by decide +kernel
theorem dX8_next_66 : decode cX8_next 66 = .ok (.if_icmp .eq 7, 3) := by decide +kernel
theorem dX8_next_69 : decode cX8_next 69 = .ok (.iconst 1, 1) := by decide +kernel
theorem dX8_next_70 : decode cX8_next 70 = .ok (.goto 4, 3) := by decide +kernel
theorem dX8_next_73 : decode cX8_next 73 = .ok (.iconst 0, 1) := by decide +kernel
theorem dX8_next_74 : decode cX8_next 74 = .ok (.if_icmp .ne 22, 3) := by decide +kernel
theorem dX8_next_77 : decode cX8_next 77 = .ok (.aload_n 0, 1) := by decide +kernel
theorem dX8_next_78 : decode cX8_next 78 = .ok (.getfield 55, 3) := by decide +kernel
theorem dX8_next_81 : decode cX8_next 81 = .ok (.iload_n 2, 1) := by decide +kernel
theorem dX8_next_82 : decode cX8_next 82 = .ok (.iaload, 1) := by decide +kernel
theorem dX8_next_83 : decode cX8_next 83 = .ok (.aload_n 0, 1) := by decide +kernel
theorem dX8_next_84 : decode cX8_next 84 = .ok (.getfield 55, 3) := by decide +kernel
theorem dX8_next_87 : decode cX8_next 87 = .ok (.iload_n 1, 1) := by decide +kernel
theorem dX8_next_88 : decode cX8_next 88 = .ok (.iaload, 1) := by decide +kernel
theorem dX8_next_89 : decode cX8_next 89 = .ok (.if_icmp .ge 7, 3) := by decide +kernel
theorem dX8_next_92 : decode cX8_next 92 = .ok (.iconst 1, 1) := by decide +kernel
theorem dX8_next_93 : decode cX8_next 93 = .ok (.goto 4, 3) := by decide +kernel
theorem dX8_next_96 : decode cX8_next 96 = .ok (.iconst 0, 1) := by decide +kernel
theorem dX8_next_97 : decode cX8_next 97 = .ok (.istore 4, 2) := by decide +kernel
theorem dX8_next_99 : decode cX8_next 99 = .ok (.iload 4, 2) := by decide +kernel
theorem dX8_next_101 : decode cX8_next 101 = .ok (.ifCond .eq 7, 3) := by decide +kernel
theorem dX8_next_104 : decode cX8_next 104 = .ok (.iload_n 2, 1) := by decide +kernel
theorem dX8_next_105 : decode cX8_next 105 = .ok (.goto 4, 3) := by decide +kernel
theorem dX8_next_108 : decode cX8_next 108 = .ok (.iload_n 1, 1) := by decide +kernel
theorem dX8_next_109 : decode cX8_next 109 = .ok (.istore_n 1, 1) := by decide +kernel
theorem dX8_next_110 : decode cX8_next 110 = .ok (.iinc 2 1, 3) := by decide +kernel
theorem dX8_next_113 : decode cX8_next 113 = .ok (.goto (-109), 3) := by decide +kernel
theorem dX8_next_116 : decode cX8_next 116 = .ok (.iload_n 1, 1) := by decide +kernel
theorem dX8_next_117 : decode cX8_next 117 = .ok (.ireturn, 1) := by decide +kernel
theorem dX8_nextInReview_0 : decode cX8_nextInReview 0 = .ok (.aload_n 0, 1) := by decide +kernel
theorem dX8_nextInReview_1 : decode cX8_nextInReview 1 = .ok (.invokevirtual 150, 3) := by decide +kernel
theorem dX8_nextInReview_4 : decode cX8_nextInReview 4 = .ok (.istore_n 1, 1) := by decide +kernel
theorem dX8_nextInReview_5 : decode cX8_nextInReview 5 = .ok (.aload_n 0, 1) := by decide +kernel
theorem dX8_nextInReview_6 : decode cX8_nextInReview 6 = .ok (.iload_n 1, 1) := by decide +kernel
theorem dX8_nextInReview_7 : decode cX8_nextInReview 7 = .ok (.iconst (-1), 1) := by decide +kernel
theorem dX8_nextInReview_8 : decode cX8_nextInReview 8 = .ok (.if_icmp .ne 7, 3) := by decide +kernel
theorem dX8_nextInReview_11 : decode cX8_nextInReview 11 = .ok (.iconst 1, 1) := by decide +kernel
theorem dX8_nextInReview_12 : decode cX8_nextInReview 12 = .ok (.goto 4, 3) := by decide +kernel
theorem dX8_nextInReview_15 : decode cX8_nextInReview 15 = .ok (.iconst 0, 1) := by decide +kernel
theorem dX8_nextInReview_16 : decode cX8_nextInReview 16 = .ok (.putfield 110, 3) := by decide +kernel
theorem dX8_nextInReview_19 : decode cX8_nextInReview 19 = .ok (.aload_n 0, 1) := by decide +kernel
theorem dX8_nextInReview_20 : decode cX8_nextInReview 20 = .ok (.getfield 110, 3) := by decide +kernel
theorem dX8_nextInReview_23 : decode cX8_nextInReview 23 = .ok (.ifCond .le 7, 3) := by decide +kernel
theorem dX8_nextInReview_26 : decode cX8_nextInReview 26 = .ok (.iconst 0, 1) := by decide +kernel
theorem dX8_nextInReview_27 : decode cX8_nextInReview 27 = .ok (.goto 4, 3) := by decide +kernel
theorem dX8_nextInReview_30 : decode cX8_nextInReview 30 = .ok (.iload_n 1, 1) := by decide +kernel
theorem dX8_nextInReview_31 : decode cX8_nextInReview 31 = .ok (.ireturn, 1) := by decide +kernel
theorem dX8_barredBy_0 : decode cX8_barredBy 0 = .ok (.aload_n 0, 1) := by decide +kernel
theorem dX8_barredBy_1 : decode cX8_barredBy 1 = .ok (.getfield 39, 3) := by decide +kernel
theorem dX8_barredBy_4 : decode cX8_barredBy 4 = .ok (.iload_n 1, 1) := by decide +kernel
theorem dX8_barredBy_5 : decode cX8_barredBy 5 = .ok (.iaload, 1) := by decide +kernel
theorem dX8_barredBy_6 : decode cX8_barredBy 6 = .ok (.aload_n 0, 1) := by decide +kernel
theorem dX8_barredBy_7 : decode cX8_barredBy 7 = .ok (.getfield 74, 3) := by decide +kernel
theorem dX8_barredBy_10 : decode cX8_barredBy 10 = .ok (.if_icmp .le 8, 3) := by decide +kernel
theorem dX8_barredBy_13 : decode cX8_barredBy 13 = .ok (.bipush 115, 2) := by decide +kernel
theorem dX8_barredBy_15 : decode cX8_barredBy 15 = .ok (.goto 24, 3) := by decide +kernel
theorem dX8_barredBy_18 : decode cX8_barredBy 18 = .ok (.aload_n 0, 1) := by decide +kernel
theorem dX8_barredBy_19 : decode cX8_barredBy 19 = .ok (.getfield 42, 3) := by decide +kernel
theorem dX8_barredBy_22 : decode cX8_barredBy 22 = .ok (.iload_n 1, 1) := by decide +kernel
theorem dX8_barredBy_23 : decode cX8_barredBy 23 = .ok (.iaload, 1) := by decide +kernel
theorem dX8_barredBy_24 : decode cX8_barredBy 24 = .ok (.aload_n 0, 1) := by decide +kernel
theorem dX8_barredBy_25 : decode cX8_barredBy 25 = .ok (.getfield 154, 3) := by decide +kernel
theorem dX8_barredBy_28 : decode cX8_barredBy 28 = .ok (.iand, 1) := by decide +kernel
theorem dX8_barredBy_29 : decode cX8_barredBy 29 = .ok (.ifCond .eq 8, 3) := by decide +kernel
theorem dX8_barredBy_32 : decode cX8_barredBy 32 = .ok (.bipush 112, 2) := by decide +kernel
theorem dX8_barredBy_34 : decode cX8_barredBy 34 = .ok (.goto 5, 3) := by decide +kernel
theorem dX8_barredBy_37 : decode cX8_barredBy 37 = .ok (.bipush 45, 2) := by decide +kernel
theorem dX8_barredBy_39 : decode cX8_barredBy 39 = .ok (.ireturn, 1) := by decide +kernel
theorem dX8_review_0 : decode cX8_review 0 = .ok (.aload_n 0, 1) := by decide +kernel
theorem dX8_review_1 : decode cX8_review 1 = .ok (.invokevirtual 150, 3) := by decide +kernel
theorem dX8_review_4 : decode cX8_review 4 = .ok (.istore_n 1, 1) := by decide +kernel
theorem dX8_review_5 : decode cX8_review 5 = .ok (.aload_n 0, 1) := by decide +kernel
theorem dX8_review_6 : decode cX8_review 6 = .ok (.iload_n 1, 1) := by decide +kernel
theorem dX8_review_7 : decode cX8_review 7 = .ok (.iconst (-1), 1) := by decide +kernel
theorem dX8_review_8 : decode cX8_review 8 = .ok (.if_icmp .ne 7, 3) := by decide +kernel
theorem dX8_review_11 : decode cX8_review 11 = .ok (.iconst 1, 1) := by decide +kernel
theorem dX8_review_12 : decode cX8_review 12 = .ok (.goto 4, 3) := by decide +kernel
theorem dX8_review_15 : decode cX8_review 15 = .ok (.iconst 0, 1) := by decide +kernel
theorem dX8_review_16 : decode cX8_review 16 = .ok (.putfield 110, 3) := by decide +kernel
theorem dX8_review_19 : decode cX8_review 19 = .ok (.aload_n 0, 1) := by decide +kernel
theorem dX8_review_20 : decode cX8_review 20 = .ok (.getfield 110, 3) := by decide +kernel
theorem dX8_review_23 : decode cX8_review 23 = .ok (.ifCond .le 6, 3) := by decide +kernel
theorem dX8_review_26 : decode cX8_review 26 = .ok (.bipush 32, 2) := by decide +kernel
theorem dX8_review_28 : decode cX8_review 28 = .ok (.ireturn, 1) := by decide +kernel
theorem dX8_review_29 : decode cX8_review 29 = .ok (.aload_n 0, 1) := by decide +kernel
theorem dX8_review_30 : decode cX8_review 30 = .ok (.iload_n 1, 1) := by decide +kernel
theorem dX8_review_31 : decode cX8_review 31 = .ok (.invokevirtual 157, 3) := by decide +kernel
theorem dX8_review_34 : decode cX8_review 34 = .ok (.istore_n 2, 1) := by decide +kernel
theorem dX8_review_35 : decode cX8_review 35 = .ok (.aload_n 0, 1) := by decide +kernel
theorem dX8_review_36 : decode cX8_review 36 = .ok (.getfield 51, 3) := by decide +kernel
theorem dX8_review_39 : decode cX8_review 39 = .ok (.iload_n 1, 1) := by decide +kernel
theorem dX8_review_40 : decode cX8_review 40 = .ok (.iload_n 2, 1) := by decide +kernel
theorem dX8_review_41 : decode cX8_review 41 = .ok (.bipush 45, 2) := by decide +kernel
theorem dX8_review_43 : decode cX8_review 43 = .ok (.if_icmp .ne 8, 3) := by decide +kernel
theorem dX8_review_46 : decode cX8_review 46 = .ok (.bipush 97, 2) := by decide +kernel
theorem dX8_review_48 : decode cX8_review 48 = .ok (.goto 5, 3) := by decide +kernel
theorem dX8_review_51 : decode cX8_review 51 = .ok (.bipush 114, 2) := by decide +kernel
theorem dX8_review_53 : decode cX8_review 53 = .ok (.castore, 1) := by decide +kernel
theorem dX8_review_54 : decode cX8_review 54 = .ok (.iload_n 2, 1) := by decide +kernel
theorem dX8_review_55 : decode cX8_review 55 = .ok (.ireturn, 1) := by decide +kernel
theorem dX8_appeal_0 : decode cX8_appeal 0 = .ok (.aload_n 0, 1) := by decide +kernel
theorem dX8_appeal_1 : decode cX8_appeal 1 = .ok (.iload_n 1, 1) := by decide +kernel
theorem dX8_appeal_2 : decode cX8_appeal 2 = .ok (.invokevirtual 140, 3) := by decide +kernel
theorem dX8_appeal_5 : decode cX8_appeal 5 = .ok (.ifCond .eq 5, 3) := by decide +kernel
theorem dX8_appeal_8 : decode cX8_appeal 8 = .ok (.iconst 0, 1) := by decide +kernel
theorem dX8_appeal_9 : decode cX8_appeal 9 = .ok (.ireturn, 1) := by decide +kernel
theorem dX8_appeal_10 : decode cX8_appeal 10 = .ok (.aload_n 0, 1) := by decide +kernel
theorem dX8_appeal_11 : decode cX8_appeal 11 = .ok (.aload_n 0, 1) := by decide +kernel
theorem dX8_appeal_12 : decode cX8_appeal 12 = .ok (.getfield 51, 3) := by decide +kernel
theorem dX8_appeal_15 : decode cX8_appeal 15 = .ok (.iload_n 1, 1) := by decide +kernel
theorem dX8_appeal_16 : decode cX8_appeal 16 = .ok (.caload, 1) := by decide +kernel
theorem dX8_appeal_17 : decode cX8_appeal 17 = .ok (.bipush 114, 2) := by decide +kernel
theorem dX8_appeal_19 : decode cX8_appeal 19 = .ok (.if_icmp .ne 12, 3) := by decide +kernel
theorem dX8_appeal_22 : decode cX8_appeal 22 = .ok (.aload_n 0, 1) := by decide +kernel
theorem dX8_appeal_23 : decode cX8_appeal 23 = .ok (.getfield 58, 3) := by decide +kernel
theorem dX8_appeal_26 : decode cX8_appeal 26 = .ok (.iload_n 1, 1) := by decide +kernel
theorem dX8_appeal_27 : decode cX8_appeal 27 = .ok (.baload, 1) := by decide +kernel
theorem dX8_appeal_28 : decode cX8_appeal 28 = .ok (.ifCond .eq 7, 3) := by decide +kernel
theorem dX8_appeal_31 : decode cX8_appeal 31 = .ok (.iconst 2, 1) := by decide +kernel
theorem dX8_appeal_32 : decode cX8_appeal 32 = .ok (.goto 4, 3) := by decide +kernel
theorem dX8_appeal_35 : decode cX8_appeal 35 = .ok (.iconst 0, 1) := by decide +kernel
theorem dX8_appeal_36 : decode cX8_appeal 36 = .ok (.putfield 110, 3) := by decide +kernel
theorem dX8_appeal_39 : decode cX8_appeal 39 = .ok (.aload_n 0, 1) := by decide +kernel
theorem dX8_appeal_40 : decode cX8_appeal 40 = .ok (.getfield 110, 3) := by decide +kernel
theorem dX8_appeal_43 : decode cX8_appeal 43 = .ok (.ifCond .le 5, 3) := by decide +kernel
theorem dX8_appeal_46 : decode cX8_appeal 46 = .ok (.iconst 0, 1) := by decide +kernel
theorem dX8_appeal_47 : decode cX8_appeal 47 = .ok (.ireturn, 1) := by decide +kernel
theorem dX8_appeal_48 : decode cX8_appeal 48 = .ok (.aload_n 0, 1) := by decide +kernel
theorem dX8_appeal_49 : decode cX8_appeal 49 = .ok (.getfield 58, 3) := by decide +kernel
theorem dX8_appeal_52 : decode cX8_appeal 52 = .ok (.iload_n 1, 1) := by decide +kernel
theorem dX8_appeal_53 : decode cX8_appeal 53 = .ok (.iconst 1, 1) := by decide +kernel
theorem dX8_appeal_54 : decode cX8_appeal 54 = .ok (.bastore, 1) := by decide +kernel
theorem dX8_appeal_55 : decode cX8_appeal 55 = .ok (.aload_n 0, 1) := by decide +kernel
theorem dX8_appeal_56 : decode cX8_appeal 56 = .ok (.iload_n 1, 1) := by decide +kernel
theorem dX8_appeal_57 : decode cX8_appeal 57 = .ok (.invokevirtual 146, 3) := by decide +kernel
theorem dX8_appeal_60 : decode cX8_appeal 60 = .ok (.ireturn, 1) := by decide +kernel
theorem dX8_setSize_0 : decode cX8_setSize 0 = .ok (.aload_n 0, 1) := by decide +kernel
theorem dX8_setSize_1 : decode cX8_setSize 1 = .ok (.iload_n 1, 1) := by decide +kernel
theorem dX8_setSize_2 : decode cX8_setSize 2 = .ok (.iconst 1, 1) := by decide +kernel
theorem dX8_setSize_3 : decode cX8_setSize 3 = .ok (.sipush 500, 3) := by decide +kernel
theorem dX8_setSize_6 : decode cX8_setSize 6 = .ok (.invokestatic 116, 3) := by decide +kernel
theorem dX8_setSize_9 : decode cX8_setSize 9 = .ok (.ifCond .eq 7, 3) := by decide +kernel
theorem dX8_setSize_12 : decode cX8_setSize 12 = .ok (.iconst 0, 1) := by decide +kernel
theorem dX8_setSize_13 : decode cX8_setSize 13 = .ok (.goto 4, 3) := by decide +kernel
theorem dX8_setSize_16 : decode cX8_setSize 16 = .ok (.iconst 1, 1) := by decide +kernel
theorem dX8_setSize_17 : decode cX8_setSize 17 = .ok (.putfield 110, 3) := by decide +kernel
theorem dX8_setSize_20 : decode cX8_setSize 20 = .ok (.aload_n 0, 1) := by decide +kernel
theorem dX8_setSize_21 : decode cX8_setSize 21 = .ok (.getfield 110, 3) := by decide +kernel
theorem dX8_setSize_24 : decode cX8_setSize 24 = .ok (.ifCond .le 5, 3) := by decide +kernel
theorem dX8_setSize_27 : decode cX8_setSize 27 = .ok (.iconst 0, 1) := by decide +kernel
theorem dX8_setSize_28 : decode cX8_setSize 28 = .ok (.ireturn, 1) := by decide +kernel
theorem dX8_setSize_29 : decode cX8_setSize 29 = .ok (.aload_n 0, 1) := by decide +kernel
theorem dX8_setSize_30 : decode cX8_setSize 30 = .ok (.getfield 74, 3) := by decide +kernel
theorem dX8_setSize_33 : decode cX8_setSize 33 = .ok (.istore_n 2, 1) := by decide +kernel
theorem dX8_setSize_34 : decode cX8_setSize 34 = .ok (.aload_n 0, 1) := by decide +kernel
theorem dX8_setSize_35 : decode cX8_setSize 35 = .ok (.iload_n 1, 1) := by decide +kernel
theorem dX8_setSize_36 : decode cX8_setSize 36 = .ok (.putfield 74, 3) := by decide +kernel
theorem dX8_setSize_39 : decode cX8_setSize 39 = .ok (.iload_n 2, 1) := by decide +kernel
theorem dX8_setSize_40 : decode cX8_setSize 40 = .ok (.ireturn, 1) := by decide +kernel
theorem dX8_setBarred_0 : decode cX8_setBarred 0 = .ok (.aload_n 0, 1) := by decide +kernel
theorem dX8_setBarred_1 : decode cX8_setBarred 1 = .ok (.iload_n 1, 1) := by decide +kernel
theorem dX8_setBarred_2 : decode cX8_setBarred 2 = .ok (.iconst 0, 1) := by decide +kernel
theorem dX8_setBarred_3 : decode cX8_setBarred 3 = .ok (.bipush 15, 2) := by decide +kernel
theorem dX8_setBarred_5 : decode cX8_setBarred 5 = .ok (.invokestatic 116, 3) := by decide +kernel
theorem dX8_setBarred_8 : decode cX8_setBarred 8 = .ok (.ifCond .eq 7, 3) := by decide +kernel
theorem dX8_setBarred_11 : decode cX8_setBarred 11 = .ok (.iconst 0, 1) := by decide +kernel
theorem dX8_setBarred_12 : decode cX8_setBarred 12 = .ok (.goto 4, 3) := by decide +kernel
theorem dX8_setBarred_15 : decode cX8_setBarred 15 = .ok (.iconst 1, 1) := by decide +kernel
theorem dX8_setBarred_16 : decode cX8_setBarred 16 = .ok (.putfield 110, 3) := by decide +kernel
theorem dX8_setBarred_19 : decode cX8_setBarred 19 = .ok (.aload_n 0, 1) := by decide +kernel
theorem dX8_setBarred_20 : decode cX8_setBarred 20 = .ok (.getfield 110, 3) := by decide +kernel
theorem dX8_setBarred_23 : decode cX8_setBarred 23 = .ok (.ifCond .le 5, 3) := by decide +kernel
theorem dX8_setBarred_26 : decode cX8_setBarred 26 = .ok (.iconst 0, 1) := by decide +kernel
theorem dX8_setBarred_27 : decode cX8_setBarred 27 = .ok (.ireturn, 1) := by decide +kernel
theorem dX8_setBarred_28 : decode cX8_setBarred 28 = .ok (.aload_n 0, 1) := by decide +kernel
theorem dX8_setBarred_29 : decode cX8_setBarred 29 = .ok (.getfield 154, 3) := by decide +kernel
theorem dX8_setBarred_32 : decode cX8_setBarred 32 = .ok (.istore_n 2, 1) := by decide +kernel
theorem dX8_setBarred_33 : decode cX8_setBarred 33 = .ok (.aload_n 0, 1) := by decide +kernel
theorem dX8_setBarred_34 : decode cX8_setBarred 34 = .ok (.iload_n 1, 1) := by decide +kernel
theorem dX8_setBarred_35 : decode cX8_setBarred 35 = .ok (.putfield 154, 3) := by decide +kernel
theorem dX8_setBarred_38 : decode cX8_setBarred 38 = .ok (.iload_n 2, 1) := by decide +kernel
theorem dX8_setBarred_39 : decode cX8_setBarred 39 = .ok (.ireturn, 1) := by decide +kernel
theorem dX8_stateOf_0 : decode cX8_stateOf 0 = .ok (.aload_n 0, 1) := by decide +kernel
theorem dX8_stateOf_1 : decode cX8_stateOf 1 = .ok (.iload_n 1, 1) := by decide +kernel
theorem dX8_stateOf_2 : decode cX8_stateOf 2 = .ok (.invokevirtual 140, 3) := by decide +kernel
theorem dX8_stateOf_5 : decode cX8_stateOf 5 = .ok (.ifCond .eq 8, 3) := by decide +kernel
theorem dX8_stateOf_8 : decode cX8_stateOf 8 = .ok (.bipush 32, 2) := by decide +kernel
theorem dX8_stateOf_10 : decode cX8_stateOf 10 = .ok (.goto 9, 3) := by decide +kernel
theorem dX8_stateOf_13 : decode cX8_stateOf 13 = .ok (.aload_n 0, 1) := by decide +kernel
theorem dX8_stateOf_14 : decode cX8_stateOf 14 = .ok (.getfield 51, 3) := by decide +kernel
theorem dX8_stateOf_17 : decode cX8_stateOf 17 = .ok (.iload_n 1, 1) := by decide +kernel
theorem dX8_stateOf_18 : decode cX8_stateOf 18 = .ok (.caload, 1) := by decide +kernel
theorem dX8_stateOf_19 : decode cX8_stateOf 19 = .ok (.ireturn, 1) := by decide +kernel
theorem dX8_stage_0 : decode cX8_stage 0 = .ok (.aload_n 0, 1) := by decide +kernel
theorem dX8_stage_1 : decode cX8_stage 1 = .ok (.iload_n 1, 1) := by decide +kernel
theorem dX8_stage_2 : decode cX8_stage 2 = .ok (.invokevirtual 140, 3) := by decide +kernel
theorem dX8_stage_5 : decode cX8_stage 5 = .ok (.ifCond .eq 5, 3) := by decide +kernel
theorem dX8_stage_8 : decode cX8_stage 8 = .ok (.iconst 0, 1) := by decide +kernel
theorem dX8_stage_9 : decode cX8_stage 9 = .ok (.ireturn, 1) := by decide +kernel
theorem dX8_stage_10 : decode cX8_stage 10 = .ok (.iload_n 2, 1) := by decide +kernel
theorem dX8_stage_11 : decode cX8_stage 11 = .ok (.iconst 1, 1) := by decide +kernel
theorem dX8_stage_12 : decode cX8_stage 12 = .ok (.bipush 100, 2) := by decide +kernel
theorem dX8_stage_14 : decode cX8_stage 14 = .ok (.invokestatic 116, 3) := by decide +kernel
theorem dX8_stage_17 : decode cX8_stage 17 = .ok (.ifCond .eq 17, 3) := by decide +kernel
theorem dX8_stage_20 : decode cX8_stage 20 = .ok (.iload_n 3, 1) := by decide +kernel
theorem dX8_stage_21 : decode cX8_stage 21 = .ok (.iconst 0, 1) := by decide +kernel
theorem dX8_stage_22 : decode cX8_stage 22 = .ok (.bipush 100, 2) := by decide +kernel
theorem dX8_stage_24 : decode cX8_stage 24 = .ok (.invokestatic 116, 3) := by decide +kernel
theorem dX8_stage_27 : decode cX8_stage 27 = .ok (.ifCond .eq 7, 3) := by decide +kernel
theorem dX8_stage_30 : decode cX8_stage 30 = .ok (.iconst 1, 1) := by decide +kernel
theorem dX8_stage_31 : decode cX8_stage 31 = .ok (.goto 4, 3) := by decide +kernel
theorem dX8_stage_34 : decode cX8_stage 34 = .ok (.iconst 0, 1) := by decide +kernel
theorem dX8_stage_35 : decode cX8_stage 35 = .ok (.istore 4, 2) := by decide +kernel
theorem dX8_stage_37 : decode cX8_stage 37 = .ok (.aload_n 0, 1) := by decide +kernel
theorem dX8_stage_38 : decode cX8_stage 38 = .ok (.iload 4, 2) := by decide +kernel
theorem dX8_stage_40 : decode cX8_stage 40 = .ok (.ifCond .ne 7, 3) := by decide +kernel
theorem dX8_stage_43 : decode cX8_stage 43 = .ok (.iconst 2, 1) := by decide +kernel
theorem dX8_stage_44 : decode cX8_stage 44 = .ok (.goto 33, 3) := by decide +kernel
theorem dX8_stage_47 : decode cX8_stage 47 = .ok (.aload_n 0, 1) := by decide +kernel
theorem dX8_stage_48 : decode cX8_stage 48 = .ok (.getfield 51, 3) := by decide +kernel
theorem dX8_stage_51 : decode cX8_stage 51 = .ok (.iload_n 1, 1) := by decide +kernel
theorem dX8_stage_52 : decode cX8_stage 52 = .ok (.caload, 1) := by decide +kernel
theorem dX8_stage_53 : decode cX8_stage 53 = .ok (.bipush 97, 2) := by decide +kernel
theorem dX8_stage_55 : decode cX8_stage 55 = .ok (.if_icmp .eq 7, 3) := by decide +kernel
theorem dX8_stage_58 : decode cX8_stage 58 = .ok (.iconst 3, 1) := by decide +kernel
theorem dX8_stage_59 : decode cX8_stage 59 = .ok (.goto 18, 3) := by decide +kernel
theorem dX8_stage_62 : decode cX8_stage 62 = .ok (.iload_n 2, 1) := by decide +kernel
theorem dX8_stage_63 : decode cX8_stage 63 = .ok (.aload_n 0, 1) := by decide +kernel
theorem dX8_stage_64 : decode cX8_stage 64 = .ok (.getfield 62, 3) := by decide +kernel
theorem dX8_stage_67 : decode cX8_stage 67 = .ok (.iload_n 1, 1) := by decide +kernel
theorem dX8_stage_68 : decode cX8_stage 68 = .ok (.iaload, 1) := by decide +kernel
theorem dX8_stage_69 : decode cX8_stage 69 = .ok (.if_icmp .ge 7, 3) := by decide +kernel
theorem dX8_stage_72 : decode cX8_stage 72 = .ok (.iconst 4, 1) := by decide +kernel
theorem dX8_stage_73 : decode cX8_stage 73 = .ok (.goto 4, 3) := by decide +kernel
theorem dX8_stage_76 : decode cX8_stage 76 = .ok (.iconst 0, 1) := by decide +kernel
theorem dX8_stage_77 : decode cX8_stage 77 = .ok (.putfield 110, 3) := by decide +kernel
theorem dX8_stage_80 : decode cX8_stage 80 = .ok (.aload_n 0, 1) := by decide +kernel
theorem dX8_stage_81 : decode cX8_stage 81 = .ok (.getfield 110, 3) := by decide +kernel
theorem dX8_stage_84 : decode cX8_stage 84 = .ok (.ifCond .le 5, 3) := by decide +kernel
theorem dX8_stage_87 : decode cX8_stage 87 = .ok (.iconst 0, 1) := by decide +kernel
theorem dX8_stage_88 : decode cX8_stage 88 = .ok (.ireturn, 1) := by decide +kernel
theorem dX8_stage_89 : decode cX8_stage 89 = .ok (.aload_n 0, 1) := by decide +kernel
theorem dX8_stage_90 : decode cX8_stage 90 = .ok (.getfield 62, 3) := by decide +kernel
theorem dX8_stage_93 : decode cX8_stage 93 = .ok (.iload_n 1, 1) := by decide +kernel
theorem dX8_stage_94 : decode cX8_stage 94 = .ok (.iaload, 1) := by decide +kernel
theorem dX8_stage_95 : decode cX8_stage 95 = .ok (.istore 5, 2) := by decide +kernel
theorem dX8_stage_97 : decode cX8_stage 97 = .ok (.aload_n 0, 1) := by decide +kernel
theorem dX8_stage_98 : decode cX8_stage 98 = .ok (.getfield 62, 3) := by decide +kernel
theorem dX8_stage_101 : decode cX8_stage 101 = .ok (.iload_n 1, 1) := by decide +kernel
theorem dX8_stage_102 : decode cX8_stage 102 = .ok (.iload_n 2, 1) := by decide +kernel
theorem dX8_stage_103 : decode cX8_stage 103 = .ok (.iastore, 1) := by decide +kernel
theorem dX8_stage_104 : decode cX8_stage 104 = .ok (.aload_n 0, 1) := by decide +kernel
theorem dX8_stage_105 : decode cX8_stage 105 = .ok (.getfield 65, 3) := by decide +kernel
theorem dX8_stage_108 : decode cX8_stage 108 = .ok (.iload_n 1, 1) := by decide +kernel
theorem dX8_stage_109 : decode cX8_stage 109 = .ok (.iload_n 3, 1) := by decide +kernel
theorem dX8_stage_110 : decode cX8_stage 110 = .ok (.iastore, 1) := by decide +kernel
theorem dX8_stage_111 : decode cX8_stage 111 = .ok (.iload 5, 2) := by decide +kernel
theorem dX8_stage_113 : decode cX8_stage 113 = .ok (.ireturn, 1) := by decide +kernel
theorem dX8_percentageOf_0 : decode cX8_percentageOf 0 = .ok (.aload_n 0, 1) := by decide +kernel
theorem dX8_percentageOf_1 : decode cX8_percentageOf 1 = .ok (.iload_n 1, 1) := by decide +kernel
theorem dX8_percentageOf_2 : decode cX8_percentageOf 2 = .ok (.invokevirtual 140, 3) := by decide +kernel
theorem dX8_percentageOf_5 : decode cX8_percentageOf 5 = .ok (.ifCond .eq 7, 3) := by decide +kernel
theorem dX8_percentageOf_8 : decode cX8_percentageOf 8 = .ok (.iconst 0, 1) := by decide +kernel
theorem dX8_percentageOf_9 : decode cX8_percentageOf 9 = .ok (.goto 9, 3) := by decide +kernel
theorem dX8_percentageOf_12 : decode cX8_percentageOf 12 = .ok (.aload_n 0, 1) := by decide +kernel
theorem dX8_percentageOf_13 : decode cX8_percentageOf 13 = .ok (.getfield 62, 3) := by decide +kernel
theorem dX8_percentageOf_16 : decode cX8_percentageOf 16 = .ok (.iload_n 1, 1) := by decide +kernel
theorem dX8_percentageOf_17 : decode cX8_percentageOf 17 = .ok (.iaload, 1) := by decide +kernel
theorem dX8_percentageOf_18 : decode cX8_percentageOf 18 = .ok (.ireturn, 1) := by decide +kernel
theorem dX8_rolls_0 : decode cX8_rolls 0 = .ok (.aload_n 0, 1) := by decide +kernel
theorem dX8_rolls_1 : decode cX8_rolls 1 = .ok (.getfield 51, 3) := by decide +kernel
theorem dX8_rolls_4 : decode cX8_rolls 4 = .ok (.iload_n 1, 1) := by decide +kernel
theorem dX8_rolls_5 : decode cX8_rolls 5 = .ok (.caload, 1) := by decide +kernel
theorem dX8_rolls_6 : decode cX8_rolls 6 = .ok (.bipush 97, 2) := by decide +kernel
theorem dX8_rolls_8 : decode cX8_rolls 8 = .ok (.if_icmp .ne 26, 3) := by decide +kernel
theorem dX8_rolls_11 : decode cX8_rolls 11 = .ok (.aload_n 0, 1) := by decide +kernel
theorem dX8_rolls_12 : decode cX8_rolls 12 = .ok (.getfield 62, 3) := by decide +kernel
theorem dX8_rolls_15 : decode cX8_rolls 15 = .ok (.iload_n 1, 1) := by decide +kernel
theorem dX8_rolls_16 : decode cX8_rolls 16 = .ok (.iaload, 1) := by decide +kernel
theorem dX8_rolls_17 : decode cX8_rolls 17 = .ok (.ifCond .le 17, 3) := by decide +kernel
theorem dX8_rolls_20 : decode cX8_rolls 20 = .ok (.aload_n 0, 1) := by decide +kernel
theorem dX8_rolls_21 : decode cX8_rolls 21 = .ok (.iload_n 1, 1) := by decide +kernel
theorem dX8_rolls_22 : decode cX8_rolls 22 = .ok (.invokevirtual 161, 3) := by decide +kernel
theorem dX8_rolls_25 : decode cX8_rolls 25 = .ok (.bipush 45, 2) := by decide +kernel
theorem dX8_rolls_27 : decode cX8_rolls 27 = .ok (.if_icmp .ne 7, 3) := by decide +kernel
theorem dX8_rolls_30 : decode cX8_rolls 30 = .ok (.iconst 1, 1) := by decide +kernel
theorem dX8_rolls_31 : decode cX8_rolls 31 = .ok (.goto 4, 3) := by decide +kernel
theorem dX8_rolls_34 : decode cX8_rolls 34 = .ok (.iconst 0, 1) := by decide +kernel
theorem dX8_rolls_35 : decode cX8_rolls 35 = .ok (.ireturn, 1) := by decide +kernel
theorem dX8_after_0 : decode cX8_after 0 = .ok (.aload_n 0, 1) := by decide +kernel
theorem dX8_after_1 : decode cX8_after 1 = .ok (.iload_n 1, 1) := by decide +kernel
theorem dX8_after_2 : decode cX8_after 2 = .ok (.invokevirtual 164, 3) := by decide +kernel
theorem dX8_after_5 : decode cX8_after 5 = .ok (.ifCond .eq 26, 3) := by decide +kernel
theorem dX8_after_8 : decode cX8_after 8 = .ok (.bipush 100, 2) := by decide +kernel
theorem dX8_after_10 : decode cX8_after 10 = .ok (.aload_n 0, 1) := by decide +kernel
theorem dX8_after_11 : decode cX8_after 11 = .ok (.getfield 62, 3) := by decide +kernel
theorem dX8_after_14 : decode cX8_after 14 = .ok (.iload_n 1, 1) := by decide +kernel
theorem dX8_after_15 : decode cX8_after 15 = .ok (.iaload, 1) := by decide +kernel
theorem dX8_after_16 : decode cX8_after 16 = .ok (.iload_n 2, 1) := by decide +kernel
theorem dX8_after_17 : decode cX8_after 17 = .ok (.aload_n 0, 1) := by decide +kernel
theorem dX8_after_18 : decode cX8_after 18 = .ok (.getfield 65, 3) := by decide +kernel
theorem dX8_after_21 : decode cX8_after 21 = .ok (.iload_n 1, 1) := by decide +kernel
theorem dX8_after_22 : decode cX8_after 22 = .ok (.iaload, 1) := by decide +kernel
theorem dX8_after_23 : decode cX8_after 23 = .ok (.imul, 1) := by decide +kernel
theorem dX8_after_24 : decode cX8_after 24 = .ok (.iadd, 1) := by decide +kernel
theorem dX8_after_25 : decode cX8_after 25 = .ok (.invokestatic 167, 3) := by decide +kernel
theorem dX8_after_28 : decode cX8_after 28 = .ok (.goto 9, 3) := by decide +kernel
theorem dX8_after_31 : decode cX8_after 31 = .ok (.aload_n 0, 1) := by decide +kernel
theorem dX8_after_32 : decode cX8_after 32 = .ok (.getfield 62, 3) := by decide +kernel
theorem dX8_after_35 : decode cX8_after 35 = .ok (.iload_n 1, 1) := by decide +kernel
theorem dX8_after_36 : decode cX8_after 36 = .ok (.iaload, 1) := by decide +kernel
theorem dX8_after_37 : decode cX8_after 37 = .ok (.ireturn, 1) := by decide +kernel
theorem dX8_percentageAfter_0 : decode cX8_percentageAfter 0 = .ok (.aload_n 0, 1) := by decide +kernel
theorem dX8_percentageAfter_1 : decode cX8_percentageAfter 1 = .ok (.iload_n 1, 1) := by decide +kernel
theorem dX8_percentageAfter_2 : decode cX8_percentageAfter 2 = .ok (.invokevirtual 140, 3) := by decide +kernel
theorem dX8_percentageAfter_5 : decode cX8_percentageAfter 5 = .ok (.ifCond .eq 5, 3) := by decide +kernel
theorem dX8_percentageAfter_8 : decode cX8_percentageAfter 8 = .ok (.iconst 0, 1) := by decide +kernel
theorem dX8_percentageAfter_9 : decode cX8_percentageAfter 9 = .ok (.ireturn, 1) := by decide +kernel
theorem dX8_percentageAfter_10 : decode cX8_percentageAfter 10 = .ok (.aload_n 0, 1) := by decide +kernel
theorem dX8_percentageAfter_11 : decode cX8_percentageAfter 11 = .ok (.iload_n 2, 1) := by decide +kernel
theorem dX8_percentageAfter_12 : decode cX8_percentageAfter 12 = .ok (.iconst 1, 1) := by decide +kernel
theorem dX8_percentageAfter_13 : decode cX8_percentageAfter 13 = .ok (.bipush 99, 2) := by decide +kernel
theorem dX8_percentageAfter_15 : decode cX8_percentageAfter 15 = .ok (.invokestatic 116, 3) := by decide +kernel
theorem dX8_percentageAfter_18 : decode cX8_percentageAfter 18 = .ok (.ifCond .eq 7, 3) := by decide +kernel
theorem dX8_percentageAfter_21 : decode cX8_percentageAfter 21 = .ok (.iconst 0, 1) := by decide +kernel
theorem dX8_percentageAfter_22 : decode cX8_percentageAfter 22 = .ok (.goto 4, 3) := by decide +kernel
theorem dX8_percentageAfter_25 : decode cX8_percentageAfter 25 = .ok (.iconst 2, 1) := by decide +kernel
theorem dX8_percentageAfter_26 : decode cX8_percentageAfter 26 = .ok (.putfield 110, 3) := by decide +kernel
theorem dX8_percentageAfter_29 : decode cX8_percentageAfter 29 = .ok (.aload_n 0, 1) := by decide +kernel
theorem dX8_percentageAfter_30 : decode cX8_percentageAfter 30 = .ok (.getfield 110, 3) := by decide +kernel
theorem dX8_percentageAfter_33 : decode cX8_percentageAfter 33 = .ok (.ifCond .le 7, 3) := by decide +kernel
theorem dX8_percentageAfter_36 : decode cX8_percentageAfter 36 = .ok (.iconst 0, 1) := by decide +kernel
theorem dX8_percentageAfter_37 : decode cX8_percentageAfter 37 = .ok (.goto 9, 3) := by decide +kernel
theorem dX8_percentageAfter_40 : decode cX8_percentageAfter 40 = .ok (.aload_n 0, 1) := by decide +kernel
theorem dX8_percentageAfter_41 : decode cX8_percentageAfter 41 = .ok (.iload_n 1, 1) := by decide +kernel
theorem dX8_percentageAfter_42 : decode cX8_percentageAfter 42 = .ok (.iload_n 2, 1) := by decide +kernel
theorem dX8_percentageAfter_43 : decode cX8_percentageAfter 43 = .ok (.invokevirtual 173, 3) := by decide +kernel
theorem dX8_percentageAfter_46 : decode cX8_percentageAfter 46 = .ok (.ireturn, 1) := by decide +kernel
theorem dX8_pass_0 : decode cX8_pass 0 = .ok (.aload_n 0, 1) := by decide +kernel
theorem dX8_pass_1 : decode cX8_pass 1 = .ok (.iload_n 1, 1) := by decide +kernel
theorem dX8_pass_2 : decode cX8_pass 2 = .ok (.iconst 1, 1) := by decide +kernel
theorem dX8_pass_3 : decode cX8_pass 3 = .ok (.bipush 99, 2) := by decide +kernel
theorem dX8_pass_5 : decode cX8_pass 5 = .ok (.invokestatic 116, 3) := by decide +kernel
theorem dX8_pass_8 : decode cX8_pass 8 = .ok (.ifCond .ne 7, 3) := by decide +kernel
theorem dX8_pass_11 : decode cX8_pass 11 = .ok (.iconst 1, 1) := by decide +kernel
theorem dX8_pass_12 : decode cX8_pass 12 = .ok (.goto 20, 3) := by decide +kernel
theorem dX8_pass_15 : decode cX8_pass 15 = .ok (.aload_n 0, 1) := by decide +kernel
theorem dX8_pass_16 : decode cX8_pass 16 = .ok (.getfield 176, 3) := by decide +kernel
theorem dX8_pass_19 : decode cX8_pass 19 = .ok (.iload_n 1, 1) := by decide +kernel
theorem dX8_pass_20 : decode cX8_pass 20 = .ok (.iadd, 1) := by decide +kernel
theorem dX8_pass_21 : decode cX8_pass 21 = .ok (.sipush 999, 3) := by decide +kernel
theorem dX8_pass_24 : decode cX8_pass 24 = .ok (.if_icmp .le 7, 3) := by decide +kernel
theorem dX8_pass_27 : decode cX8_pass 27 = .ok (.iconst 2, 1) := by decide +kernel
theorem dX8_pass_28 : decode cX8_pass 28 = .ok (.goto 4, 3) := by decide +kernel
theorem dX8_pass_31 : decode cX8_pass 31 = .ok (.iconst 0, 1) := by decide +kernel
theorem dX8_pass_32 : decode cX8_pass 32 = .ok (.putfield 110, 3) := by decide +kernel
theorem dX8_pass_35 : decode cX8_pass 35 = .ok (.aload_n 0, 1) := by decide +kernel
theorem dX8_pass_36 : decode cX8_pass 36 = .ok (.getfield 110, 3) := by decide +kernel
theorem dX8_pass_39 : decode cX8_pass 39 = .ok (.ifCond .le 5, 3) := by decide +kernel
theorem dX8_pass_42 : decode cX8_pass 42 = .ok (.iconst 0, 1) := by decide +kernel
theorem dX8_pass_43 : decode cX8_pass 43 = .ok (.ireturn, 1) := by decide +kernel
theorem dX8_pass_44 : decode cX8_pass 44 = .ok (.iconst 0, 1) := by decide +kernel
theorem dX8_pass_45 : decode cX8_pass 45 = .ok (.istore_n 2, 1) := by decide +kernel
theorem dX8_pass_46 : decode cX8_pass 46 = .ok (.iload_n 2, 1) := by decide +kernel
theorem dX8_pass_47 : decode cX8_pass 47 = .ok (.aload_n 0, 1) := by decide +kernel
theorem dX8_pass_48 : decode cX8_pass 48 = .ok (.getfield 120, 3) := by decide +kernel
theorem dX8_pass_51 : decode cX8_pass 51 = .ok (.if_icmp .ge 21, 3) := by decide +kernel
theorem dX8_pass_54 : decode cX8_pass 54 = .ok (.aload_n 0, 1) := by decide +kernel
theorem dX8_pass_55 : decode cX8_pass 55 = .ok (.getfield 62, 3) := by decide +kernel
theorem dX8_pass_58 : decode cX8_pass 58 = .ok (.iload_n 2, 1) := by decide +kernel
theorem dX8_pass_59 : decode cX8_pass 59 = .ok (.aload_n 0, 1) := by decide +kernel
theorem dX8_pass_60 : decode cX8_pass 60 = .ok (.iload_n 2, 1) := by decide +kernel
theorem dX8_pass_61 : decode cX8_pass 61 = .ok (.iload_n 1, 1) := by decide +kernel
theorem dX8_pass_62 : decode cX8_pass 62 = .ok (.invokevirtual 173, 3) := by decide +kernel
theorem dX8_pass_65 : decode cX8_pass 65 = .ok (.iastore, 1) := by decide +kernel
theorem dX8_pass_66 : decode cX8_pass 66 = .ok (.iinc 2 1, 3) := by decide +kernel
theorem dX8_pass_69 : decode cX8_pass 69 = .ok (.goto (-23), 3) := by decide +kernel
theorem dX8_pass_72 : decode cX8_pass 72 = .ok (.aload_n 0, 1) := by decide +kernel
theorem dX8_pass_73 : decode cX8_pass 73 = .ok (.dup, 1) := by decide +kernel
theorem dX8_pass_74 : decode cX8_pass 74 = .ok (.getfield 176, 3) := by decide +kernel
theorem dX8_pass_77 : decode cX8_pass 77 = .ok (.iload_n 1, 1) := by decide +kernel
theorem dX8_pass_78 : decode cX8_pass 78 = .ok (.iadd, 1) := by decide +kernel
theorem dX8_pass_79 : decode cX8_pass 79 = .ok (.putfield 176, 3) := by decide +kernel
theorem dX8_pass_82 : decode cX8_pass 82 = .ok (.aload_n 0, 1) := by decide +kernel
theorem dX8_pass_83 : decode cX8_pass 83 = .ok (.getfield 176, 3) := by decide +kernel
theorem dX8_pass_86 : decode cX8_pass 86 = .ok (.ireturn, 1) := by decide +kernel
theorem dX8_rateOf_0 : decode cX8_rateOf 0 = .ok (.aload_n 0, 1) := by decide +kernel
theorem dX8_rateOf_1 : decode cX8_rateOf 1 = .ok (.getfield 68, 3) := by decide +kernel
theorem dX8_rateOf_4 : decode cX8_rateOf 4 = .ok (.iload_n 1, 1) := by decide +kernel
theorem dX8_rateOf_5 : decode cX8_rateOf 5 = .ok (.iaload, 1) := by decide +kernel
theorem dX8_rateOf_6 : decode cX8_rateOf 6 = .ok (.ifCond .ne 7, 3) := by decide +kernel
theorem dX8_rateOf_9 : decode cX8_rateOf 9 = .ok (.fconst 0, 1) := by decide +kernel
theorem dX8_rateOf_10 : decode cX8_rateOf 10 = .ok (.goto 18, 3) := by decide +kernel
theorem dX8_rateOf_13 : decode cX8_rateOf 13 = .ok (.aload_n 0, 1) := by decide +kernel
theorem dX8_rateOf_14 : decode cX8_rateOf 14 = .ok (.getfield 71, 3) := by decide +kernel
theorem dX8_rateOf_17 : decode cX8_rateOf 17 = .ok (.iload_n 1, 1) := by decide +kernel
theorem dX8_rateOf_18 : decode cX8_rateOf 18 = .ok (.iaload, 1) := by decide +kernel
theorem dX8_rateOf_19 : decode cX8_rateOf 19 = .ok (.i2f, 1) := by decide +kernel
theorem dX8_rateOf_20 : decode cX8_rateOf 20 = .ok (.aload_n 0, 1) := by decide +kernel
theorem dX8_rateOf_21 : decode cX8_rateOf 21 = .ok (.getfield 68, 3) := by decide +kernel
theorem dX8_rateOf_24 : decode cX8_rateOf 24 = .ok (.iload_n 1, 1) := by decide +kernel
theorem dX8_rateOf_25 : decode cX8_rateOf 25 = .ok (.iaload, 1) := by decide +kernel
theorem dX8_rateOf_26 : decode cX8_rateOf 26 = .ok (.i2f, 1) := by decide +kernel
theorem dX8_rateOf_27 : decode cX8_rateOf 27 = .ok (.fdiv, 1) := by decide +kernel
theorem dX8_rateOf_28 : decode cX8_rateOf 28 = .ok (.freturn, 1) := by decide +kernel
theorem dX8_ratings_0 : decode cX8_ratings 0 = .ok (.iconst 0, 1) := by decide +kernel
theorem dX8_ratings_1 : decode cX8_ratings 1 = .ok (.istore_n 2, 1) := by decide +kernel
theorem dX8_ratings_2 : decode cX8_ratings 2 = .ok (.iconst 0, 1) := by decide +kernel
theorem dX8_ratings_3 : decode cX8_ratings 3 = .ok (.istore_n 3, 1) := by decide +kernel
theorem dX8_ratings_4 : decode cX8_ratings 4 = .ok (.iload_n 3, 1) := by decide +kernel
theorem dX8_ratings_5 : decode cX8_ratings 5 = .ok (.aload_n 0, 1) := by decide +kernel
theorem dX8_ratings_6 : decode cX8_ratings 6 = .ok (.getfield 113, 3) := by decide +kernel
theorem dX8_ratings_9 : decode cX8_ratings 9 = .ok (.if_icmp .ge 28, 3) := by decide +kernel
theorem dX8_ratings_12 : decode cX8_ratings 12 = .ok (.iload_n 2, 1) := by decide +kernel
theorem dX8_ratings_13 : decode cX8_ratings 13 = .ok (.aload_n 0, 1) := by decide +kernel
theorem dX8_ratings_14 : decode cX8_ratings 14 = .ok (.getfield 27, 3) := by decide +kernel
theorem dX8_ratings_17 : decode cX8_ratings 17 = .ok (.iload_n 3, 1) := by decide +kernel
theorem dX8_ratings_18 : decode cX8_ratings 18 = .ok (.aaload, 1) := by decide +kernel
theorem dX8_ratings_19 : decode cX8_ratings 19 = .ok (.iload_n 1, 1) := by decide +kernel
theorem dX8_ratings_20 : decode cX8_ratings 20 = .ok (.iaload, 1) := by decide +kernel
theorem dX8_ratings_21 : decode cX8_ratings 21 = .ok (.ifCond .le 7, 3) := by decide +kernel
theorem dX8_ratings_24 : decode cX8_ratings 24 = .ok (.iconst 1, 1) := by decide +kernel
theorem dX8_ratings_25 : decode cX8_ratings 25 = .ok (.goto 4, 3) := by decide +kernel
theorem dX8_ratings_28 : decode cX8_ratings 28 = .ok (.iconst 0, 1) := by decide +kernel
theorem dX8_ratings_29 : decode cX8_ratings 29 = .ok (.iadd, 1) := by decide +kernel
theorem dX8_ratings_30 : decode cX8_ratings 30 = .ok (.istore_n 2, 1) := by decide +kernel
theorem dX8_ratings_31 : decode cX8_ratings 31 = .ok (.iinc 3 1, 3) := by decide +kernel
theorem dX8_ratings_34 : decode cX8_ratings 34 = .ok (.goto (-30), 3) := by decide +kernel
theorem dX8_ratings_37 : decode cX8_ratings 37 = .ok (.iload_n 2, 1) := by decide +kernel
theorem dX8_ratings_38 : decode cX8_ratings 38 = .ok (.ireturn, 1) := by decide +kernel
theorem dX8_ratingOf_0 : decode cX8_ratingOf 0 = .ok (.iconst 0, 1) := by decide +kernel
theorem dX8_ratingOf_1 : decode cX8_ratingOf 1 = .ok (.istore_n 2, 1) := by decide +kernel
theorem dX8_ratingOf_2 : decode cX8_ratingOf 2 = .ok (.iconst 0, 1) := by decide +kernel
theorem dX8_ratingOf_3 : decode cX8_ratingOf 3 = .ok (.istore_n 3, 1) := by decide +kernel
theorem dX8_ratingOf_4 : decode cX8_ratingOf 4 = .ok (.iload_n 3, 1) := by decide +kernel
theorem dX8_ratingOf_5 : decode cX8_ratingOf 5 = .ok (.aload_n 0, 1) := by decide +kernel
theorem dX8_ratingOf_6 : decode cX8_ratingOf 6 = .ok (.getfield 113, 3) := by decide +kernel
theorem dX8_ratingOf_9 : decode cX8_ratingOf 9 = .ok (.if_icmp .ge 20, 3) := by decide +kernel
theorem dX8_ratingOf_12 : decode cX8_ratingOf 12 = .ok (.iload_n 2, 1) := by decide +kernel
theorem dX8_ratingOf_13 : decode cX8_ratingOf 13 = .ok (.aload_n 0, 1) := by decide +kernel
theorem dX8_ratingOf_14 : decode cX8_ratingOf 14 = .ok (.getfield 27, 3) := by decide +kernel
theorem dX8_ratingOf_17 : decode cX8_ratingOf 17 = .ok (.iload_n 3, 1) := by decide +kernel
theorem dX8_ratingOf_18 : decode cX8_ratingOf 18 = .ok (.aaload, 1) := by decide +kernel
theorem dX8_ratingOf_19 : decode cX8_ratingOf 19 = .ok (.iload_n 1, 1) := by decide +kernel
theorem dX8_ratingOf_20 : decode cX8_ratingOf 20 = .ok (.iaload, 1) := by decide +kernel
theorem dX8_ratingOf_21 : decode cX8_ratingOf 21 = .ok (.iadd, 1) := by decide +kernel
theorem dX8_ratingOf_22 : decode cX8_ratingOf 22 = .ok (.istore_n 2, 1) := by decide +kernel
theorem dX8_ratingOf_23 : decode cX8_ratingOf 23 = .ok (.iinc 3 1, 3) := by decide +kernel
theorem dX8_ratingOf_26 : decode cX8_ratingOf 26 = .ok (.goto (-22), 3) := by decide +kernel
theorem dX8_ratingOf_29 : decode cX8_ratingOf 29 = .ok (.iload_n 2, 1) := by decide +kernel
theorem dX8_ratingOf_30 : decode cX8_ratingOf 30 = .ok (.i2d, 1) := by decide +kernel
theorem dX8_ratingOf_31 : decode cX8_ratingOf 31 = .ok (.aload_n 0, 1) := by decide +kernel
theorem dX8_ratingOf_32 : decode cX8_ratingOf 32 = .ok (.iload_n 1, 1) := by decide +kernel
theorem dX8_ratingOf_33 : decode cX8_ratingOf 33 = .ok (.invokevirtual 179, 3) := by decide +kernel
theorem dX8_ratingOf_36 : decode cX8_ratingOf 36 = .ok (.i2d, 1) := by decide +kernel
theorem dX8_ratingOf_37 : decode cX8_ratingOf 37 = .ok (.ddiv, 1) := by decide +kernel
theorem dX8_ratingOf_38 : decode cX8_ratingOf 38 = .ok (.dreturn, 1) := by decide +kernel
theorem dX8_hold_0 : decode cX8_hold 0 = .ok (.aload_n 0, 1) := by decide +kernel
theorem dX8_hold_1 : decode cX8_hold 1 = .ok (.iload_n 1, 1) := by decide +kernel
theorem dX8_hold_2 : decode cX8_hold 2 = .ok (.invokevirtual 157, 3) := by decide +kernel
theorem dX8_hold_5 : decode cX8_hold 5 = .ok (.bipush 45, 2) := by decide +kernel
theorem dX8_hold_7 : decode cX8_hold 7 = .ok (.if_icmp .eq 6, 3) := by decide +kernel
theorem dX8_hold_10 : decode cX8_hold 10 = .ok (.bipush 118, 2) := by decide +kernel
theorem dX8_hold_12 : decode cX8_hold 12 = .ok (.ireturn, 1) := by decide +kernel
theorem dX8_hold_13 : decode cX8_hold 13 = .ok (.aload_n 0, 1) := by decide +kernel
theorem dX8_hold_14 : decode cX8_hold 14 = .ok (.getfield 68, 3) := by decide +kernel
theorem dX8_hold_17 : decode cX8_hold 17 = .ok (.iload_n 1, 1) := by decide +kernel
theorem dX8_hold_18 : decode cX8_hold 18 = .ok (.iaload, 1) := by decide +kernel
theorem dX8_hold_19 : decode cX8_hold 19 = .ok (.iconst 3, 1) := by decide +kernel
theorem dX8_hold_20 : decode cX8_hold 20 = .ok (.if_icmp .lt 19, 3) := by decide +kernel
theorem dX8_hold_23 : decode cX8_hold 23 = .ok (.aload_n 0, 1) := by decide +kernel
theorem dX8_hold_24 : decode cX8_hold 24 = .ok (.iload_n 1, 1) := by decide +kernel
theorem dX8_hold_25 : decode cX8_hold 25 = .ok (.invokevirtual 182, 3) := by decide +kernel
theorem dX8_hold_28 : decode cX8_hold 28 = .ok (.aload_n 0, 1) := by decide +kernel
theorem dX8_hold_29 : decode cX8_hold 29 = .ok (.getfield 83, 3) := by decide +kernel
theorem dX8_hold_32 : decode cX8_hold 32 = .ok (.fcmp .l, 1) := by decide +kernel
theorem dX8_hold_33 : decode cX8_hold 33 = .ok (.ifCond .le 6, 3) := by decide +kernel
theorem dX8_hold_36 : decode cX8_hold 36 = .ok (.bipush 99, 2) := by decide +kernel
theorem dX8_hold_38 : decode cX8_hold 38 = .ok (.ireturn, 1) := by decide +kernel
theorem dX8_hold_39 : decode cX8_hold 39 = .ok (.aload_n 0, 1) := by decide +kernel
theorem dX8_hold_40 : decode cX8_hold 40 = .ok (.iload_n 1, 1) := by decide +kernel
theorem dX8_hold_41 : decode cX8_hold 41 = .ok (.invokevirtual 179, 3) := by decide +kernel
theorem dX8_hold_44 : decode cX8_hold 44 = .ok (.iconst 3, 1) := by decide +kernel
theorem dX8_hold_45 : decode cX8_hold 45 = .ok (.if_icmp .lt 20, 3) := by decide +kernel
theorem dX8_hold_48 : decode cX8_hold 48 = .ok (.aload_n 0, 1) := by decide +kernel
theorem dX8_hold_49 : decode cX8_hold 49 = .ok (.iload_n 1, 1) := by decide +kernel
theorem dX8_hold_50 : decode cX8_hold 50 = .ok (.invokevirtual 186, 3) := by decide +kernel
theorem dX8_hold_53 : decode cX8_hold 53 = .ok (.ldc2_w 190, 3) := by decide +kernel
theorem dX8_hold_56 : decode cX8_hold 56 = .ok (.dcmp .g, 1) := by decide +kernel
theorem dX8_hold_57 : decode cX8_hold 57 = .ok (.ifCond .ge 8, 3) := by decide +kernel
theorem dX8_hold_60 : decode cX8_hold 60 = .ok (.bipush 116, 2) := by decide +kernel
theorem dX8_hold_62 : decode cX8_hold 62 = .ok (.goto 5, 3) := by decide +kernel
theorem dX8_hold_65 : decode cX8_hold 65 = .ok (.bipush 45, 2) := by decide +kernel
theorem dX8_hold_67 : decode cX8_hold 67 = .ok (.ireturn, 1) := by decide +kernel
theorem dX8_holdOf_0 : decode cX8_holdOf 0 = .ok (.aload_n 0, 1) := by decide +kernel
theorem dX8_holdOf_1 : decode cX8_holdOf 1 = .ok (.iload_n 1, 1) := by decide +kernel
theorem dX8_holdOf_2 : decode cX8_holdOf 2 = .ok (.invokevirtual 140, 3) := by decide +kernel
theorem dX8_holdOf_5 : decode cX8_holdOf 5 = .ok (.ifCond .eq 6, 3) := by decide +kernel
theorem dX8_holdOf_8 : decode cX8_holdOf 8 = .ok (.bipush 32, 2) := by decide +kernel
theorem dX8_holdOf_10 : decode cX8_holdOf 10 = .ok (.ireturn, 1) := by decide +kernel
theorem dX8_holdOf_11 : decode cX8_holdOf 11 = .ok (.aload_n 0, 1) := by decide +kernel
theorem dX8_holdOf_12 : decode cX8_holdOf 12 = .ok (.aload_n 0, 1) := by decide +kernel
theorem dX8_holdOf_13 : decode cX8_holdOf 13 = .ok (.getfield 51, 3) := by decide +kernel
theorem dX8_holdOf_16 : decode cX8_holdOf 16 = .ok (.iload_n 1, 1) := by decide +kernel
theorem dX8_holdOf_17 : decode cX8_holdOf 17 = .ok (.caload, 1) := by decide +kernel
theorem dX8_holdOf_18 : decode cX8_holdOf 18 = .ok (.bipush 97, 2) := by decide +kernel
theorem dX8_holdOf_20 : decode cX8_holdOf 20 = .ok (.if_icmp .ne 7, 3) := by decide +kernel
theorem dX8_holdOf_23 : decode cX8_holdOf 23 = .ok (.iconst 0, 1) := by decide +kernel
theorem dX8_holdOf_24 : decode cX8_holdOf 24 = .ok (.goto 4, 3) := by decide +kernel
theorem dX8_holdOf_27 : decode cX8_holdOf 27 = .ok (.iconst 2, 1) := by decide +kernel
theorem dX8_holdOf_28 : decode cX8_holdOf 28 = .ok (.putfield 110, 3) := by decide +kernel
theorem dX8_holdOf_31 : decode cX8_holdOf 31 = .ok (.aload_n 0, 1) := by decide +kernel
theorem dX8_holdOf_32 : decode cX8_holdOf 32 = .ok (.getfield 110, 3) := by decide +kernel
theorem dX8_holdOf_35 : decode cX8_holdOf 35 = .ok (.ifCond .le 8, 3) := by decide +kernel
theorem dX8_holdOf_38 : decode cX8_holdOf 38 = .ok (.bipush 32, 2) := by decide +kernel
theorem dX8_holdOf_40 : decode cX8_holdOf 40 = .ok (.goto 8, 3) := by decide +kernel
theorem dX8_holdOf_43 : decode cX8_holdOf 43 = .ok (.aload_n 0, 1) := by decide +kernel
theorem dX8_holdOf_44 : decode cX8_holdOf 44 = .ok (.iload_n 1, 1) := by decide +kernel
theorem dX8_holdOf_45 : decode cX8_holdOf 45 = .ok (.invokevirtual 161, 3) := by decide +kernel
theorem dX8_holdOf_48 : decode cX8_holdOf 48 = .ok (.ireturn, 1) := by decide +kernel
theorem dX8_could_0 : decode cX8_could 0 = .ok (.aload_n 0, 1) := by decide +kernel
theorem dX8_could_1 : decode cX8_could 1 = .ok (.getfield 33, 3) := by decide +kernel
theorem dX8_could_4 : decode cX8_could 4 = .ok (.iload_n 2, 1) := by decide +kernel
theorem dX8_could_5 : decode cX8_could 5 = .ok (.iaload, 1) := by decide +kernel
theorem dX8_could_6 : decode cX8_could 6 = .ok (.aload_n 0, 1) := by decide +kernel
theorem dX8_could_7 : decode cX8_could 7 = .ok (.getfield 9, 3) := by decide +kernel
theorem dX8_could_10 : decode cX8_could 10 = .ok (.iload_n 1, 1) := by decide +kernel
theorem dX8_could_11 : decode cX8_could 11 = .ok (.iaload, 1) := by decide +kernel
theorem dX8_could_12 : decode cX8_could 12 = .ok (.invokestatic 192, 3) := by decide +kernel
theorem dX8_could_15 : decode cX8_could 15 = .ok (.ifCond .eq 25, 3) := by decide +kernel
theorem dX8_could_18 : decode cX8_could 18 = .ok (.aload_n 0, 1) := by decide +kernel
theorem dX8_could_19 : decode cX8_could 19 = .ok (.getfield 36, 3) := by decide +kernel
theorem dX8_could_22 : decode cX8_could 22 = .ok (.iload_n 2, 1) := by decide +kernel
theorem dX8_could_23 : decode cX8_could 23 = .ok (.iaload, 1) := by decide +kernel
theorem dX8_could_24 : decode cX8_could 24 = .ok (.aload_n 0, 1) := by decide +kernel
theorem dX8_could_25 : decode cX8_could 25 = .ok (.getfield 13, 3) := by decide +kernel
theorem dX8_could_28 : decode cX8_could 28 = .ok (.iload_n 1, 1) := by decide +kernel
theorem dX8_could_29 : decode cX8_could 29 = .ok (.iaload, 1) := by decide +kernel
theorem dX8_could_30 : decode cX8_could 30 = .ok (.invokestatic 192, 3) := by decide +kernel
theorem dX8_could_33 : decode cX8_could 33 = .ok (.ifCond .eq 7, 3) := by decide +kernel
theorem dX8_could_36 : decode cX8_could 36 = .ok (.iconst 1, 1) := by decide +kernel
theorem dX8_could_37 : decode cX8_could 37 = .ok (.goto 4, 3) := by decide +kernel
theorem dX8_could_40 : decode cX8_could 40 = .ok (.iconst 0, 1) := by decide +kernel
theorem dX8_could_41 : decode cX8_could 41 = .ok (.istore_n 3, 1) := by decide +kernel
theorem dX8_could_42 : decode cX8_could 42 = .ok (.aload_n 0, 1) := by decide +kernel
theorem dX8_could_43 : decode cX8_could 43 = .ok (.getfield 19, 3) := by decide +kernel
theorem dX8_could_46 : decode cX8_could 46 = .ok (.iload_n 1, 1) := by decide +kernel
theorem dX8_could_47 : decode cX8_could 47 = .ok (.iaload, 1) := by decide +kernel
theorem dX8_could_48 : decode cX8_could 48 = .ok (.iconst (-1), 1) := by decide +kernel
theorem dX8_could_49 : decode cX8_could 49 = .ok (.if_icmp .eq 22, 3) := by decide +kernel
theorem dX8_could_52 : decode cX8_could 52 = .ok (.aload_n 0, 1) := by decide +kernel
theorem dX8_could_53 : decode cX8_could 53 = .ok (.getfield 48, 3) := by decide +kernel
theorem dX8_could_56 : decode cX8_could 56 = .ok (.iload_n 2, 1) := by decide +kernel
theorem dX8_could_57 : decode cX8_could 57 = .ok (.iaload, 1) := by decide +kernel
theorem dX8_could_58 : decode cX8_could 58 = .ok (.aload_n 0, 1) := by decide +kernel
theorem dX8_could_59 : decode cX8_could 59 = .ok (.getfield 19, 3) := by decide +kernel
theorem dX8_could_62 : decode cX8_could 62 = .ok (.iload_n 1, 1) := by decide +kernel
theorem dX8_could_63 : decode cX8_could 63 = .ok (.iaload, 1) := by decide +kernel
theorem dX8_could_64 : decode cX8_could 64 = .ok (.if_icmp .ne 7, 3) := by decide +kernel
theorem dX8_could_67 : decode cX8_could 67 = .ok (.iconst 1, 1) := by decide +kernel
theorem dX8_could_68 : decode cX8_could 68 = .ok (.goto 4, 3) := by decide +kernel
theorem dX8_could_71 : decode cX8_could 71 = .ok (.iconst 0, 1) := by decide +kernel
theorem dX8_could_72 : decode cX8_could 72 = .ok (.istore 4, 2) := by decide +kernel
theorem dX8_could_74 : decode cX8_could 74 = .ok (.aload_n 0, 1) := by decide +kernel
theorem dX8_could_75 : decode cX8_could 75 = .ok (.iload_n 2, 1) := by decide +kernel
theorem dX8_could_76 : decode cX8_could 76 = .ok (.invokevirtual 164, 3) := by decide +kernel
theorem dX8_could_79 : decode cX8_could 79 = .ok (.ifCond .eq 31, 3) := by decide +kernel
theorem dX8_could_82 : decode cX8_could 82 = .ok (.iload_n 3, 1) := by decide +kernel
theorem dX8_could_83 : decode cX8_could 83 = .ok (.ifCond .eq 27, 3) := by decide +kernel
theorem dX8_could_86 : decode cX8_could 86 = .ok (.aload_n 0, 1) := by decide +kernel
theorem dX8_could_87 : decode cX8_could 87 = .ok (.getfield 16, 3) := by decide +kernel
theorem dX8_could_90 : decode cX8_could 90 = .ok (.iload_n 1, 1) := by decide +kernel
theorem dX8_could_91 : decode cX8_could 91 = .ok (.iaload, 1) := by decide +kernel
theorem dX8_could_92 : decode cX8_could 92 = .ok (.aload_n 0, 1) := by decide +kernel
theorem dX8_could_93 : decode cX8_could 93 = .ok (.getfield 62, 3) := by decide +kernel
theorem dX8_could_96 : decode cX8_could 96 = .ok (.iload_n 2, 1) := by decide +kernel
theorem dX8_could_97 : decode cX8_could 97 = .ok (.iaload, 1) := by decide +kernel
theorem dX8_could_98 : decode cX8_could 98 = .ok (.if_icmp .lt 8, 3) := by decide +kernel
theorem dX8_could_101 : decode cX8_could 101 = .ok (.iload 4, 2) := by decide +kernel
theorem dX8_could_103 : decode cX8_could 103 = .ok (.ifCond .eq 7, 3) := by decide +kernel
theorem dX8_could_106 : decode cX8_could 106 = .ok (.iconst 1, 1) := by decide +kernel
theorem dX8_could_107 : decode cX8_could 107 = .ok (.goto 4, 3) := by decide +kernel
theorem dX8_could_110 : decode cX8_could 110 = .ok (.iconst 0, 1) := by decide +kernel
theorem dX8_could_111 : decode cX8_could 111 = .ok (.ireturn, 1) := by decide +kernel
theorem dX8_couldHave_0 : decode cX8_couldHave 0 = .ok (.aload_n 0, 1) := by decide +kernel
theorem dX8_couldHave_1 : decode cX8_couldHave 1 = .ok (.aload_n 0, 1) := by decide +kernel
theorem dX8_couldHave_2 : decode cX8_couldHave 2 = .ok (.iload_n 1, 1) := by decide +kernel
theorem dX8_couldHave_3 : decode cX8_couldHave 3 = .ok (.invokevirtual 127, 3) := by decide +kernel
theorem dX8_couldHave_6 : decode cX8_couldHave 6 = .ok (.ifCond .eq 15, 3) := by decide +kernel
theorem dX8_couldHave_9 : decode cX8_couldHave 9 = .ok (.aload_n 0, 1) := by decide +kernel
theorem dX8_couldHave_10 : decode cX8_couldHave 10 = .ok (.iload_n 2, 1) := by decide +kernel
theorem dX8_couldHave_11 : decode cX8_couldHave 11 = .ok (.invokevirtual 123, 3) := by decide +kernel
theorem dX8_couldHave_14 : decode cX8_couldHave 14 = .ok (.ifCond .eq 7, 3) := by decide +kernel
theorem dX8_couldHave_17 : decode cX8_couldHave 17 = .ok (.iconst 0, 1) := by decide +kernel
theorem dX8_couldHave_18 : decode cX8_couldHave 18 = .ok (.goto 4, 3) := by decide +kernel
theorem dX8_couldHave_21 : decode cX8_couldHave 21 = .ok (.iconst 1, 1) := by decide +kernel
theorem dX8_couldHave_22 : decode cX8_couldHave 22 = .ok (.putfield 110, 3) := by decide +kernel
theorem dX8_couldHave_25 : decode cX8_couldHave 25 = .ok (.aload_n 0, 1) := by decide +kernel
theorem dX8_couldHave_26 : decode cX8_couldHave 26 = .ok (.getfield 110, 3) := by decide +kernel
theorem dX8_couldHave_29 : decode cX8_couldHave 29 = .ok (.ifCond .ne 16, 3) := by decide +kernel
theorem dX8_couldHave_32 : decode cX8_couldHave 32 = .ok (.aload_n 0, 1) := by decide +kernel
theorem dX8_couldHave_33 : decode cX8_couldHave 33 = .ok (.iload_n 1, 1) := by decide +kernel
theorem dX8_couldHave_34 : decode cX8_couldHave 34 = .ok (.iload_n 2, 1) := by decide +kernel
theorem dX8_couldHave_35 : decode cX8_couldHave 35 = .ok (.invokevirtual 195, 3) := by decide +kernel
theorem dX8_couldHave_38 : decode cX8_couldHave 38 = .ok (.ifCond .eq 7, 3) := by decide +kernel
theorem dX8_couldHave_41 : decode cX8_couldHave 41 = .ok (.iconst 1, 1) := by decide +kernel
theorem dX8_couldHave_42 : decode cX8_couldHave 42 = .ok (.goto 4, 3) := by decide +kernel
theorem dX8_couldHave_45 : decode cX8_couldHave 45 = .ok (.iconst 0, 1) := by decide +kernel
theorem dX8_couldHave_46 : decode cX8_couldHave 46 = .ok (.ireturn, 1) := by decide +kernel
theorem dX8_reach_0 : decode cX8_reach 0 = .ok (.aload_n 0, 1) := by decide +kernel
theorem dX8_reach_1 : decode cX8_reach 1 = .ok (.iload_n 1, 1) := by decide +kernel
theorem dX8_reach_2 : decode cX8_reach 2 = .ok (.invokevirtual 140, 3) := by decide +kernel
theorem dX8_reach_5 : decode cX8_reach 5 = .ok (.ifCond .eq 5, 3) := by decide +kernel
theorem dX8_reach_8 : decode cX8_reach 8 = .ok (.iconst 0, 1) := by decide +kernel
theorem dX8_reach_9 : decode cX8_reach 9 = .ok (.ireturn, 1) := by decide +kernel
theorem dX8_reach_10 : decode cX8_reach 10 = .ok (.iconst 0, 1) := by decide +kernel
theorem dX8_reach_11 : decode cX8_reach 11 = .ok (.istore_n 2, 1) := by decide +kernel
theorem dX8_reach_12 : decode cX8_reach 12 = .ok (.iconst 0, 1) := by decide +kernel
theorem dX8_reach_13 : decode cX8_reach 13 = .ok (.istore_n 3, 1) := by decide +kernel
theorem dX8_reach_14 : decode cX8_reach 14 = .ok (.iload_n 3, 1) := by decide +kernel
theorem dX8_reach_15 : decode cX8_reach 15 = .ok (.aload_n 0, 1) := by decide +kernel
theorem dX8_reach_16 : decode cX8_reach 16 = .ok (.getfield 113, 3) := by decide +kernel
theorem dX8_reach_19 : decode cX8_reach 19 = .ok (.if_icmp .ge 26, 3) := by decide +kernel
theorem dX8_reach_22 : decode cX8_reach 22 = .ok (.iload_n 2, 1) := by decide +kernel
theorem dX8_reach_23 : decode cX8_reach 23 = .ok (.aload_n 0, 1) := by decide +kernel
theorem dX8_reach_24 : decode cX8_reach 24 = .ok (.iload_n 3, 1) := by decide +kernel
theorem dX8_reach_25 : decode cX8_reach 25 = .ok (.iload_n 1, 1) := by decide +kernel
theorem dX8_reach_26 : decode cX8_reach 26 = .ok (.invokevirtual 195, 3) := by decide +kernel
theorem dX8_reach_29 : decode cX8_reach 29 = .ok (.ifCond .eq 7, 3) := by decide +kernel
theorem dX8_reach_32 : decode cX8_reach 32 = .ok (.iconst 1, 1) := by decide +kernel
theorem dX8_reach_33 : decode cX8_reach 33 = .ok (.goto 4, 3) := by decide +kernel
theorem dX8_reach_36 : decode cX8_reach 36 = .ok (.iconst 0, 1) := by decide +kernel
theorem dX8_reach_37 : decode cX8_reach 37 = .ok (.iadd, 1) := by decide +kernel
theorem dX8_reach_38 : decode cX8_reach 38 = .ok (.istore_n 2, 1) := by decide +kernel
theorem dX8_reach_39 : decode cX8_reach 39 = .ok (.iinc 3 1, 3) := by decide +kernel
theorem dX8_reach_42 : decode cX8_reach 42 = .ok (.goto (-28), 3) := by decide +kernel
theorem dX8_reach_45 : decode cX8_reach 45 = .ok (.iload_n 2, 1) := by decide +kernel
theorem dX8_reach_46 : decode cX8_reach 46 = .ok (.ireturn, 1) := by decide +kernel
theorem dX8_reachByDevices_0 : decode cX8_reachByDevices 0 = .ok (.aload_n 0, 1) := by decide +kernel
theorem dX8_reachByDevices_1 : decode cX8_reachByDevices 1 = .ok (.iload_n 1, 1) := by decide +kernel
theorem dX8_reachByDevices_2 : decode cX8_reachByDevices 2 = .ok (.invokevirtual 198, 3) := by decide +kernel
theorem dX8_reachByDevices_5 : decode cX8_reachByDevices 5 = .ok (.ireturn, 1) := by decide +kernel
theorem dX8_given_0 : decode cX8_given 0 = .ok (.iconst (-1), 1) := by decide +kernel
theorem dX8_given_1 : decode cX8_given 1 = .ok (.istore_n 2, 1) := by decide +kernel
theorem dX8_given_2 : decode cX8_given 2 = .ok (.iconst 0, 1) := by decide +kernel
