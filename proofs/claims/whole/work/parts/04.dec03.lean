theorem dX8_given_3 : decode cX8_given 3 = .ok (.istore_n 3, 1) := by decide +kernel
theorem dX8_given_4 : decode cX8_given 4 = .ok (.iload_n 3, 1) := by decide +kernel
theorem dX8_given_5 : decode cX8_given 5 = .ok (.aload_n 0, 1) := by decide +kernel
theorem dX8_given_6 : decode cX8_given 6 = .ok (.getfield 120, 3) := by decide +kernel
theorem dX8_given_9 : decode cX8_given 9 = .ok (.if_icmp .ge 138, 3) := by decide +kernel
theorem dX8_given_12 : decode cX8_given 12 = .ok (.aload_n 0, 1) := by decide +kernel
theorem dX8_given_13 : decode cX8_given 13 = .ok (.iload_n 1, 1) := by decide +kernel
theorem dX8_given_14 : decode cX8_given 14 = .ok (.iload_n 3, 1) := by decide +kernel
theorem dX8_given_15 : decode cX8_given 15 = .ok (.invokevirtual 195, 3) := by decide +kernel
theorem dX8_given_18 : decode cX8_given 18 = .ok (.ifCond .eq 123, 3) := by decide +kernel
theorem dX8_given_21 : decode cX8_given 21 = .ok (.aload_n 0, 1) := by decide +kernel
theorem dX8_given_22 : decode cX8_given 22 = .ok (.getfield 19, 3) := by decide +kernel
theorem dX8_given_25 : decode cX8_given 25 = .ok (.iload_n 1, 1) := by decide +kernel
theorem dX8_given_26 : decode cX8_given 26 = .ok (.iaload, 1) := by decide +kernel
theorem dX8_given_27 : decode cX8_given 27 = .ok (.iconst (-1), 1) := by decide +kernel
theorem dX8_given_28 : decode cX8_given 28 = .ok (.if_icmp .eq 23, 3) := by decide +kernel
theorem dX8_given_31 : decode cX8_given 31 = .ok (.aload_n 0, 1) := by decide +kernel
theorem dX8_given_32 : decode cX8_given 32 = .ok (.getfield 30, 3) := by decide +kernel
theorem dX8_given_35 : decode cX8_given 35 = .ok (.iload_n 3, 1) := by decide +kernel
theorem dX8_given_36 : decode cX8_given 36 = .ok (.iaload, 1) := by decide +kernel
theorem dX8_given_37 : decode cX8_given 37 = .ok (.aload_n 0, 1) := by decide +kernel
theorem dX8_given_38 : decode cX8_given 38 = .ok (.getfield 30, 3) := by decide +kernel
theorem dX8_given_41 : decode cX8_given 41 = .ok (.aload_n 0, 1) := by decide +kernel
theorem dX8_given_42 : decode cX8_given 42 = .ok (.getfield 19, 3) := by decide +kernel
theorem dX8_given_45 : decode cX8_given 45 = .ok (.iload_n 1, 1) := by decide +kernel
theorem dX8_given_46 : decode cX8_given 46 = .ok (.iaload, 1) := by decide +kernel
theorem dX8_given_47 : decode cX8_given 47 = .ok (.iaload, 1) := by decide +kernel
theorem dX8_given_48 : decode cX8_given 48 = .ok (.if_icmp .le 93, 3) := by decide +kernel
theorem dX8_given_51 : decode cX8_given 51 = .ok (.aload_n 0, 1) := by decide +kernel
theorem dX8_given_52 : decode cX8_given 52 = .ok (.getfield 48, 3) := by decide +kernel
theorem dX8_given_55 : decode cX8_given 55 = .ok (.iload_n 3, 1) := by decide +kernel
theorem dX8_given_56 : decode cX8_given 56 = .ok (.iaload, 1) := by decide +kernel
theorem dX8_given_57 : decode cX8_given 57 = .ok (.iconst (-1), 1) := by decide +kernel
theorem dX8_given_58 : decode cX8_given 58 = .ok (.if_icmp .eq 7, 3) := by decide +kernel
theorem dX8_given_61 : decode cX8_given 61 = .ok (.iconst 1, 1) := by decide +kernel
theorem dX8_given_62 : decode cX8_given 62 = .ok (.goto 4, 3) := by decide +kernel
theorem dX8_given_65 : decode cX8_given 65 = .ok (.iconst 0, 1) := by decide +kernel
theorem dX8_given_66 : decode cX8_given 66 = .ok (.istore 4, 2) := by decide +kernel
theorem dX8_given_68 : decode cX8_given 68 = .ok (.iload_n 2, 1) := by decide +kernel
theorem dX8_given_69 : decode cX8_given 69 = .ok (.iconst (-1), 1) := by decide +kernel
theorem dX8_given_70 : decode cX8_given 70 = .ok (.if_icmp .eq 53, 3) := by decide +kernel
theorem dX8_given_73 : decode cX8_given 73 = .ok (.iload 4, 2) := by decide +kernel
theorem dX8_given_75 : decode cX8_given 75 = .ok (.ifCond .eq 13, 3) := by decide +kernel
theorem dX8_given_78 : decode cX8_given 78 = .ok (.aload_n 0, 1) := by decide +kernel
theorem dX8_given_79 : decode cX8_given 79 = .ok (.getfield 48, 3) := by decide +kernel
theorem dX8_given_82 : decode cX8_given 82 = .ok (.iload_n 2, 1) := by decide +kernel
theorem dX8_given_83 : decode cX8_given 83 = .ok (.iaload, 1) := by decide +kernel
theorem dX8_given_84 : decode cX8_given 84 = .ok (.iconst (-1), 1) := by decide +kernel
theorem dX8_given_85 : decode cX8_given 85 = .ok (.if_icmp .eq 38, 3) := by decide +kernel
theorem dX8_given_88 : decode cX8_given 88 = .ok (.iload 4, 2) := by decide +kernel
theorem dX8_given_90 : decode cX8_given 90 = .ok (.aload_n 0, 1) := by decide +kernel
theorem dX8_given_91 : decode cX8_given 91 = .ok (.getfield 48, 3) := by decide +kernel
theorem dX8_given_94 : decode cX8_given 94 = .ok (.iload_n 2, 1) := by decide +kernel
theorem dX8_given_95 : decode cX8_given 95 = .ok (.iaload, 1) := by decide +kernel
theorem dX8_given_96 : decode cX8_given 96 = .ok (.iconst (-1), 1) := by decide +kernel
theorem dX8_given_97 : decode cX8_given 97 = .ok (.if_icmp .eq 7, 3) := by decide +kernel
theorem dX8_given_100 : decode cX8_given 100 = .ok (.iconst 1, 1) := by decide +kernel
theorem dX8_given_101 : decode cX8_given 101 = .ok (.goto 4, 3) := by decide +kernel
theorem dX8_given_104 : decode cX8_given 104 = .ok (.iconst 0, 1) := by decide +kernel
theorem dX8_given_105 : decode cX8_given 105 = .ok (.if_icmp .ne 22, 3) := by decide +kernel
theorem dX8_given_108 : decode cX8_given 108 = .ok (.aload_n 0, 1) := by decide +kernel
theorem dX8_given_109 : decode cX8_given 109 = .ok (.getfield 30, 3) := by decide +kernel
theorem dX8_given_112 : decode cX8_given 112 = .ok (.iload_n 3, 1) := by decide +kernel
theorem dX8_given_113 : decode cX8_given 113 = .ok (.iaload, 1) := by decide +kernel
theorem dX8_given_114 : decode cX8_given 114 = .ok (.aload_n 0, 1) := by decide +kernel
theorem dX8_given_115 : decode cX8_given 115 = .ok (.getfield 30, 3) := by decide +kernel
theorem dX8_given_118 : decode cX8_given 118 = .ok (.iload_n 2, 1) := by decide +kernel
theorem dX8_given_119 : decode cX8_given 119 = .ok (.iaload, 1) := by decide +kernel
theorem dX8_given_120 : decode cX8_given 120 = .ok (.if_icmp .le 7, 3) := by decide +kernel
theorem dX8_given_123 : decode cX8_given 123 = .ok (.iconst 1, 1) := by decide +kernel
theorem dX8_given_124 : decode cX8_given 124 = .ok (.goto 4, 3) := by decide +kernel
theorem dX8_given_127 : decode cX8_given 127 = .ok (.iconst 0, 1) := by decide +kernel
theorem dX8_given_128 : decode cX8_given 128 = .ok (.istore 5, 2) := by decide +kernel
theorem dX8_given_130 : decode cX8_given 130 = .ok (.iload 5, 2) := by decide +kernel
theorem dX8_given_132 : decode cX8_given 132 = .ok (.ifCond .eq 7, 3) := by decide +kernel
theorem dX8_given_135 : decode cX8_given 135 = .ok (.iload_n 3, 1) := by decide +kernel
theorem dX8_given_136 : decode cX8_given 136 = .ok (.goto 4, 3) := by decide +kernel
theorem dX8_given_139 : decode cX8_given 139 = .ok (.iload_n 2, 1) := by decide +kernel
theorem dX8_given_140 : decode cX8_given 140 = .ok (.istore_n 2, 1) := by decide +kernel
theorem dX8_given_141 : decode cX8_given 141 = .ok (.iinc 3 1, 3) := by decide +kernel
theorem dX8_given_144 : decode cX8_given 144 = .ok (.goto (-140), 3) := by decide +kernel
theorem dX8_given_147 : decode cX8_given 147 = .ok (.iload_n 2, 1) := by decide +kernel
theorem dX8_given_148 : decode cX8_given 148 = .ok (.ireturn, 1) := by decide +kernel
theorem dX8_offered_0 : decode cX8_offered 0 = .ok (.aload_n 0, 1) := by decide +kernel
theorem dX8_offered_1 : decode cX8_offered 1 = .ok (.iload_n 1, 1) := by decide +kernel
theorem dX8_offered_2 : decode cX8_offered 2 = .ok (.invokevirtual 201, 3) := by decide +kernel
theorem dX8_offered_5 : decode cX8_offered 5 = .ok (.ifCond .eq 5, 3) := by decide +kernel
theorem dX8_offered_8 : decode cX8_offered 8 = .ok (.iconst 0, 1) := by decide +kernel
theorem dX8_offered_9 : decode cX8_offered 9 = .ok (.ireturn, 1) := by decide +kernel
theorem dX8_offered_10 : decode cX8_offered 10 = .ok (.aload_n 0, 1) := by decide +kernel
theorem dX8_offered_11 : decode cX8_offered 11 = .ok (.iload_n 1, 1) := by decide +kernel
theorem dX8_offered_12 : decode cX8_offered 12 = .ok (.invokevirtual 204, 3) := by decide +kernel
theorem dX8_offered_15 : decode cX8_offered 15 = .ok (.istore_n 2, 1) := by decide +kernel
theorem dX8_offered_16 : decode cX8_offered 16 = .ok (.aload_n 0, 1) := by decide +kernel
theorem dX8_offered_17 : decode cX8_offered 17 = .ok (.iload_n 2, 1) := by decide +kernel
theorem dX8_offered_18 : decode cX8_offered 18 = .ok (.iconst (-1), 1) := by decide +kernel
theorem dX8_offered_19 : decode cX8_offered 19 = .ok (.if_icmp .ne 7, 3) := by decide +kernel
theorem dX8_offered_22 : decode cX8_offered 22 = .ok (.iconst 2, 1) := by decide +kernel
theorem dX8_offered_23 : decode cX8_offered 23 = .ok (.goto 4, 3) := by decide +kernel
theorem dX8_offered_26 : decode cX8_offered 26 = .ok (.iconst 0, 1) := by decide +kernel
theorem dX8_offered_27 : decode cX8_offered 27 = .ok (.putfield 110, 3) := by decide +kernel
theorem dX8_offered_30 : decode cX8_offered 30 = .ok (.aload_n 0, 1) := by decide +kernel
theorem dX8_offered_31 : decode cX8_offered 31 = .ok (.getfield 110, 3) := by decide +kernel
theorem dX8_offered_34 : decode cX8_offered 34 = .ok (.ifCond .le 7, 3) := by decide +kernel
theorem dX8_offered_37 : decode cX8_offered 37 = .ok (.iconst 0, 1) := by decide +kernel
theorem dX8_offered_38 : decode cX8_offered 38 = .ok (.goto 4, 3) := by decide +kernel
theorem dX8_offered_41 : decode cX8_offered 41 = .ok (.iload_n 2, 1) := by decide +kernel
theorem dX8_offered_42 : decode cX8_offered 42 = .ok (.ireturn, 1) := by decide +kernel
theorem dX8_update_0 : decode cX8_update 0 = .ok (.aload_n 0, 1) := by decide +kernel
theorem dX8_update_1 : decode cX8_update 1 = .ok (.iload_n 1, 1) := by decide +kernel
theorem dX8_update_2 : decode cX8_update 2 = .ok (.invokevirtual 201, 3) := by decide +kernel
theorem dX8_update_5 : decode cX8_update 5 = .ok (.ifCond .eq 5, 3) := by decide +kernel
theorem dX8_update_8 : decode cX8_update 8 = .ok (.iconst 0, 1) := by decide +kernel
theorem dX8_update_9 : decode cX8_update 9 = .ok (.ireturn, 1) := by decide +kernel
theorem dX8_update_10 : decode cX8_update 10 = .ok (.aload_n 0, 1) := by decide +kernel
theorem dX8_update_11 : decode cX8_update 11 = .ok (.iload_n 1, 1) := by decide +kernel
theorem dX8_update_12 : decode cX8_update 12 = .ok (.invokevirtual 204, 3) := by decide +kernel
theorem dX8_update_15 : decode cX8_update 15 = .ok (.istore_n 2, 1) := by decide +kernel
theorem dX8_update_16 : decode cX8_update 16 = .ok (.aload_n 0, 1) := by decide +kernel
theorem dX8_update_17 : decode cX8_update 17 = .ok (.iload_n 2, 1) := by decide +kernel
theorem dX8_update_18 : decode cX8_update 18 = .ok (.iconst (-1), 1) := by decide +kernel
theorem dX8_update_19 : decode cX8_update 19 = .ok (.if_icmp .ne 7, 3) := by decide +kernel
theorem dX8_update_22 : decode cX8_update 22 = .ok (.iconst 2, 1) := by decide +kernel
theorem dX8_update_23 : decode cX8_update 23 = .ok (.goto 4, 3) := by decide +kernel
theorem dX8_update_26 : decode cX8_update 26 = .ok (.iconst 0, 1) := by decide +kernel
theorem dX8_update_27 : decode cX8_update 27 = .ok (.putfield 110, 3) := by decide +kernel
theorem dX8_update_30 : decode cX8_update 30 = .ok (.aload_n 0, 1) := by decide +kernel
theorem dX8_update_31 : decode cX8_update 31 = .ok (.getfield 110, 3) := by decide +kernel
theorem dX8_update_34 : decode cX8_update 34 = .ok (.ifCond .le 5, 3) := by decide +kernel
theorem dX8_update_37 : decode cX8_update 37 = .ok (.iconst 0, 1) := by decide +kernel
theorem dX8_update_38 : decode cX8_update 38 = .ok (.ireturn, 1) := by decide +kernel
theorem dX8_update_39 : decode cX8_update 39 = .ok (.aload_n 0, 1) := by decide +kernel
theorem dX8_update_40 : decode cX8_update 40 = .ok (.getfield 19, 3) := by decide +kernel
theorem dX8_update_43 : decode cX8_update 43 = .ok (.iload_n 1, 1) := by decide +kernel
theorem dX8_update_44 : decode cX8_update 44 = .ok (.iload_n 2, 1) := by decide +kernel
theorem dX8_update_45 : decode cX8_update 45 = .ok (.iastore, 1) := by decide +kernel
theorem dX8_update_46 : decode cX8_update 46 = .ok (.aload_n 0, 1) := by decide +kernel
theorem dX8_update_47 : decode cX8_update 47 = .ok (.getfield 68, 3) := by decide +kernel
theorem dX8_update_50 : decode cX8_update 50 = .ok (.iload_n 2, 1) := by decide +kernel
theorem dX8_update_51 : decode cX8_update 51 = .ok (.dup2, 1) := by decide +kernel
theorem dX8_update_52 : decode cX8_update 52 = .ok (.iaload, 1) := by decide +kernel
theorem dX8_update_53 : decode cX8_update 53 = .ok (.iconst 1, 1) := by decide +kernel
theorem dX8_update_54 : decode cX8_update 54 = .ok (.iadd, 1) := by decide +kernel
theorem dX8_update_55 : decode cX8_update 55 = .ok (.iastore, 1) := by decide +kernel
theorem dX8_update_56 : decode cX8_update 56 = .ok (.iload_n 2, 1) := by decide +kernel
theorem dX8_update_57 : decode cX8_update 57 = .ok (.ireturn, 1) := by decide +kernel
theorem dX8_buildOf_0 : decode cX8_buildOf 0 = .ok (.aload_n 0, 1) := by decide +kernel
theorem dX8_buildOf_1 : decode cX8_buildOf 1 = .ok (.iload_n 1, 1) := by decide +kernel
theorem dX8_buildOf_2 : decode cX8_buildOf 2 = .ok (.invokevirtual 201, 3) := by decide +kernel
theorem dX8_buildOf_5 : decode cX8_buildOf 5 = .ok (.ifCond .eq 5, 3) := by decide +kernel
theorem dX8_buildOf_8 : decode cX8_buildOf 8 = .ok (.iconst 0, 1) := by decide +kernel
theorem dX8_buildOf_9 : decode cX8_buildOf 9 = .ok (.ireturn, 1) := by decide +kernel
theorem dX8_buildOf_10 : decode cX8_buildOf 10 = .ok (.aload_n 0, 1) := by decide +kernel
theorem dX8_buildOf_11 : decode cX8_buildOf 11 = .ok (.aload_n 0, 1) := by decide +kernel
theorem dX8_buildOf_12 : decode cX8_buildOf 12 = .ok (.getfield 19, 3) := by decide +kernel
theorem dX8_buildOf_15 : decode cX8_buildOf 15 = .ok (.iload_n 1, 1) := by decide +kernel
theorem dX8_buildOf_16 : decode cX8_buildOf 16 = .ok (.iaload, 1) := by decide +kernel
theorem dX8_buildOf_17 : decode cX8_buildOf 17 = .ok (.iconst (-1), 1) := by decide +kernel
theorem dX8_buildOf_18 : decode cX8_buildOf 18 = .ok (.if_icmp .ne 7, 3) := by decide +kernel
theorem dX8_buildOf_21 : decode cX8_buildOf 21 = .ok (.iconst 2, 1) := by decide +kernel
theorem dX8_buildOf_22 : decode cX8_buildOf 22 = .ok (.goto 4, 3) := by decide +kernel
theorem dX8_buildOf_25 : decode cX8_buildOf 25 = .ok (.iconst 0, 1) := by decide +kernel
theorem dX8_buildOf_26 : decode cX8_buildOf 26 = .ok (.putfield 110, 3) := by decide +kernel
theorem dX8_buildOf_29 : decode cX8_buildOf 29 = .ok (.aload_n 0, 1) := by decide +kernel
theorem dX8_buildOf_30 : decode cX8_buildOf 30 = .ok (.getfield 110, 3) := by decide +kernel
theorem dX8_buildOf_33 : decode cX8_buildOf 33 = .ok (.ifCond .le 7, 3) := by decide +kernel
theorem dX8_buildOf_36 : decode cX8_buildOf 36 = .ok (.iconst 0, 1) := by decide +kernel
theorem dX8_buildOf_37 : decode cX8_buildOf 37 = .ok (.goto 9, 3) := by decide +kernel
theorem dX8_buildOf_40 : decode cX8_buildOf 40 = .ok (.aload_n 0, 1) := by decide +kernel
theorem dX8_buildOf_41 : decode cX8_buildOf 41 = .ok (.getfield 19, 3) := by decide +kernel
theorem dX8_buildOf_44 : decode cX8_buildOf 44 = .ok (.iload_n 1, 1) := by decide +kernel
theorem dX8_buildOf_45 : decode cX8_buildOf 45 = .ok (.iaload, 1) := by decide +kernel
theorem dX8_buildOf_46 : decode cX8_buildOf 46 = .ok (.ireturn, 1) := by decide +kernel
theorem dX8_devicesWith_0 : decode cX8_devicesWith 0 = .ok (.aload_n 0, 1) := by decide +kernel
theorem dX8_devicesWith_1 : decode cX8_devicesWith 1 = .ok (.iload_n 1, 1) := by decide +kernel
theorem dX8_devicesWith_2 : decode cX8_devicesWith 2 = .ok (.invokevirtual 140, 3) := by decide +kernel
theorem dX8_devicesWith_5 : decode cX8_devicesWith 5 = .ok (.ifCond .eq 5, 3) := by decide +kernel
theorem dX8_devicesWith_8 : decode cX8_devicesWith 8 = .ok (.iconst 0, 1) := by decide +kernel
theorem dX8_devicesWith_9 : decode cX8_devicesWith 9 = .ok (.ireturn, 1) := by decide +kernel
theorem dX8_devicesWith_10 : decode cX8_devicesWith 10 = .ok (.iconst 0, 1) := by decide +kernel
theorem dX8_devicesWith_11 : decode cX8_devicesWith 11 = .ok (.istore_n 2, 1) := by decide +kernel
theorem dX8_devicesWith_12 : decode cX8_devicesWith 12 = .ok (.iconst 0, 1) := by decide +kernel
theorem dX8_devicesWith_13 : decode cX8_devicesWith 13 = .ok (.istore_n 3, 1) := by decide +kernel
theorem dX8_devicesWith_14 : decode cX8_devicesWith 14 = .ok (.iload_n 3, 1) := by decide +kernel
theorem dX8_devicesWith_15 : decode cX8_devicesWith 15 = .ok (.aload_n 0, 1) := by decide +kernel
theorem dX8_devicesWith_16 : decode cX8_devicesWith 16 = .ok (.getfield 113, 3) := by decide +kernel
theorem dX8_devicesWith_19 : decode cX8_devicesWith 19 = .ok (.if_icmp .ge 27, 3) := by decide +kernel
theorem dX8_devicesWith_22 : decode cX8_devicesWith 22 = .ok (.iload_n 2, 1) := by decide +kernel
theorem dX8_devicesWith_23 : decode cX8_devicesWith 23 = .ok (.aload_n 0, 1) := by decide +kernel
theorem dX8_devicesWith_24 : decode cX8_devicesWith 24 = .ok (.getfield 19, 3) := by decide +kernel
theorem dX8_devicesWith_27 : decode cX8_devicesWith 27 = .ok (.iload_n 3, 1) := by decide +kernel
theorem dX8_devicesWith_28 : decode cX8_devicesWith 28 = .ok (.iaload, 1) := by decide +kernel
theorem dX8_devicesWith_29 : decode cX8_devicesWith 29 = .ok (.iload_n 1, 1) := by decide +kernel
theorem dX8_devicesWith_30 : decode cX8_devicesWith 30 = .ok (.if_icmp .ne 7, 3) := by decide +kernel
theorem dX8_devicesWith_33 : decode cX8_devicesWith 33 = .ok (.iconst 1, 1) := by decide +kernel
theorem dX8_devicesWith_34 : decode cX8_devicesWith 34 = .ok (.goto 4, 3) := by decide +kernel
theorem dX8_devicesWith_37 : decode cX8_devicesWith 37 = .ok (.iconst 0, 1) := by decide +kernel
theorem dX8_devicesWith_38 : decode cX8_devicesWith 38 = .ok (.iadd, 1) := by decide +kernel
theorem dX8_devicesWith_39 : decode cX8_devicesWith 39 = .ok (.istore_n 2, 1) := by decide +kernel
theorem dX8_devicesWith_40 : decode cX8_devicesWith 40 = .ok (.iinc 3 1, 3) := by decide +kernel
theorem dX8_devicesWith_43 : decode cX8_devicesWith 43 = .ok (.goto (-29), 3) := by decide +kernel
theorem dX8_devicesWith_46 : decode cX8_devicesWith 46 = .ok (.iload_n 2, 1) := by decide +kernel
theorem dX8_devicesWith_47 : decode cX8_devicesWith 47 = .ok (.ireturn, 1) := by decide +kernel
theorem dX8_installs_0 : decode cX8_installs 0 = .ok (.aload_n 0, 1) := by decide +kernel
theorem dX8_installs_1 : decode cX8_installs 1 = .ok (.iload_n 1, 1) := by decide +kernel
theorem dX8_installs_2 : decode cX8_installs 2 = .ok (.invokevirtual 140, 3) := by decide +kernel
theorem dX8_installs_5 : decode cX8_installs 5 = .ok (.ifCond .eq 7, 3) := by decide +kernel
theorem dX8_installs_8 : decode cX8_installs 8 = .ok (.iconst 0, 1) := by decide +kernel
theorem dX8_installs_9 : decode cX8_installs 9 = .ok (.goto 9, 3) := by decide +kernel
theorem dX8_installs_12 : decode cX8_installs 12 = .ok (.aload_n 0, 1) := by decide +kernel
theorem dX8_installs_13 : decode cX8_installs 13 = .ok (.getfield 68, 3) := by decide +kernel
theorem dX8_installs_16 : decode cX8_installs 16 = .ok (.iload_n 1, 1) := by decide +kernel
theorem dX8_installs_17 : decode cX8_installs 17 = .ok (.iaload, 1) := by decide +kernel
theorem dX8_installs_18 : decode cX8_installs 18 = .ok (.ireturn, 1) := by decide +kernel
theorem dX8_type_0 : decode cX8_type 0 = .ok (.aload_n 0, 1) := by decide +kernel
theorem dX8_type_1 : decode cX8_type 1 = .ok (.iload_n 1, 1) := by decide +kernel
theorem dX8_type_2 : decode cX8_type 2 = .ok (.bipush 97, 2) := by decide +kernel
theorem dX8_type_4 : decode cX8_type 4 = .ok (.bipush 122, 2) := by decide +kernel
theorem dX8_type_6 : decode cX8_type 6 = .ok (.invokestatic 116, 3) := by decide +kernel
theorem dX8_type_9 : decode cX8_type 9 = .ok (.ifCond .ne 7, 3) := by decide +kernel
theorem dX8_type_12 : decode cX8_type 12 = .ok (.iconst 1, 1) := by decide +kernel
theorem dX8_type_13 : decode cX8_type 13 = .ok (.goto 17, 3) := by decide +kernel
theorem dX8_type_16 : decode cX8_type 16 = .ok (.aload_n 0, 1) := by decide +kernel
theorem dX8_type_17 : decode cX8_type 17 = .ok (.getfield 207, 3) := by decide +kernel
theorem dX8_type_20 : decode cX8_type 20 = .ok (.bipush 6, 2) := by decide +kernel
theorem dX8_type_22 : decode cX8_type 22 = .ok (.if_icmp .ne 7, 3) := by decide +kernel
theorem dX8_type_25 : decode cX8_type 25 = .ok (.iconst 2, 1) := by decide +kernel
theorem dX8_type_26 : decode cX8_type 26 = .ok (.goto 4, 3) := by decide +kernel
theorem dX8_type_29 : decode cX8_type 29 = .ok (.iconst 0, 1) := by decide +kernel
theorem dX8_type_30 : decode cX8_type 30 = .ok (.putfield 110, 3) := by decide +kernel
theorem dX8_type_33 : decode cX8_type 33 = .ok (.aload_n 0, 1) := by decide +kernel
theorem dX8_type_34 : decode cX8_type 34 = .ok (.getfield 110, 3) := by decide +kernel
theorem dX8_type_37 : decode cX8_type 37 = .ok (.ifCond .le 5, 3) := by decide +kernel
theorem dX8_type_40 : decode cX8_type 40 = .ok (.iconst 0, 1) := by decide +kernel
theorem dX8_type_41 : decode cX8_type 41 = .ok (.ireturn, 1) := by decide +kernel
theorem dX8_type_42 : decode cX8_type 42 = .ok (.aload_n 0, 1) := by decide +kernel
theorem dX8_type_43 : decode cX8_type 43 = .ok (.getfield 100, 3) := by decide +kernel
theorem dX8_type_46 : decode cX8_type 46 = .ok (.aload_n 0, 1) := by decide +kernel
theorem dX8_type_47 : decode cX8_type 47 = .ok (.getfield 207, 3) := by decide +kernel
theorem dX8_type_50 : decode cX8_type 50 = .ok (.iload_n 1, 1) := by decide +kernel
theorem dX8_type_51 : decode cX8_type 51 = .ok (.castore, 1) := by decide +kernel
theorem dX8_type_52 : decode cX8_type 52 = .ok (.aload_n 0, 1) := by decide +kernel
theorem dX8_type_53 : decode cX8_type 53 = .ok (.dup, 1) := by decide +kernel
theorem dX8_type_54 : decode cX8_type 54 = .ok (.getfield 207, 3) := by decide +kernel
theorem dX8_type_57 : decode cX8_type 57 = .ok (.iconst 1, 1) := by decide +kernel
theorem dX8_type_58 : decode cX8_type 58 = .ok (.iadd, 1) := by decide +kernel
theorem dX8_type_59 : decode cX8_type 59 = .ok (.putfield 207, 3) := by decide +kernel
theorem dX8_type_62 : decode cX8_type 62 = .ok (.aload_n 0, 1) := by decide +kernel
theorem dX8_type_63 : decode cX8_type 63 = .ok (.getfield 207, 3) := by decide +kernel
theorem dX8_type_66 : decode cX8_type 66 = .ok (.ireturn, 1) := by decide +kernel
theorem dX8_alike_0 : decode cX8_alike 0 = .ok (.iconst 0, 1) := by decide +kernel
theorem dX8_alike_1 : decode cX8_alike 1 = .ok (.istore 4, 2) := by decide +kernel
theorem dX8_alike_3 : decode cX8_alike 3 = .ok (.iload 4, 2) := by decide +kernel
theorem dX8_alike_5 : decode cX8_alike 5 = .ok (.iload_n 1, 1) := by decide +kernel
theorem dX8_alike_6 : decode cX8_alike 6 = .ok (.if_icmp .ge 26, 3) := by decide +kernel
theorem dX8_alike_9 : decode cX8_alike 9 = .ok (.iload 4, 2) := by decide +kernel
theorem dX8_alike_11 : decode cX8_alike 11 = .ok (.iload_n 3, 1) := by decide +kernel
theorem dX8_alike_12 : decode cX8_alike 12 = .ok (.if_icmp .ge 20, 3) := by decide +kernel
theorem dX8_alike_15 : decode cX8_alike 15 = .ok (.aload_n 0, 1) := by decide +kernel
theorem dX8_alike_16 : decode cX8_alike 16 = .ok (.iload 4, 2) := by decide +kernel
theorem dX8_alike_18 : decode cX8_alike 18 = .ok (.caload, 1) := by decide +kernel
theorem dX8_alike_19 : decode cX8_alike 19 = .ok (.aload_n 2, 1) := by decide +kernel
theorem dX8_alike_20 : decode cX8_alike 20 = .ok (.iload 4, 2) := by decide +kernel
theorem dX8_alike_22 : decode cX8_alike 22 = .ok (.caload, 1) := by decide +kernel
theorem dX8_alike_23 : decode cX8_alike 23 = .ok (.if_icmp .ne 9, 3) := by decide +kernel
theorem dX8_alike_26 : decode cX8_alike 26 = .ok (.iinc 4 1, 3) := by decide +kernel
theorem dX8_alike_29 : decode cX8_alike 29 = .ok (.goto (-26), 3) := by decide +kernel
theorem dX8_alike_32 : decode cX8_alike 32 = .ok (.iload 4, 2) := by decide +kernel
theorem dX8_alike_34 : decode cX8_alike 34 = .ok (.i2f, 1) := by decide +kernel
theorem dX8_alike_35 : decode cX8_alike 35 = .ok (.iload_n 1, 1) := by decide +kernel
theorem dX8_alike_36 : decode cX8_alike 36 = .ok (.iload_n 3, 1) := by decide +kernel
theorem dX8_alike_37 : decode cX8_alike 37 = .ok (.invokestatic 210, 3) := by decide +kernel
theorem dX8_alike_40 : decode cX8_alike 40 = .ok (.i2f, 1) := by decide +kernel
theorem dX8_alike_41 : decode cX8_alike 41 = .ok (.fdiv, 1) := by decide +kernel
theorem dX8_alike_42 : decode cX8_alike 42 = .ok (.freturn, 1) := by decide +kernel
theorem dX8_groupFor_0 : decode cX8_groupFor 0 = .ok (.iconst (-1), 1) := by decide +kernel
theorem dX8_groupFor_1 : decode cX8_groupFor 1 = .ok (.istore_n 1, 1) := by decide +kernel
theorem dX8_groupFor_2 : decode cX8_groupFor 2 = .ok (.fconst 0, 1) := by decide +kernel
theorem dX8_groupFor_3 : decode cX8_groupFor 3 = .ok (.fstore_n 2, 1) := by decide +kernel
theorem dX8_groupFor_4 : decode cX8_groupFor 4 = .ok (.iconst 0, 1) := by decide +kernel
theorem dX8_groupFor_5 : decode cX8_groupFor 5 = .ok (.istore_n 3, 1) := by decide +kernel
theorem dX8_groupFor_6 : decode cX8_groupFor 6 = .ok (.iload_n 3, 1) := by decide +kernel
theorem dX8_groupFor_7 : decode cX8_groupFor 7 = .ok (.aload_n 0, 1) := by decide +kernel
theorem dX8_groupFor_8 : decode cX8_groupFor 8 = .ok (.getfield 130, 3) := by decide +kernel
theorem dX8_groupFor_11 : decode cX8_groupFor 11 = .ok (.if_icmp .ge 51, 3) := by decide +kernel
theorem dX8_groupFor_14 : decode cX8_groupFor 14 = .ok (.aload_n 0, 1) := by decide +kernel
theorem dX8_groupFor_15 : decode cX8_groupFor 15 = .ok (.getfield 88, 3) := by decide +kernel
theorem dX8_groupFor_18 : decode cX8_groupFor 18 = .ok (.iload_n 3, 1) := by decide +kernel
theorem dX8_groupFor_19 : decode cX8_groupFor 19 = .ok (.aaload, 1) := by decide +kernel
theorem dX8_groupFor_20 : decode cX8_groupFor 20 = .ok (.aload_n 0, 1) := by decide +kernel
theorem dX8_groupFor_21 : decode cX8_groupFor 21 = .ok (.getfield 91, 3) := by decide +kernel
theorem dX8_groupFor_24 : decode cX8_groupFor 24 = .ok (.iload_n 3, 1) := by decide +kernel
theorem dX8_groupFor_25 : decode cX8_groupFor 25 = .ok (.iaload, 1) := by decide +kernel
theorem dX8_groupFor_26 : decode cX8_groupFor 26 = .ok (.aload_n 0, 1) := by decide +kernel
theorem dX8_groupFor_27 : decode cX8_groupFor 27 = .ok (.getfield 100, 3) := by decide +kernel
theorem dX8_groupFor_30 : decode cX8_groupFor 30 = .ok (.aload_n 0, 1) := by decide +kernel
theorem dX8_groupFor_31 : decode cX8_groupFor 31 = .ok (.getfield 207, 3) := by decide +kernel
theorem dX8_groupFor_34 : decode cX8_groupFor 34 = .ok (.invokestatic 213, 3) := by decide +kernel
theorem dX8_groupFor_37 : decode cX8_groupFor 37 = .ok (.fstore 4, 2) := by decide +kernel
theorem dX8_groupFor_39 : decode cX8_groupFor 39 = .ok (.iload_n 1, 1) := by decide +kernel
theorem dX8_groupFor_40 : decode cX8_groupFor 40 = .ok (.iconst (-1), 1) := by decide +kernel
theorem dX8_groupFor_41 : decode cX8_groupFor 41 = .ok (.if_icmp .eq 10, 3) := by decide +kernel
theorem dX8_groupFor_44 : decode cX8_groupFor 44 = .ok (.fload 4, 2) := by decide +kernel
theorem dX8_groupFor_46 : decode cX8_groupFor 46 = .ok (.fload_n 2, 1) := by decide +kernel
theorem dX8_groupFor_47 : decode cX8_groupFor 47 = .ok (.fcmp .l, 1) := by decide +kernel
theorem dX8_groupFor_48 : decode cX8_groupFor 48 = .ok (.ifCond .le 8, 3) := by decide +kernel
theorem dX8_groupFor_51 : decode cX8_groupFor 51 = .ok (.iload_n 3, 1) := by decide +kernel
theorem dX8_groupFor_52 : decode cX8_groupFor 52 = .ok (.istore_n 1, 1) := by decide +kernel
theorem dX8_groupFor_53 : decode cX8_groupFor 53 = .ok (.fload 4, 2) := by decide +kernel
theorem dX8_groupFor_55 : decode cX8_groupFor 55 = .ok (.fstore_n 2, 1) := by decide +kernel
theorem dX8_groupFor_56 : decode cX8_groupFor 56 = .ok (.iinc 3 1, 3) := by decide +kernel
theorem dX8_groupFor_59 : decode cX8_groupFor 59 = .ok (.goto (-53), 3) := by decide +kernel
theorem dX8_groupFor_62 : decode cX8_groupFor 62 = .ok (.iload_n 1, 1) := by decide +kernel
theorem dX8_groupFor_63 : decode cX8_groupFor 63 = .ok (.iconst (-1), 1) := by decide +kernel
theorem dX8_groupFor_64 : decode cX8_groupFor 64 = .ok (.if_icmp .eq 16, 3) := by decide +kernel
theorem dX8_groupFor_67 : decode cX8_groupFor 67 = .ok (.fload_n 2, 1) := by decide +kernel
theorem dX8_groupFor_68 : decode cX8_groupFor 68 = .ok (.aload_n 0, 1) := by decide +kernel
theorem dX8_groupFor_69 : decode cX8_groupFor 69 = .ok (.getfield 79, 3) := by decide +kernel
theorem dX8_groupFor_72 : decode cX8_groupFor 72 = .ok (.fcmp .l, 1) := by decide +kernel
theorem dX8_groupFor_73 : decode cX8_groupFor 73 = .ok (.ifCond .lt 7, 3) := by decide +kernel
theorem dX8_groupFor_76 : decode cX8_groupFor 76 = .ok (.iload_n 1, 1) := by decide +kernel
theorem dX8_groupFor_77 : decode cX8_groupFor 77 = .ok (.goto 7, 3) := by decide +kernel
theorem dX8_groupFor_80 : decode cX8_groupFor 80 = .ok (.aload_n 0, 1) := by decide +kernel
theorem dX8_groupFor_81 : decode cX8_groupFor 81 = .ok (.getfield 130, 3) := by decide +kernel
theorem dX8_groupFor_84 : decode cX8_groupFor 84 = .ok (.ireturn, 1) := by decide +kernel
theorem dX8_crash_0 : decode cX8_crash 0 = .ok (.aload_n 0, 1) := by decide +kernel
theorem dX8_crash_1 : decode cX8_crash 1 = .ok (.getfield 207, 3) := by decide +kernel
theorem dX8_crash_4 : decode cX8_crash 4 = .ok (.ifCond .ne 7, 3) := by decide +kernel
theorem dX8_crash_7 : decode cX8_crash 7 = .ok (.iconst 1, 1) := by decide +kernel
theorem dX8_crash_8 : decode cX8_crash 8 = .ok (.goto 4, 3) := by decide +kernel
theorem dX8_crash_11 : decode cX8_crash 11 = .ok (.iconst 0, 1) := by decide +kernel
theorem dX8_crash_12 : decode cX8_crash 12 = .ok (.istore_n 2, 1) := by decide +kernel
theorem dX8_crash_13 : decode cX8_crash 13 = .ok (.iload_n 2, 1) := by decide +kernel
theorem dX8_crash_14 : decode cX8_crash 14 = .ok (.ifCond .eq 7, 3) := by decide +kernel
theorem dX8_crash_17 : decode cX8_crash 17 = .ok (.iconst (-1), 1) := by decide +kernel
theorem dX8_crash_18 : decode cX8_crash 18 = .ok (.goto 7, 3) := by decide +kernel
theorem dX8_crash_21 : decode cX8_crash 21 = .ok (.aload_n 0, 1) := by decide +kernel
theorem dX8_crash_22 : decode cX8_crash 22 = .ok (.invokevirtual 217, 3) := by decide +kernel
theorem dX8_crash_25 : decode cX8_crash 25 = .ok (.istore_n 3, 1) := by decide +kernel
theorem dX8_crash_26 : decode cX8_crash 26 = .ok (.aload_n 0, 1) := by decide +kernel
theorem dX8_crash_27 : decode cX8_crash 27 = .ok (.getfield 207, 3) := by decide +kernel
theorem dX8_crash_30 : decode cX8_crash 30 = .ok (.istore 4, 2) := by decide +kernel
theorem dX8_crash_32 : decode cX8_crash 32 = .ok (.aload_n 0, 1) := by decide +kernel
theorem dX8_crash_33 : decode cX8_crash 33 = .ok (.iconst 0, 1) := by decide +kernel
theorem dX8_crash_34 : decode cX8_crash 34 = .ok (.putfield 207, 3) := by decide +kernel
theorem dX8_crash_37 : decode cX8_crash 37 = .ok (.aload_n 0, 1) := by decide +kernel
theorem dX8_crash_38 : decode cX8_crash 38 = .ok (.iload_n 1, 1) := by decide +kernel
theorem dX8_crash_39 : decode cX8_crash 39 = .ok (.invokevirtual 201, 3) := by decide +kernel
theorem dX8_crash_42 : decode cX8_crash 42 = .ok (.ifCond .eq 5, 3) := by decide +kernel
theorem dX8_crash_45 : decode cX8_crash 45 = .ok (.iconst 0, 1) := by decide +kernel
theorem dX8_crash_46 : decode cX8_crash 46 = .ok (.ireturn, 1) := by decide +kernel
theorem dX8_crash_47 : decode cX8_crash 47 = .ok (.aload_n 0, 1) := by decide +kernel
theorem dX8_crash_48 : decode cX8_crash 48 = .ok (.aload_n 0, 1) := by decide +kernel
theorem dX8_crash_49 : decode cX8_crash 49 = .ok (.getfield 19, 3) := by decide +kernel
theorem dX8_crash_52 : decode cX8_crash 52 = .ok (.iload_n 1, 1) := by decide +kernel
theorem dX8_crash_53 : decode cX8_crash 53 = .ok (.iaload, 1) := by decide +kernel
theorem dX8_crash_54 : decode cX8_crash 54 = .ok (.iconst (-1), 1) := by decide +kernel
theorem dX8_crash_55 : decode cX8_crash 55 = .ok (.if_icmp .eq 13, 3) := by decide +kernel
theorem dX8_crash_58 : decode cX8_crash 58 = .ok (.iload_n 2, 1) := by decide +kernel
theorem dX8_crash_59 : decode cX8_crash 59 = .ok (.ifCond .ne 9, 3) := by decide +kernel
theorem dX8_crash_62 : decode cX8_crash 62 = .ok (.iload_n 3, 1) := by decide +kernel
theorem dX8_crash_63 : decode cX8_crash 63 = .ok (.bipush 30, 2) := by decide +kernel
theorem dX8_crash_65 : decode cX8_crash 65 = .ok (.if_icmp .ne 7, 3) := by decide +kernel
theorem dX8_crash_68 : decode cX8_crash 68 = .ok (.iconst 2, 1) := by decide +kernel
theorem dX8_crash_69 : decode cX8_crash 69 = .ok (.goto 4, 3) := by decide +kernel
theorem dX8_crash_72 : decode cX8_crash 72 = .ok (.iconst 0, 1) := by decide +kernel
theorem dX8_crash_73 : decode cX8_crash 73 = .ok (.putfield 110, 3) := by decide +kernel
theorem dX8_crash_76 : decode cX8_crash 76 = .ok (.aload_n 0, 1) := by decide +kernel
theorem dX8_crash_77 : decode cX8_crash 77 = .ok (.getfield 110, 3) := by decide +kernel
theorem dX8_crash_80 : decode cX8_crash 80 = .ok (.ifCond .le 5, 3) := by decide +kernel
theorem dX8_crash_83 : decode cX8_crash 83 = .ok (.iconst 0, 1) := by decide +kernel
theorem dX8_crash_84 : decode cX8_crash 84 = .ok (.ireturn, 1) := by decide +kernel
theorem dX8_crash_85 : decode cX8_crash 85 = .ok (.iload_n 3, 1) := by decide +kernel
theorem dX8_crash_86 : decode cX8_crash 86 = .ok (.aload_n 0, 1) := by decide +kernel
theorem dX8_crash_87 : decode cX8_crash 87 = .ok (.getfield 130, 3) := by decide +kernel
theorem dX8_crash_90 : decode cX8_crash 90 = .ok (.if_icmp .ne 53, 3) := by decide +kernel
theorem dX8_crash_93 : decode cX8_crash 93 = .ok (.iconst 0, 1) := by decide +kernel
theorem dX8_crash_94 : decode cX8_crash 94 = .ok (.istore 5, 2) := by decide +kernel
theorem dX8_crash_96 : decode cX8_crash 96 = .ok (.iload 5, 2) := by decide +kernel
theorem dX8_crash_98 : decode cX8_crash 98 = .ok (.iload 4, 2) := by decide +kernel
theorem dX8_crash_100 : decode cX8_crash 100 = .ok (.if_icmp .ge 25, 3) := by decide +kernel
theorem dX8_crash_103 : decode cX8_crash 103 = .ok (.aload_n 0, 1) := by decide +kernel
theorem dX8_crash_104 : decode cX8_crash 104 = .ok (.getfield 88, 3) := by decide +kernel
theorem dX8_crash_107 : decode cX8_crash 107 = .ok (.iload_n 3, 1) := by decide +kernel
theorem dX8_crash_108 : decode cX8_crash 108 = .ok (.aaload, 1) := by decide +kernel
theorem dX8_crash_109 : decode cX8_crash 109 = .ok (.iload 5, 2) := by decide +kernel
theorem dX8_crash_111 : decode cX8_crash 111 = .ok (.aload_n 0, 1) := by decide +kernel
theorem dX8_crash_112 : decode cX8_crash 112 = .ok (.getfield 100, 3) := by decide +kernel
theorem dX8_crash_115 : decode cX8_crash 115 = .ok (.iload 5, 2) := by decide +kernel
theorem dX8_crash_117 : decode cX8_crash 117 = .ok (.caload, 1) := by decide +kernel
theorem dX8_crash_118 : decode cX8_crash 118 = .ok (.castore, 1) := by decide +kernel
theorem dX8_crash_119 : decode cX8_crash 119 = .ok (.iinc 5 1, 3) := by decide +kernel
theorem dX8_crash_122 : decode cX8_crash 122 = .ok (.goto (-26), 3) := by decide +kernel
theorem dX8_crash_125 : decode cX8_crash 125 = .ok (.aload_n 0, 1) := by decide +kernel
theorem dX8_crash_126 : decode cX8_crash 126 = .ok (.getfield 91, 3) := by decide +kernel
theorem dX8_crash_129 : decode cX8_crash 129 = .ok (.iload_n 3, 1) := by decide +kernel
theorem dX8_crash_130 : decode cX8_crash 130 = .ok (.iload 4, 2) := by decide +kernel
theorem dX8_crash_132 : decode cX8_crash 132 = .ok (.iastore, 1) := by decide +kernel
theorem dX8_crash_133 : decode cX8_crash 133 = .ok (.aload_n 0, 1) := by decide +kernel
theorem dX8_crash_134 : decode cX8_crash 134 = .ok (.dup, 1) := by decide +kernel
theorem dX8_crash_135 : decode cX8_crash 135 = .ok (.getfield 130, 3) := by decide +kernel
theorem dX8_crash_138 : decode cX8_crash 138 = .ok (.iconst 1, 1) := by decide +kernel
theorem dX8_crash_139 : decode cX8_crash 139 = .ok (.iadd, 1) := by decide +kernel
theorem dX8_crash_140 : decode cX8_crash 140 = .ok (.putfield 130, 3) := by decide +kernel
theorem dX8_crash_143 : decode cX8_crash 143 = .ok (.aload_n 0, 1) := by decide +kernel
theorem dX8_crash_144 : decode cX8_crash 144 = .ok (.getfield 94, 3) := by decide +kernel
theorem dX8_crash_147 : decode cX8_crash 147 = .ok (.iload_n 3, 1) := by decide +kernel
theorem dX8_crash_148 : decode cX8_crash 148 = .ok (.dup2, 1) := by decide +kernel
theorem dX8_crash_149 : decode cX8_crash 149 = .ok (.iaload, 1) := by decide +kernel
theorem dX8_crash_150 : decode cX8_crash 150 = .ok (.iconst 1, 1) := by decide +kernel
theorem dX8_crash_151 : decode cX8_crash 151 = .ok (.iadd, 1) := by decide +kernel
theorem dX8_crash_152 : decode cX8_crash 152 = .ok (.iastore, 1) := by decide +kernel
theorem dX8_crash_153 : decode cX8_crash 153 = .ok (.aload_n 0, 1) := by decide +kernel
theorem dX8_crash_154 : decode cX8_crash 154 = .ok (.getfield 97, 3) := by decide +kernel
theorem dX8_crash_157 : decode cX8_crash 157 = .ok (.iload_n 3, 1) := by decide +kernel
theorem dX8_crash_158 : decode cX8_crash 158 = .ok (.dup2, 1) := by decide +kernel
theorem dX8_crash_159 : decode cX8_crash 159 = .ok (.iaload, 1) := by decide +kernel
theorem dX8_crash_160 : decode cX8_crash 160 = .ok (.iconst 1, 1) := by decide +kernel
theorem dX8_crash_161 : decode cX8_crash 161 = .ok (.aload_n 0, 1) := by decide +kernel
theorem dX8_crash_162 : decode cX8_crash 162 = .ok (.getfield 19, 3) := by decide +kernel
theorem dX8_crash_165 : decode cX8_crash 165 = .ok (.iload_n 1, 1) := by decide +kernel
theorem dX8_crash_166 : decode cX8_crash 166 = .ok (.iaload, 1) := by decide +kernel
theorem dX8_crash_167 : decode cX8_crash 167 = .ok (.ishl, 1) := by decide +kernel
theorem dX8_crash_168 : decode cX8_crash 168 = .ok (.ior, 1) := by decide +kernel
theorem dX8_crash_169 : decode cX8_crash 169 = .ok (.iastore, 1) := by decide +kernel
theorem dX8_crash_170 : decode cX8_crash 170 = .ok (.aload_n 0, 1) := by decide +kernel
theorem dX8_crash_171 : decode cX8_crash 171 = .ok (.getfield 71, 3) := by decide +kernel
theorem dX8_crash_174 : decode cX8_crash 174 = .ok (.aload_n 0, 1) := by decide +kernel
theorem dX8_crash_175 : decode cX8_crash 175 = .ok (.getfield 19, 3) := by decide +kernel
theorem dX8_crash_178 : decode cX8_crash 178 = .ok (.iload_n 1, 1) := by decide +kernel
theorem dX8_crash_179 : decode cX8_crash 179 = .ok (.iaload, 1) := by decide +kernel
theorem dX8_crash_180 : decode cX8_crash 180 = .ok (.dup2, 1) := by decide +kernel
theorem dX8_crash_181 : decode cX8_crash 181 = .ok (.iaload, 1) := by decide +kernel
theorem dX8_crash_182 : decode cX8_crash 182 = .ok (.iconst 1, 1) := by decide +kernel
theorem dX8_crash_183 : decode cX8_crash 183 = .ok (.iadd, 1) := by decide +kernel
theorem dX8_crash_184 : decode cX8_crash 184 = .ok (.iastore, 1) := by decide +kernel
theorem dX8_crash_185 : decode cX8_crash 185 = .ok (.iload_n 3, 1) := by decide +kernel
theorem dX8_crash_186 : decode cX8_crash 186 = .ok (.ireturn, 1) := by decide +kernel
theorem dX8_groups_0 : decode cX8_groups 0 = .ok (.aload_n 0, 1) := by decide +kernel
theorem dX8_groups_1 : decode cX8_groups 1 = .ok (.iconst 0, 1) := by decide +kernel
theorem dX8_groups_2 : decode cX8_groups 2 = .ok (.putfield 110, 3) := by decide +kernel
theorem dX8_groups_5 : decode cX8_groups 5 = .ok (.aload_n 0, 1) := by decide +kernel
theorem dX8_groups_6 : decode cX8_groups 6 = .ok (.getfield 130, 3) := by decide +kernel
theorem dX8_groups_9 : decode cX8_groups 9 = .ok (.ireturn, 1) := by decide +kernel
theorem dX8_crashesIn_0 : decode cX8_crashesIn 0 = .ok (.aload_n 0, 1) := by decide +kernel
theorem dX8_crashesIn_1 : decode cX8_crashesIn 1 = .ok (.iload_n 1, 1) := by decide +kernel
theorem dX8_crashesIn_2 : decode cX8_crashesIn 2 = .ok (.invokevirtual 220, 3) := by decide +kernel
theorem dX8_crashesIn_5 : decode cX8_crashesIn 5 = .ok (.ifCond .eq 7, 3) := by decide +kernel
theorem dX8_crashesIn_8 : decode cX8_crashesIn 8 = .ok (.iconst 0, 1) := by decide +kernel
theorem dX8_crashesIn_9 : decode cX8_crashesIn 9 = .ok (.goto 9, 3) := by decide +kernel
theorem dX8_crashesIn_12 : decode cX8_crashesIn 12 = .ok (.aload_n 0, 1) := by decide +kernel
theorem dX8_crashesIn_13 : decode cX8_crashesIn 13 = .ok (.getfield 94, 3) := by decide +kernel
theorem dX8_crashesIn_16 : decode cX8_crashesIn 16 = .ok (.iload_n 1, 1) := by decide +kernel
theorem dX8_crashesIn_17 : decode cX8_crashesIn 17 = .ok (.iaload, 1) := by decide +kernel
theorem dX8_crashesIn_18 : decode cX8_crashesIn 18 = .ok (.ireturn, 1) := by decide +kernel
theorem dX8_stackAt_0 : decode cX8_stackAt 0 = .ok (.aload_n 0, 1) := by decide +kernel
theorem dX8_stackAt_1 : decode cX8_stackAt 1 = .ok (.iload_n 1, 1) := by decide +kernel
theorem dX8_stackAt_2 : decode cX8_stackAt 2 = .ok (.invokevirtual 220, 3) := by decide +kernel
theorem dX8_stackAt_5 : decode cX8_stackAt 5 = .ok (.ifCond .eq 6, 3) := by decide +kernel
theorem dX8_stackAt_8 : decode cX8_stackAt 8 = .ok (.bipush 32, 2) := by decide +kernel
theorem dX8_stackAt_10 : decode cX8_stackAt 10 = .ok (.ireturn, 1) := by decide +kernel
theorem dX8_stackAt_11 : decode cX8_stackAt 11 = .ok (.aload_n 0, 1) := by decide +kernel
theorem dX8_stackAt_12 : decode cX8_stackAt 12 = .ok (.iload_n 2, 1) := by decide +kernel
theorem dX8_stackAt_13 : decode cX8_stackAt 13 = .ok (.iconst 0, 1) := by decide +kernel
theorem dX8_stackAt_14 : decode cX8_stackAt 14 = .ok (.aload_n 0, 1) := by decide +kernel
theorem dX8_stackAt_15 : decode cX8_stackAt 15 = .ok (.getfield 91, 3) := by decide +kernel
theorem dX8_stackAt_18 : decode cX8_stackAt 18 = .ok (.iload_n 1, 1) := by decide +kernel
theorem dX8_stackAt_19 : decode cX8_stackAt 19 = .ok (.iaload, 1) := by decide +kernel
theorem dX8_stackAt_20 : decode cX8_stackAt 20 = .ok (.iconst 1, 1) := by decide +kernel
theorem dX8_stackAt_21 : decode cX8_stackAt 21 = .ok (.isub, 1) := by decide +kernel
theorem dX8_stackAt_22 : decode cX8_stackAt 22 = .ok (.invokestatic 116, 3) := by decide +kernel
theorem dX8_stackAt_25 : decode cX8_stackAt 25 = .ok (.ifCond .eq 7, 3) := by decide +kernel
theorem dX8_stackAt_28 : decode cX8_stackAt 28 = .ok (.iconst 0, 1) := by decide +kernel
theorem dX8_stackAt_29 : decode cX8_stackAt 29 = .ok (.goto 4, 3) := by decide +kernel
theorem dX8_stackAt_32 : decode cX8_stackAt 32 = .ok (.iconst 2, 1) := by decide +kernel
theorem dX8_stackAt_33 : decode cX8_stackAt 33 = .ok (.putfield 110, 3) := by decide +kernel
theorem dX8_stackAt_36 : decode cX8_stackAt 36 = .ok (.aload_n 0, 1) := by decide +kernel
theorem dX8_stackAt_37 : decode cX8_stackAt 37 = .ok (.getfield 110, 3) := by decide +kernel
theorem dX8_stackAt_40 : decode cX8_stackAt 40 = .ok (.ifCond .le 8, 3) := by decide +kernel
theorem dX8_stackAt_43 : decode cX8_stackAt 43 = .ok (.bipush 32, 2) := by decide +kernel
theorem dX8_stackAt_45 : decode cX8_stackAt 45 = .ok (.goto 11, 3) := by decide +kernel
theorem dX8_stackAt_48 : decode cX8_stackAt 48 = .ok (.aload_n 0, 1) := by decide +kernel
theorem dX8_stackAt_49 : decode cX8_stackAt 49 = .ok (.getfield 88, 3) := by decide +kernel
theorem dX8_stackAt_52 : decode cX8_stackAt 52 = .ok (.iload_n 1, 1) := by decide +kernel
theorem dX8_stackAt_53 : decode cX8_stackAt 53 = .ok (.aaload, 1) := by decide +kernel
theorem dX8_stackAt_54 : decode cX8_stackAt 54 = .ok (.iload_n 2, 1) := by decide +kernel
theorem dX8_stackAt_55 : decode cX8_stackAt 55 = .ok (.caload, 1) := by decide +kernel
theorem dX8_stackAt_56 : decode cX8_stackAt 56 = .ok (.ireturn, 1) := by decide +kernel
theorem dX8_likeness_0 : decode cX8_likeness 0 = .ok (.aload_n 0, 1) := by decide +kernel
theorem dX8_likeness_1 : decode cX8_likeness 1 = .ok (.iload_n 1, 1) := by decide +kernel
theorem dX8_likeness_2 : decode cX8_likeness 2 = .ok (.iconst 0, 1) := by decide +kernel
theorem dX8_likeness_3 : decode cX8_likeness 3 = .ok (.aload_n 0, 1) := by decide +kernel
theorem dX8_likeness_4 : decode cX8_likeness 4 = .ok (.getfield 130, 3) := by decide +kernel
theorem dX8_likeness_7 : decode cX8_likeness 7 = .ok (.iconst 1, 1) := by decide +kernel
theorem dX8_likeness_8 : decode cX8_likeness 8 = .ok (.isub, 1) := by decide +kernel
theorem dX8_likeness_9 : decode cX8_likeness 9 = .ok (.invokestatic 116, 3) := by decide +kernel
theorem dX8_likeness_12 : decode cX8_likeness 12 = .ok (.ifCond .eq 21, 3) := by decide +kernel
theorem dX8_likeness_15 : decode cX8_likeness 15 = .ok (.iload_n 2, 1) := by decide +kernel
theorem dX8_likeness_16 : decode cX8_likeness 16 = .ok (.iconst 0, 1) := by decide +kernel
theorem dX8_likeness_17 : decode cX8_likeness 17 = .ok (.aload_n 0, 1) := by decide +kernel
theorem dX8_likeness_18 : decode cX8_likeness 18 = .ok (.getfield 130, 3) := by decide +kernel
theorem dX8_likeness_21 : decode cX8_likeness 21 = .ok (.iconst 1, 1) := by decide +kernel
theorem dX8_likeness_22 : decode cX8_likeness 22 = .ok (.isub, 1) := by decide +kernel
theorem dX8_likeness_23 : decode cX8_likeness 23 = .ok (.invokestatic 116, 3) := by decide +kernel
theorem dX8_likeness_26 : decode cX8_likeness 26 = .ok (.ifCond .eq 7, 3) := by decide +kernel
theorem dX8_likeness_29 : decode cX8_likeness 29 = .ok (.iconst 0, 1) := by decide +kernel
theorem dX8_likeness_30 : decode cX8_likeness 30 = .ok (.goto 4, 3) := by decide +kernel
theorem dX8_likeness_33 : decode cX8_likeness 33 = .ok (.iconst 1, 1) := by decide +kernel
theorem dX8_likeness_34 : decode cX8_likeness 34 = .ok (.putfield 110, 3) := by decide +kernel
theorem dX8_likeness_37 : decode cX8_likeness 37 = .ok (.aload_n 0, 1) := by decide +kernel
theorem dX8_likeness_38 : decode cX8_likeness 38 = .ok (.getfield 110, 3) := by decide +kernel
theorem dX8_likeness_41 : decode cX8_likeness 41 = .ok (.ifCond .le 7, 3) := by decide +kernel
theorem dX8_likeness_44 : decode cX8_likeness 44 = .ok (.fconst 0, 1) := by decide +kernel
theorem dX8_likeness_45 : decode cX8_likeness 45 = .ok (.goto 30, 3) := by decide +kernel
theorem dX8_likeness_48 : decode cX8_likeness 48 = .ok (.aload_n 0, 1) := by decide +kernel
theorem dX8_likeness_49 : decode cX8_likeness 49 = .ok (.getfield 88, 3) := by decide +kernel
theorem dX8_likeness_52 : decode cX8_likeness 52 = .ok (.iload_n 1, 1) := by decide +kernel
theorem dX8_likeness_53 : decode cX8_likeness 53 = .ok (.aaload, 1) := by decide +kernel
theorem dX8_likeness_54 : decode cX8_likeness 54 = .ok (.aload_n 0, 1) := by decide +kernel
theorem dX8_likeness_55 : decode cX8_likeness 55 = .ok (.getfield 91, 3) := by decide +kernel
theorem dX8_likeness_58 : decode cX8_likeness 58 = .ok (.iload_n 1, 1) := by decide +kernel
theorem dX8_likeness_59 : decode cX8_likeness 59 = .ok (.iaload, 1) := by decide +kernel
theorem dX8_likeness_60 : decode cX8_likeness 60 = .ok (.aload_n 0, 1) := by decide +kernel
theorem dX8_likeness_61 : decode cX8_likeness 61 = .ok (.getfield 88, 3) := by decide +kernel
theorem dX8_likeness_64 : decode cX8_likeness 64 = .ok (.iload_n 2, 1) := by decide +kernel
theorem dX8_likeness_65 : decode cX8_likeness 65 = .ok (.aaload, 1) := by decide +kernel
theorem dX8_likeness_66 : decode cX8_likeness 66 = .ok (.aload_n 0, 1) := by decide +kernel
theorem dX8_likeness_67 : decode cX8_likeness 67 = .ok (.getfield 91, 3) := by decide +kernel
theorem dX8_likeness_70 : decode cX8_likeness 70 = .ok (.iload_n 2, 1) := by decide +kernel
theorem dX8_likeness_71 : decode cX8_likeness 71 = .ok (.iaload, 1) := by decide +kernel
theorem dX8_likeness_72 : decode cX8_likeness 72 = .ok (.invokestatic 213, 3) := by decide +kernel
theorem dX8_likeness_75 : decode cX8_likeness 75 = .ok (.freturn, 1) := by decide +kernel
theorem dX8_setBound_0 : decode cX8_setBound 0 = .ok (.aload_n 0, 1) := by decide +kernel
theorem dX8_setBound_1 : decode cX8_setBound 1 = .ok (.iload_n 1, 1) := by decide +kernel
theorem dX8_setBound_2 : decode cX8_setBound 2 = .ok (.iconst 0, 1) := by decide +kernel
theorem dX8_setBound_3 : decode cX8_setBound 3 = .ok (.sipush 1000, 3) := by decide +kernel
theorem dX8_setBound_6 : decode cX8_setBound 6 = .ok (.invokestatic 116, 3) := by decide +kernel
theorem dX8_setBound_9 : decode cX8_setBound 9 = .ok (.ifCond .eq 7, 3) := by decide +kernel
theorem dX8_setBound_12 : decode cX8_setBound 12 = .ok (.iconst 0, 1) := by decide +kernel
theorem dX8_setBound_13 : decode cX8_setBound 13 = .ok (.goto 4, 3) := by decide +kernel
theorem dX8_setBound_16 : decode cX8_setBound 16 = .ok (.iconst 1, 1) := by decide +kernel
theorem dX8_setBound_17 : decode cX8_setBound 17 = .ok (.putfield 110, 3) := by decide +kernel
theorem dX8_setBound_20 : decode cX8_setBound 20 = .ok (.aload_n 0, 1) := by decide +kernel
theorem dX8_setBound_21 : decode cX8_setBound 21 = .ok (.getfield 110, 3) := by decide +kernel
theorem dX8_setBound_24 : decode cX8_setBound 24 = .ok (.ifCond .le 5, 3) := by decide +kernel
theorem dX8_setBound_27 : decode cX8_setBound 27 = .ok (.iconst 0, 1) := by decide +kernel
theorem dX8_setBound_28 : decode cX8_setBound 28 = .ok (.ireturn, 1) := by decide +kernel
theorem dX8_setBound_29 : decode cX8_setBound 29 = .ok (.aload_n 0, 1) := by decide +kernel
theorem dX8_setBound_30 : decode cX8_setBound 30 = .ok (.getfield 79, 3) := by decide +kernel
theorem dX8_setBound_33 : decode cX8_setBound 33 = .ok (.invokestatic 223, 3) := by decide +kernel
theorem dX8_setBound_36 : decode cX8_setBound 36 = .ok (.istore_n 2, 1) := by decide +kernel
theorem dX8_setBound_37 : decode cX8_setBound 37 = .ok (.aload_n 0, 1) := by decide +kernel
theorem dX8_setBound_38 : decode cX8_setBound 38 = .ok (.iload_n 1, 1) := by decide +kernel
theorem dX8_setBound_39 : decode cX8_setBound 39 = .ok (.i2f, 1) := by decide +kernel
theorem dX8_setBound_40 : decode cX8_setBound 40 = .ok (.ldc 229, 2) := by decide +kernel
theorem dX8_setBound_42 : decode cX8_setBound 42 = .ok (.fdiv, 1) := by decide +kernel
theorem dX8_setBound_43 : decode cX8_setBound 43 = .ok (.putfield 79, 3) := by decide +kernel
theorem dX8_setBound_46 : decode cX8_setBound 46 = .ok (.iload_n 2, 1) := by decide +kernel
theorem dX8_setBound_47 : decode cX8_setBound 47 = .ok (.ireturn, 1) := by decide +kernel
theorem dX8_worstGroup_0 : decode cX8_worstGroup 0 = .ok (.aload_n 0, 1) := by decide +kernel
theorem dX8_worstGroup_1 : decode cX8_worstGroup 1 = .ok (.aload_n 0, 1) := by decide +kernel
theorem dX8_worstGroup_2 : decode cX8_worstGroup 2 = .ok (.getfield 130, 3) := by decide +kernel
theorem dX8_worstGroup_5 : decode cX8_worstGroup 5 = .ok (.ifCond .ne 7, 3) := by decide +kernel
theorem dX8_worstGroup_8 : decode cX8_worstGroup 8 = .ok (.iconst 1, 1) := by decide +kernel
theorem dX8_worstGroup_9 : decode cX8_worstGroup 9 = .ok (.goto 4, 3) := by decide +kernel
theorem dX8_worstGroup_12 : decode cX8_worstGroup 12 = .ok (.iconst 0, 1) := by decide +kernel
theorem dX8_worstGroup_13 : decode cX8_worstGroup 13 = .ok (.putfield 110, 3) := by decide +kernel
theorem dX8_worstGroup_16 : decode cX8_worstGroup 16 = .ok (.iconst 0, 1) := by decide +kernel
theorem dX8_worstGroup_17 : decode cX8_worstGroup 17 = .ok (.istore_n 1, 1) := by decide +kernel
theorem dX8_worstGroup_18 : decode cX8_worstGroup 18 = .ok (.iconst 1, 1) := by decide +kernel
theorem dX8_worstGroup_19 : decode cX8_worstGroup 19 = .ok (.istore_n 2, 1) := by decide +kernel
theorem dX8_worstGroup_20 : decode cX8_worstGroup 20 = .ok (.iload_n 2, 1) := by decide +kernel
theorem dX8_worstGroup_21 : decode cX8_worstGroup 21 = .ok (.aload_n 0, 1) := by decide +kernel
theorem dX8_worstGroup_22 : decode cX8_worstGroup 22 = .ok (.getfield 130, 3) := by decide +kernel
theorem dX8_worstGroup_25 : decode cX8_worstGroup 25 = .ok (.if_icmp .ge 30, 3) := by decide +kernel
theorem dX8_worstGroup_28 : decode cX8_worstGroup 28 = .ok (.aload_n 0, 1) := by decide +kernel
theorem dX8_worstGroup_29 : decode cX8_worstGroup 29 = .ok (.getfield 94, 3) := by decide +kernel
theorem dX8_worstGroup_32 : decode cX8_worstGroup 32 = .ok (.iload_n 2, 1) := by decide +kernel
theorem dX8_worstGroup_33 : decode cX8_worstGroup 33 = .ok (.iaload, 1) := by decide +kernel
theorem dX8_worstGroup_34 : decode cX8_worstGroup 34 = .ok (.aload_n 0, 1) := by decide +kernel
theorem dX8_worstGroup_35 : decode cX8_worstGroup 35 = .ok (.getfield 94, 3) := by decide +kernel
theorem dX8_worstGroup_38 : decode cX8_worstGroup 38 = .ok (.iload_n 1, 1) := by decide +kernel
theorem dX8_worstGroup_39 : decode cX8_worstGroup 39 = .ok (.iaload, 1) := by decide +kernel
theorem dX8_worstGroup_40 : decode cX8_worstGroup 40 = .ok (.if_icmp .le 7, 3) := by decide +kernel
theorem dX8_worstGroup_43 : decode cX8_worstGroup 43 = .ok (.iload_n 2, 1) := by decide +kernel
theorem dX8_worstGroup_44 : decode cX8_worstGroup 44 = .ok (.goto 4, 3) := by decide +kernel
theorem dX8_worstGroup_47 : decode cX8_worstGroup 47 = .ok (.iload_n 1, 1) := by decide +kernel
theorem dX8_worstGroup_48 : decode cX8_worstGroup 48 = .ok (.istore_n 1, 1) := by decide +kernel
theorem dX8_worstGroup_49 : decode cX8_worstGroup 49 = .ok (.iinc 2 1, 3) := by decide +kernel
theorem dX8_worstGroup_52 : decode cX8_worstGroup 52 = .ok (.goto (-32), 3) := by decide +kernel
theorem dX8_worstGroup_55 : decode cX8_worstGroup 55 = .ok (.aload_n 0, 1) := by decide +kernel
theorem dX8_worstGroup_56 : decode cX8_worstGroup 56 = .ok (.getfield 110, 3) := by decide +kernel
theorem dX8_worstGroup_59 : decode cX8_worstGroup 59 = .ok (.ifCond .le 7, 3) := by decide +kernel
theorem dX8_worstGroup_62 : decode cX8_worstGroup 62 = .ok (.iconst 0, 1) := by decide +kernel
theorem dX8_worstGroup_63 : decode cX8_worstGroup 63 = .ok (.goto 4, 3) := by decide +kernel
theorem dX8_worstGroup_66 : decode cX8_worstGroup 66 = .ok (.iload_n 1, 1) := by decide +kernel
theorem dX8_worstGroup_67 : decode cX8_worstGroup 67 = .ok (.ireturn, 1) := by decide +kernel
theorem dX8_buildsIn_0 : decode cX8_buildsIn 0 = .ok (.aload_n 0, 1) := by decide +kernel
theorem dX8_buildsIn_1 : decode cX8_buildsIn 1 = .ok (.iload_n 1, 1) := by decide +kernel
theorem dX8_buildsIn_2 : decode cX8_buildsIn 2 = .ok (.invokevirtual 220, 3) := by decide +kernel
theorem dX8_buildsIn_5 : decode cX8_buildsIn 5 = .ok (.ifCond .eq 7, 3) := by decide +kernel
theorem dX8_buildsIn_8 : decode cX8_buildsIn 8 = .ok (.iconst 0, 1) := by decide +kernel
theorem dX8_buildsIn_9 : decode cX8_buildsIn 9 = .ok (.goto 9, 3) := by decide +kernel
theorem dX8_buildsIn_12 : decode cX8_buildsIn 12 = .ok (.aload_n 0, 1) := by decide +kernel
theorem dX8_buildsIn_13 : decode cX8_buildsIn 13 = .ok (.getfield 97, 3) := by decide +kernel
theorem dX8_buildsIn_16 : decode cX8_buildsIn 16 = .ok (.iload_n 1, 1) := by decide +kernel
theorem dX8_buildsIn_17 : decode cX8_buildsIn 17 = .ok (.iaload, 1) := by decide +kernel
theorem dX8_buildsIn_18 : decode cX8_buildsIn 18 = .ok (.ireturn, 1) := by decide +kernel
theorem dX8_setRate_0 : decode cX8_setRate 0 = .ok (.aload_n 0, 1) := by decide +kernel
theorem dX8_setRate_1 : decode cX8_setRate 1 = .ok (.iload_n 1, 1) := by decide +kernel
theorem dX8_setRate_2 : decode cX8_setRate 2 = .ok (.iconst 0, 1) := by decide +kernel
theorem dX8_setRate_3 : decode cX8_setRate 3 = .ok (.sipush 9999, 3) := by decide +kernel
theorem dX8_setRate_6 : decode cX8_setRate 6 = .ok (.invokestatic 116, 3) := by decide +kernel
theorem dX8_setRate_9 : decode cX8_setRate 9 = .ok (.ifCond .eq 7, 3) := by decide +kernel
theorem dX8_setRate_12 : decode cX8_setRate 12 = .ok (.iconst 0, 1) := by decide +kernel
theorem dX8_setRate_13 : decode cX8_setRate 13 = .ok (.goto 4, 3) := by decide +kernel
theorem dX8_setRate_16 : decode cX8_setRate 16 = .ok (.iconst 1, 1) := by decide +kernel
theorem dX8_setRate_17 : decode cX8_setRate 17 = .ok (.putfield 110, 3) := by decide +kernel
theorem dX8_setRate_20 : decode cX8_setRate 20 = .ok (.aload_n 0, 1) := by decide +kernel
theorem dX8_setRate_21 : decode cX8_setRate 21 = .ok (.getfield 110, 3) := by decide +kernel
theorem dX8_setRate_24 : decode cX8_setRate 24 = .ok (.ifCond .le 5, 3) := by decide +kernel
theorem dX8_setRate_27 : decode cX8_setRate 27 = .ok (.iconst 0, 1) := by decide +kernel
theorem dX8_setRate_28 : decode cX8_setRate 28 = .ok (.ireturn, 1) := by decide +kernel
theorem dX8_setRate_29 : decode cX8_setRate 29 = .ok (.aload_n 0, 1) := by decide +kernel
theorem dX8_setRate_30 : decode cX8_setRate 30 = .ok (.getfield 83, 3) := by decide +kernel
theorem dX8_setRate_33 : decode cX8_setRate 33 = .ok (.invokestatic 223, 3) := by decide +kernel
theorem dX8_setRate_36 : decode cX8_setRate 36 = .ok (.istore_n 2, 1) := by decide +kernel
theorem dX8_setRate_37 : decode cX8_setRate 37 = .ok (.aload_n 0, 1) := by decide +kernel
theorem dX8_setRate_38 : decode cX8_setRate 38 = .ok (.iload_n 1, 1) := by decide +kernel
theorem dX8_setRate_39 : decode cX8_setRate 39 = .ok (.i2f, 1) := by decide +kernel
theorem dX8_setRate_40 : decode cX8_setRate 40 = .ok (.ldc 229, 2) := by decide +kernel
theorem dX8_setRate_42 : decode cX8_setRate 42 = .ok (.fdiv, 1) := by decide +kernel
theorem dX8_setRate_43 : decode cX8_setRate 43 = .ok (.putfield 83, 3) := by decide +kernel
theorem dX8_setRate_46 : decode cX8_setRate 46 = .ok (.iload_n 2, 1) := by decide +kernel
theorem dX8_setRate_47 : decode cX8_setRate 47 = .ok (.ireturn, 1) := by decide +kernel
theorem dX8_crashRate_0 : decode cX8_crashRate 0 = .ok (.aload_n 0, 1) := by decide +kernel
theorem dX8_crashRate_1 : decode cX8_crashRate 1 = .ok (.iload_n 1, 1) := by decide +kernel
theorem dX8_crashRate_2 : decode cX8_crashRate 2 = .ok (.invokevirtual 140, 3) := by decide +kernel
theorem dX8_crashRate_5 : decode cX8_crashRate 5 = .ok (.ifCond .eq 7, 3) := by decide +kernel
theorem dX8_crashRate_8 : decode cX8_crashRate 8 = .ok (.fconst 0, 1) := by decide +kernel
theorem dX8_crashRate_9 : decode cX8_crashRate 9 = .ok (.goto 8, 3) := by decide +kernel
theorem dX8_crashRate_12 : decode cX8_crashRate 12 = .ok (.aload_n 0, 1) := by decide +kernel
theorem dX8_crashRate_13 : decode cX8_crashRate 13 = .ok (.iload_n 1, 1) := by decide +kernel
theorem dX8_crashRate_14 : decode cX8_crashRate 14 = .ok (.invokevirtual 182, 3) := by decide +kernel
theorem dX8_crashRate_17 : decode cX8_crashRate 17 = .ok (.freturn, 1) := by decide +kernel
theorem dX8_rate_0 : decode cX8_rate 0 = .ok (.aload_n 0, 1) := by decide +kernel
theorem dX8_rate_1 : decode cX8_rate 1 = .ok (.iload_n 1, 1) := by decide +kernel
theorem dX8_rate_2 : decode cX8_rate 2 = .ok (.invokevirtual 201, 3) := by decide +kernel
theorem dX8_rate_5 : decode cX8_rate 5 = .ok (.ifCond .eq 5, 3) := by decide +kernel
theorem dX8_rate_8 : decode cX8_rate 8 = .ok (.iconst 0, 1) := by decide +kernel
theorem dX8_rate_9 : decode cX8_rate 9 = .ok (.ireturn, 1) := by decide +kernel
theorem dX8_rate_10 : decode cX8_rate 10 = .ok (.aload_n 0, 1) := by decide +kernel
theorem dX8_rate_11 : decode cX8_rate 11 = .ok (.iload_n 2, 1) := by decide +kernel
theorem dX8_rate_12 : decode cX8_rate 12 = .ok (.iconst 1, 1) := by decide +kernel
theorem dX8_rate_13 : decode cX8_rate 13 = .ok (.iconst 5, 1) := by decide +kernel
theorem dX8_rate_14 : decode cX8_rate 14 = .ok (.invokestatic 116, 3) := by decide +kernel
theorem dX8_rate_17 : decode cX8_rate 17 = .ok (.ifCond .ne 7, 3) := by decide +kernel
theorem dX8_rate_20 : decode cX8_rate 20 = .ok (.iconst 2, 1) := by decide +kernel
theorem dX8_rate_21 : decode cX8_rate 21 = .ok (.goto 18, 3) := by decide +kernel
theorem dX8_rate_24 : decode cX8_rate 24 = .ok (.aload_n 0, 1) := by decide +kernel
theorem dX8_rate_25 : decode cX8_rate 25 = .ok (.getfield 19, 3) := by decide +kernel
theorem dX8_rate_28 : decode cX8_rate 28 = .ok (.iload_n 1, 1) := by decide +kernel
theorem dX8_rate_29 : decode cX8_rate 29 = .ok (.iaload, 1) := by decide +kernel
theorem dX8_rate_30 : decode cX8_rate 30 = .ok (.iconst (-1), 1) := by decide +kernel
theorem dX8_rate_31 : decode cX8_rate 31 = .ok (.if_icmp .ne 7, 3) := by decide +kernel
theorem dX8_rate_34 : decode cX8_rate 34 = .ok (.iconst 3, 1) := by decide +kernel
theorem dX8_rate_35 : decode cX8_rate 35 = .ok (.goto 4, 3) := by decide +kernel
theorem dX8_rate_38 : decode cX8_rate 38 = .ok (.iconst 0, 1) := by decide +kernel
theorem dX8_rate_39 : decode cX8_rate 39 = .ok (.putfield 110, 3) := by decide +kernel
theorem dX8_rate_42 : decode cX8_rate 42 = .ok (.aload_n 0, 1) := by decide +kernel
theorem dX8_rate_43 : decode cX8_rate 43 = .ok (.getfield 110, 3) := by decide +kernel
theorem dX8_rate_46 : decode cX8_rate 46 = .ok (.ifCond .le 5, 3) := by decide +kernel
theorem dX8_rate_49 : decode cX8_rate 49 = .ok (.iconst 0, 1) := by decide +kernel
theorem dX8_rate_50 : decode cX8_rate 50 = .ok (.ireturn, 1) := by decide +kernel
theorem dX8_rate_51 : decode cX8_rate 51 = .ok (.aload_n 0, 1) := by decide +kernel
theorem dX8_rate_52 : decode cX8_rate 52 = .ok (.getfield 27, 3) := by decide +kernel
theorem dX8_rate_55 : decode cX8_rate 55 = .ok (.iload_n 1, 1) := by decide +kernel
theorem dX8_rate_56 : decode cX8_rate 56 = .ok (.aaload, 1) := by decide +kernel
theorem dX8_rate_57 : decode cX8_rate 57 = .ok (.aload_n 0, 1) := by decide +kernel
theorem dX8_rate_58 : decode cX8_rate 58 = .ok (.getfield 19, 3) := by decide +kernel
theorem dX8_rate_61 : decode cX8_rate 61 = .ok (.iload_n 1, 1) := by decide +kernel
theorem dX8_rate_62 : decode cX8_rate 62 = .ok (.iaload, 1) := by decide +kernel
theorem dX8_rate_63 : decode cX8_rate 63 = .ok (.iaload, 1) := by decide +kernel
theorem dX8_rate_64 : decode cX8_rate 64 = .ok (.istore_n 3, 1) := by decide +kernel
theorem dX8_rate_65 : decode cX8_rate 65 = .ok (.aload_n 0, 1) := by decide +kernel
theorem dX8_rate_66 : decode cX8_rate 66 = .ok (.getfield 27, 3) := by decide +kernel
theorem dX8_rate_69 : decode cX8_rate 69 = .ok (.iload_n 1, 1) := by decide +kernel
theorem dX8_rate_70 : decode cX8_rate 70 = .ok (.aaload, 1) := by decide +kernel
theorem dX8_rate_71 : decode cX8_rate 71 = .ok (.aload_n 0, 1) := by decide +kernel
theorem dX8_rate_72 : decode cX8_rate 72 = .ok (.getfield 19, 3) := by decide +kernel
theorem dX8_rate_75 : decode cX8_rate 75 = .ok (.iload_n 1, 1) := by decide +kernel
theorem dX8_rate_76 : decode cX8_rate 76 = .ok (.iaload, 1) := by decide +kernel
theorem dX8_rate_77 : decode cX8_rate 77 = .ok (.iload_n 2, 1) := by decide +kernel
theorem dX8_rate_78 : decode cX8_rate 78 = .ok (.iastore, 1) := by decide +kernel
theorem dX8_rate_79 : decode cX8_rate 79 = .ok (.iload_n 3, 1) := by decide +kernel
theorem dX8_rate_80 : decode cX8_rate 80 = .ok (.ireturn, 1) := by decide +kernel
theorem dX8_rating_0 : decode cX8_rating 0 = .ok (.aload_n 0, 1) := by decide +kernel
theorem dX8_rating_1 : decode cX8_rating 1 = .ok (.iload_n 1, 1) := by decide +kernel
theorem dX8_rating_2 : decode cX8_rating 2 = .ok (.invokevirtual 140, 3) := by decide +kernel
theorem dX8_rating_5 : decode cX8_rating 5 = .ok (.ifCond .eq 5, 3) := by decide +kernel
theorem dX8_rating_8 : decode cX8_rating 8 = .ok (.dconst 0, 1) := by decide +kernel
theorem dX8_rating_9 : decode cX8_rating 9 = .ok (.dreturn, 1) := by decide +kernel
theorem dX8_rating_10 : decode cX8_rating 10 = .ok (.aload_n 0, 1) := by decide +kernel
theorem dX8_rating_11 : decode cX8_rating 11 = .ok (.aload_n 0, 1) := by decide +kernel
theorem dX8_rating_12 : decode cX8_rating 12 = .ok (.iload_n 1, 1) := by decide +kernel
theorem dX8_rating_13 : decode cX8_rating 13 = .ok (.invokevirtual 179, 3) := by decide +kernel
theorem dX8_rating_16 : decode cX8_rating 16 = .ok (.ifCond .ne 7, 3) := by decide +kernel
theorem dX8_rating_19 : decode cX8_rating 19 = .ok (.iconst 2, 1) := by decide +kernel
theorem dX8_rating_20 : decode cX8_rating 20 = .ok (.goto 4, 3) := by decide +kernel
theorem dX8_rating_23 : decode cX8_rating 23 = .ok (.iconst 0, 1) := by decide +kernel
theorem dX8_rating_24 : decode cX8_rating 24 = .ok (.putfield 110, 3) := by decide +kernel
theorem dX8_rating_27 : decode cX8_rating 27 = .ok (.aload_n 0, 1) := by decide +kernel
theorem dX8_rating_28 : decode cX8_rating 28 = .ok (.getfield 110, 3) := by decide +kernel
theorem dX8_rating_31 : decode cX8_rating 31 = .ok (.ifCond .le 7, 3) := by decide +kernel
theorem dX8_rating_34 : decode cX8_rating 34 = .ok (.dconst 0, 1) := by decide +kernel
theorem dX8_rating_35 : decode cX8_rating 35 = .ok (.goto 8, 3) := by decide +kernel
theorem dX8_rating_38 : decode cX8_rating 38 = .ok (.aload_n 0, 1) := by decide +kernel
theorem dX8_rating_39 : decode cX8_rating 39 = .ok (.iload_n 1, 1) := by decide +kernel
theorem dX8_rating_40 : decode cX8_rating 40 = .ok (.invokevirtual 186, 3) := by decide +kernel
theorem dX8_rating_43 : decode cX8_rating 43 = .ok (.dreturn, 1) := by decide +kernel
theorem dX8_ratingBits_0 : decode cX8_ratingBits 0 = .ok (.aload_n 0, 1) := by decide +kernel
theorem dX8_ratingBits_1 : decode cX8_ratingBits 1 = .ok (.iload_n 1, 1) := by decide +kernel
theorem dX8_ratingBits_2 : decode cX8_ratingBits 2 = .ok (.invokevirtual 230, 3) := by decide +kernel
theorem dX8_ratingBits_5 : decode cX8_ratingBits 5 = .ok (.dstore_n 2, 1) := by decide +kernel
theorem dX8_ratingBits_6 : decode cX8_ratingBits 6 = .ok (.aload_n 0, 1) := by decide +kernel
theorem dX8_ratingBits_7 : decode cX8_ratingBits 7 = .ok (.getfield 110, 3) := by decide +kernel
theorem dX8_ratingBits_10 : decode cX8_ratingBits 10 = .ok (.ifCond .le 7, 3) := by decide +kernel
theorem dX8_ratingBits_13 : decode cX8_ratingBits 13 = .ok (.lconst 0, 1) := by decide +kernel
theorem dX8_ratingBits_14 : decode cX8_ratingBits 14 = .ok (.goto 7, 3) := by decide +kernel
theorem dX8_ratingBits_17 : decode cX8_ratingBits 17 = .ok (.dload_n 2, 1) := by decide +kernel
theorem dX8_ratingBits_18 : decode cX8_ratingBits 18 = .ok (.invokestatic 233, 3) := by decide +kernel
theorem dX8_ratingBits_21 : decode cX8_ratingBits 21 = .ok (.lreturn, 1) := by decide +kernel
theorem dX8_sells_0 : decode cX8_sells 0 = .ok (.aload_n 0, 1) := by decide +kernel
theorem dX8_sells_1 : decode cX8_sells 1 = .ok (.getfield 19, 3) := by decide +kernel
theorem dX8_sells_4 : decode cX8_sells 4 = .ok (.iload_n 1, 1) := by decide +kernel
theorem dX8_sells_5 : decode cX8_sells 5 = .ok (.iaload, 1) := by decide +kernel
theorem dX8_sells_6 : decode cX8_sells 6 = .ok (.iconst (-1), 1) := by decide +kernel
theorem dX8_sells_7 : decode cX8_sells 7 = .ok (.if_icmp .eq 25, 3) := by decide +kernel
theorem dX8_sells_10 : decode cX8_sells 10 = .ok (.aload_n 0, 1) := by decide +kernel
theorem dX8_sells_11 : decode cX8_sells 11 = .ok (.getfield 45, 3) := by decide +kernel
theorem dX8_sells_14 : decode cX8_sells 14 = .ok (.aload_n 0, 1) := by decide +kernel
theorem dX8_sells_15 : decode cX8_sells 15 = .ok (.getfield 19, 3) := by decide +kernel
theorem dX8_sells_18 : decode cX8_sells 18 = .ok (.iload_n 1, 1) := by decide +kernel
theorem dX8_sells_19 : decode cX8_sells 19 = .ok (.iaload, 1) := by decide +kernel
theorem dX8_sells_20 : decode cX8_sells 20 = .ok (.iaload, 1) := by decide +kernel
theorem dX8_sells_21 : decode cX8_sells 21 = .ok (.iload_n 2, 1) := by decide +kernel
theorem dX8_sells_22 : decode cX8_sells 22 = .ok (.invokestatic 192, 3) := by decide +kernel
theorem dX8_sells_25 : decode cX8_sells 25 = .ok (.ifCond .eq 7, 3) := by decide +kernel
theorem dX8_sells_28 : decode cX8_sells 28 = .ok (.iconst 1, 1) := by decide +kernel
theorem dX8_sells_29 : decode cX8_sells 29 = .ok (.goto 4, 3) := by decide +kernel
theorem dX8_sells_32 : decode cX8_sells 32 = .ok (.iconst 0, 1) := by decide +kernel
theorem dX8_sells_33 : decode cX8_sells 33 = .ok (.ireturn, 1) := by decide +kernel
theorem dX8_buy_0 : decode cX8_buy 0 = .ok (.aload_n 0, 1) := by decide +kernel
theorem dX8_buy_1 : decode cX8_buy 1 = .ok (.iload_n 1, 1) := by decide +kernel
theorem dX8_buy_2 : decode cX8_buy 2 = .ok (.invokevirtual 201, 3) := by decide +kernel
theorem dX8_buy_5 : decode cX8_buy 5 = .ok (.ifCond .eq 5, 3) := by decide +kernel
theorem dX8_buy_8 : decode cX8_buy 8 = .ok (.iconst 0, 1) := by decide +kernel
theorem dX8_buy_9 : decode cX8_buy 9 = .ok (.ireturn, 1) := by decide +kernel
theorem dX8_buy_10 : decode cX8_buy 10 = .ok (.aload_n 0, 1) := by decide +kernel
theorem dX8_buy_11 : decode cX8_buy 11 = .ok (.iload_n 2, 1) := by decide +kernel
theorem dX8_buy_12 : decode cX8_buy 12 = .ok (.iconst 0, 1) := by decide +kernel
theorem dX8_buy_13 : decode cX8_buy 13 = .ok (.bipush 7, 2) := by decide +kernel
theorem dX8_buy_15 : decode cX8_buy 15 = .ok (.invokestatic 116, 3) := by decide +kernel
theorem dX8_buy_18 : decode cX8_buy 18 = .ok (.ifCond .ne 7, 3) := by decide +kernel
theorem dX8_buy_21 : decode cX8_buy 21 = .ok (.iconst 2, 1) := by decide +kernel
theorem dX8_buy_22 : decode cX8_buy 22 = .ok (.goto 44, 3) := by decide +kernel
theorem dX8_buy_25 : decode cX8_buy 25 = .ok (.aload_n 0, 1) := by decide +kernel
theorem dX8_buy_26 : decode cX8_buy 26 = .ok (.getfield 19, 3) := by decide +kernel
theorem dX8_buy_29 : decode cX8_buy 29 = .ok (.iload_n 1, 1) := by decide +kernel
theorem dX8_buy_30 : decode cX8_buy 30 = .ok (.iaload, 1) := by decide +kernel
theorem dX8_buy_31 : decode cX8_buy 31 = .ok (.iconst (-1), 1) := by decide +kernel
theorem dX8_buy_32 : decode cX8_buy 32 = .ok (.if_icmp .eq 16, 3) := by decide +kernel
theorem dX8_buy_35 : decode cX8_buy 35 = .ok (.aload_n 0, 1) := by decide +kernel
theorem dX8_buy_36 : decode cX8_buy 36 = .ok (.getfield 22, 3) := by decide +kernel
theorem dX8_buy_39 : decode cX8_buy 39 = .ok (.iload_n 1, 1) := by decide +kernel
theorem dX8_buy_40 : decode cX8_buy 40 = .ok (.iaload, 1) := by decide +kernel
theorem dX8_buy_41 : decode cX8_buy 41 = .ok (.iload_n 2, 1) := by decide +kernel
theorem dX8_buy_42 : decode cX8_buy 42 = .ok (.invokestatic 192, 3) := by decide +kernel
theorem dX8_buy_45 : decode cX8_buy 45 = .ok (.ifCond .eq 7, 3) := by decide +kernel
theorem dX8_buy_48 : decode cX8_buy 48 = .ok (.iconst 3, 1) := by decide +kernel
theorem dX8_buy_49 : decode cX8_buy 49 = .ok (.goto 17, 3) := by decide +kernel
theorem dX8_buy_52 : decode cX8_buy 52 = .ok (.aload_n 0, 1) := by decide +kernel
theorem dX8_buy_53 : decode cX8_buy 53 = .ok (.iload_n 1, 1) := by decide +kernel
theorem dX8_buy_54 : decode cX8_buy 54 = .ok (.iload_n 2, 1) := by decide +kernel
theorem dX8_buy_55 : decode cX8_buy 55 = .ok (.invokevirtual 239, 3) := by decide +kernel
theorem dX8_buy_58 : decode cX8_buy 58 = .ok (.ifCond .ne 7, 3) := by decide +kernel
theorem dX8_buy_61 : decode cX8_buy 61 = .ok (.iconst 4, 1) := by decide +kernel
theorem dX8_buy_62 : decode cX8_buy 62 = .ok (.goto 4, 3) := by decide +kernel
theorem dX8_buy_65 : decode cX8_buy 65 = .ok (.iconst 0, 1) := by decide +kernel
theorem dX8_buy_66 : decode cX8_buy 66 = .ok (.putfield 110, 3) := by decide +kernel
theorem dX8_buy_69 : decode cX8_buy 69 = .ok (.aload_n 0, 1) := by decide +kernel
theorem dX8_buy_70 : decode cX8_buy 70 = .ok (.getfield 110, 3) := by decide +kernel
theorem dX8_buy_73 : decode cX8_buy 73 = .ok (.ifCond .le 5, 3) := by decide +kernel
theorem dX8_buy_76 : decode cX8_buy 76 = .ok (.iconst 0, 1) := by decide +kernel
theorem dX8_buy_77 : decode cX8_buy 77 = .ok (.ireturn, 1) := by decide +kernel
theorem dX8_buy_78 : decode cX8_buy 78 = .ok (.aload_n 0, 1) := by decide +kernel
theorem dX8_buy_79 : decode cX8_buy 79 = .ok (.getfield 22, 3) := by decide +kernel
theorem dX8_buy_82 : decode cX8_buy 82 = .ok (.iload_n 1, 1) := by decide +kernel
theorem dX8_buy_83 : decode cX8_buy 83 = .ok (.dup2, 1) := by decide +kernel
theorem dX8_buy_84 : decode cX8_buy 84 = .ok (.iaload, 1) := by decide +kernel
theorem dX8_buy_85 : decode cX8_buy 85 = .ok (.iconst 1, 1) := by decide +kernel
theorem dX8_buy_86 : decode cX8_buy 86 = .ok (.iload_n 2, 1) := by decide +kernel
theorem dX8_buy_87 : decode cX8_buy 87 = .ok (.ishl, 1) := by decide +kernel
theorem dX8_buy_88 : decode cX8_buy 88 = .ok (.ior, 1) := by decide +kernel
theorem dX8_buy_89 : decode cX8_buy 89 = .ok (.iastore, 1) := by decide +kernel
theorem dX8_buy_90 : decode cX8_buy 90 = .ok (.aload_n 0, 1) := by decide +kernel
theorem dX8_buy_91 : decode cX8_buy 91 = .ok (.getfield 22, 3) := by decide +kernel
theorem dX8_buy_94 : decode cX8_buy 94 = .ok (.iload_n 1, 1) := by decide +kernel
theorem dX8_buy_95 : decode cX8_buy 95 = .ok (.iaload, 1) := by decide +kernel
theorem dX8_buy_96 : decode cX8_buy 96 = .ok (.invokestatic 242, 3) := by decide +kernel
theorem dX8_buy_99 : decode cX8_buy 99 = .ok (.ireturn, 1) := by decide +kernel
theorem dX8_noItem_0 : decode cX8_noItem 0 = .ok (.aload_n 0, 1) := by decide +kernel
theorem dX8_noItem_1 : decode cX8_noItem 1 = .ok (.aload_n 0, 1) := by decide +kernel
theorem dX8_noItem_2 : decode cX8_noItem 2 = .ok (.iload_n 1, 1) := by decide +kernel
theorem dX8_noItem_3 : decode cX8_noItem 3 = .ok (.invokevirtual 127, 3) := by decide +kernel
theorem dX8_noItem_6 : decode cX8_noItem 6 = .ok (.ifCond .ne 7, 3) := by decide +kernel
theorem dX8_noItem_9 : decode cX8_noItem 9 = .ok (.iconst 1, 1) := by decide +kernel
theorem dX8_noItem_10 : decode cX8_noItem 10 = .ok (.goto 18, 3) := by decide +kernel
theorem dX8_noItem_13 : decode cX8_noItem 13 = .ok (.iload_n 2, 1) := by decide +kernel
theorem dX8_noItem_14 : decode cX8_noItem 14 = .ok (.iconst 0, 1) := by decide +kernel
theorem dX8_noItem_15 : decode cX8_noItem 15 = .ok (.bipush 7, 2) := by decide +kernel
theorem dX8_noItem_17 : decode cX8_noItem 17 = .ok (.invokestatic 116, 3) := by decide +kernel
theorem dX8_noItem_20 : decode cX8_noItem 20 = .ok (.ifCond .ne 7, 3) := by decide +kernel
theorem dX8_noItem_23 : decode cX8_noItem 23 = .ok (.iconst 2, 1) := by decide +kernel
theorem dX8_noItem_24 : decode cX8_noItem 24 = .ok (.goto 4, 3) := by decide +kernel
theorem dX8_noItem_27 : decode cX8_noItem 27 = .ok (.iconst 0, 1) := by decide +kernel
theorem dX8_noItem_28 : decode cX8_noItem 28 = .ok (.putfield 110, 3) := by decide +kernel
theorem dX8_noItem_31 : decode cX8_noItem 31 = .ok (.aload_n 0, 1) := by decide +kernel
theorem dX8_noItem_32 : decode cX8_noItem 32 = .ok (.getfield 110, 3) := by decide +kernel
theorem dX8_noItem_35 : decode cX8_noItem 35 = .ok (.ifCond .le 7, 3) := by decide +kernel
theorem dX8_noItem_38 : decode cX8_noItem 38 = .ok (.iconst 1, 1) := by decide +kernel
theorem dX8_noItem_39 : decode cX8_noItem 39 = .ok (.goto 4, 3) := by decide +kernel
theorem dX8_noItem_42 : decode cX8_noItem 42 = .ok (.iconst 0, 1) := by decide +kernel
theorem dX8_noItem_43 : decode cX8_noItem 43 = .ok (.ireturn, 1) := by decide +kernel
theorem dX8_owns_0 : decode cX8_owns 0 = .ok (.aload_n 0, 1) := by decide +kernel
theorem dX8_owns_1 : decode cX8_owns 1 = .ok (.iload_n 1, 1) := by decide +kernel
theorem dX8_owns_2 : decode cX8_owns 2 = .ok (.iload_n 2, 1) := by decide +kernel
theorem dX8_owns_3 : decode cX8_owns 3 = .ok (.invokevirtual 247, 3) := by decide +kernel
theorem dX8_owns_6 : decode cX8_owns 6 = .ok (.ifCond .ne 20, 3) := by decide +kernel
theorem dX8_owns_9 : decode cX8_owns 9 = .ok (.aload_n 0, 1) := by decide +kernel
theorem dX8_owns_10 : decode cX8_owns 10 = .ok (.getfield 22, 3) := by decide +kernel
theorem dX8_owns_13 : decode cX8_owns 13 = .ok (.iload_n 1, 1) := by decide +kernel
theorem dX8_owns_14 : decode cX8_owns 14 = .ok (.iaload, 1) := by decide +kernel
theorem dX8_owns_15 : decode cX8_owns 15 = .ok (.iload_n 2, 1) := by decide +kernel
theorem dX8_owns_16 : decode cX8_owns 16 = .ok (.invokestatic 192, 3) := by decide +kernel
theorem dX8_owns_19 : decode cX8_owns 19 = .ok (.ifCond .eq 7, 3) := by decide +kernel
theorem dX8_owns_22 : decode cX8_owns 22 = .ok (.iconst 1, 1) := by decide +kernel
theorem dX8_owns_23 : decode cX8_owns 23 = .ok (.goto 4, 3) := by decide +kernel
theorem dX8_owns_26 : decode cX8_owns 26 = .ok (.iconst 0, 1) := by decide +kernel
theorem dX8_owns_27 : decode cX8_owns 27 = .ok (.ireturn, 1) := by decide +kernel
theorem dX8_canUse_0 : decode cX8_canUse 0 = .ok (.aload_n 0, 1) := by decide +kernel
theorem dX8_canUse_1 : decode cX8_canUse 1 = .ok (.iload_n 1, 1) := by decide +kernel
theorem dX8_canUse_2 : decode cX8_canUse 2 = .ok (.iload_n 2, 1) := by decide +kernel
theorem dX8_canUse_3 : decode cX8_canUse 3 = .ok (.invokevirtual 247, 3) := by decide +kernel
theorem dX8_canUse_6 : decode cX8_canUse 6 = .ok (.ifCond .ne 29, 3) := by decide +kernel
theorem dX8_canUse_9 : decode cX8_canUse 9 = .ok (.aload_n 0, 1) := by decide +kernel
theorem dX8_canUse_10 : decode cX8_canUse 10 = .ok (.getfield 22, 3) := by decide +kernel
theorem dX8_canUse_13 : decode cX8_canUse 13 = .ok (.iload_n 1, 1) := by decide +kernel
theorem dX8_canUse_14 : decode cX8_canUse 14 = .ok (.iaload, 1) := by decide +kernel
theorem dX8_canUse_15 : decode cX8_canUse 15 = .ok (.iload_n 2, 1) := by decide +kernel
theorem dX8_canUse_16 : decode cX8_canUse 16 = .ok (.invokestatic 192, 3) := by decide +kernel
theorem dX8_canUse_19 : decode cX8_canUse 19 = .ok (.ifCond .eq 16, 3) := by decide +kernel
theorem dX8_canUse_22 : decode cX8_canUse 22 = .ok (.aload_n 0, 1) := by decide +kernel
theorem dX8_canUse_23 : decode cX8_canUse 23 = .ok (.iload_n 1, 1) := by decide +kernel
theorem dX8_canUse_24 : decode cX8_canUse 24 = .ok (.iload_n 2, 1) := by decide +kernel
theorem dX8_canUse_25 : decode cX8_canUse 25 = .ok (.invokevirtual 239, 3) := by decide +kernel
theorem dX8_canUse_28 : decode cX8_canUse 28 = .ok (.ifCond .eq 7, 3) := by decide +kernel
theorem dX8_canUse_31 : decode cX8_canUse 31 = .ok (.iconst 1, 1) := by decide +kernel
theorem dX8_canUse_32 : decode cX8_canUse 32 = .ok (.goto 4, 3) := by decide +kernel
theorem dX8_canUse_35 : decode cX8_canUse 35 = .ok (.iconst 0, 1) := by decide +kernel
theorem dX8_canUse_36 : decode cX8_canUse 36 = .ok (.ireturn, 1) := by decide +kernel
theorem dX8_day_0 : decode cX8_day 0 = .ok (.aload_n 0, 1) := by decide +kernel
theorem dX8_day_1 : decode cX8_day 1 = .ok (.iconst 0, 1) := by decide +kernel
theorem dX8_day_2 : decode cX8_day 2 = .ok (.putfield 110, 3) := by decide +kernel
theorem dX8_day_5 : decode cX8_day 5 = .ok (.aload_n 0, 1) := by decide +kernel
theorem dX8_day_6 : decode cX8_day 6 = .ok (.getfield 176, 3) := by decide +kernel
theorem dX8_day_9 : decode cX8_day 9 = .ok (.ireturn, 1) := by decide +kernel
theorem dX8_status_0 : decode cX8_status 0 = .ok (.aload_n 0, 1) := by decide +kernel
theorem dX8_status_1 : decode cX8_status 1 = .ok (.getfield 51, 3) := by decide +kernel
theorem dX8_status_4 : decode cX8_status 4 = .ok (.iload_n 1, 1) := by decide +kernel
theorem dX8_status_5 : decode cX8_status 5 = .ok (.caload, 1) := by decide +kernel
theorem dX8_status_6 : decode cX8_status 6 = .ok (.bipush 97, 2) := by decide +kernel
theorem dX8_status_8 : decode cX8_status 8 = .ok (.if_icmp .eq 38, 3) := by decide +kernel
theorem dX8_status_11 : decode cX8_status 11 = .ok (.aload_n 0, 1) := by decide +kernel
theorem dX8_status_12 : decode cX8_status 12 = .ok (.getfield 51, 3) := by decide +kernel
theorem dX8_status_15 : decode cX8_status 15 = .ok (.iload_n 1, 1) := by decide +kernel
theorem dX8_status_16 : decode cX8_status 16 = .ok (.caload, 1) := by decide +kernel
theorem dX8_status_17 : decode cX8_status 17 = .ok (.bipush 100, 2) := by decide +kernel
theorem dX8_status_19 : decode cX8_status 19 = .ok (.if_icmp .ne 8, 3) := by decide +kernel
theorem dX8_status_22 : decode cX8_status 22 = .ok (.ldc 250, 2) := by decide +kernel
theorem dX8_status_24 : decode cX8_status 24 = .ok (.goto 21, 3) := by decide +kernel
theorem dX8_status_27 : decode cX8_status 27 = .ok (.aload_n 0, 1) := by decide +kernel
theorem dX8_status_28 : decode cX8_status 28 = .ok (.getfield 51, 3) := by decide +kernel
theorem dX8_status_31 : decode cX8_status 31 = .ok (.iload_n 1, 1) := by decide +kernel
theorem dX8_status_32 : decode cX8_status 32 = .ok (.caload, 1) := by decide +kernel
theorem dX8_status_33 : decode cX8_status 33 = .ok (.bipush 119, 2) := by decide +kernel
theorem dX8_status_35 : decode cX8_status 35 = .ok (.if_icmp .ne 8, 3) := by decide +kernel
theorem dX8_status_38 : decode cX8_status 38 = .ok (.ldc 252, 2) := by decide +kernel
theorem dX8_status_40 : decode cX8_status 40 = .ok (.goto 5, 3) := by decide +kernel
theorem dX8_status_43 : decode cX8_status 43 = .ok (.ldc 254, 2) := by decide +kernel
theorem dX8_status_45 : decode cX8_status 45 = .ok (.areturn, 1) := by decide +kernel
theorem dX8_status_46 : decode cX8_status 46 = .ok (.aload_n 0, 1) := by decide +kernel
theorem dX8_status_47 : decode cX8_status 47 = .ok (.iload_n 1, 1) := by decide +kernel
theorem dX8_status_48 : decode cX8_status 48 = .ok (.invokevirtual 161, 3) := by decide +kernel
theorem dX8_status_51 : decode cX8_status 51 = .ok (.istore_n 2, 1) := by decide +kernel
theorem dX8_status_52 : decode cX8_status 52 = .ok (.iload_n 2, 1) := by decide +kernel
theorem dX8_status_53 : decode cX8_status 53 = .ok (.bipush 45, 2) := by decide +kernel
theorem dX8_status_55 : decode cX8_status 55 = .ok (.if_icmp .ne 9, 3) := by decide +kernel
theorem dX8_status_58 : decode cX8_status 58 = .ok (.ldc_w 256, 3) := by decide +kernel
theorem dX8_status_61 : decode cX8_status 61 = .ok (.goto 30, 3) := by decide +kernel
theorem dX8_status_64 : decode cX8_status 64 = .ok (.iload_n 2, 1) := by decide +kernel
theorem dX8_status_65 : decode cX8_status 65 = .ok (.bipush 118, 2) := by decide +kernel
theorem dX8_status_67 : decode cX8_status 67 = .ok (.if_icmp .ne 9, 3) := by decide +kernel
theorem dX8_status_70 : decode cX8_status 70 = .ok (.ldc_w 258, 3) := by decide +kernel
theorem dX8_status_73 : decode cX8_status 73 = .ok (.goto 18, 3) := by decide +kernel
theorem dX8_status_76 : decode cX8_status 76 = .ok (.iload_n 2, 1) := by decide +kernel
theorem dX8_status_77 : decode cX8_status 77 = .ok (.bipush 99, 2) := by decide +kernel
theorem dX8_status_79 : decode cX8_status 79 = .ok (.if_icmp .ne 9, 3) := by decide +kernel
theorem dX8_status_82 : decode cX8_status 82 = .ok (.ldc_w 260, 3) := by decide +kernel
theorem dX8_status_85 : decode cX8_status 85 = .ok (.goto 6, 3) := by decide +kernel
theorem dX8_status_88 : decode cX8_status 88 = .ok (.ldc_w 262, 3) := by decide +kernel
theorem dX8_status_91 : decode cX8_status 91 = .ok (.areturn, 1) := by decide +kernel
theorem dX8_writeBuild_0 : decode cX8_writeBuild 0 = .ok (.aload_n 0, 1) := by decide +kernel
theorem dX8_writeBuild_1 : decode cX8_writeBuild 1 = .ok (.iload_n 1, 1) := by decide +kernel
theorem dX8_writeBuild_2 : decode cX8_writeBuild 2 = .ok (.invokevirtual 140, 3) := by decide +kernel
theorem dX8_writeBuild_5 : decode cX8_writeBuild 5 = .ok (.ifCond .eq 5, 3) := by decide +kernel
theorem dX8_writeBuild_8 : decode cX8_writeBuild 8 = .ok (.iconst 0, 1) := by decide +kernel
theorem dX8_writeBuild_9 : decode cX8_writeBuild 9 = .ok (.ireturn, 1) := by decide +kernel
theorem dX8_writeBuild_10 : decode cX8_writeBuild 10 = .ok (.aload_n 0, 1) := by decide +kernel
theorem dX8_writeBuild_11 : decode cX8_writeBuild 11 = .ok (.new 103, 3) := by decide +kernel
theorem dX8_writeBuild_14 : decode cX8_writeBuild 14 = .ok (.dup, 1) := by decide +kernel
theorem dX8_writeBuild_15 : decode cX8_writeBuild 15 = .ok (.invokespecial 105, 3) := by decide +kernel
theorem dX8_writeBuild_18 : decode cX8_writeBuild 18 = .ok (.putfield 106, 3) := by decide +kernel
theorem dX8_writeBuild_21 : decode cX8_writeBuild 21 = .ok (.aload_n 0, 1) := by decide +kernel
theorem dX8_writeBuild_22 : decode cX8_writeBuild 22 = .ok (.getfield 106, 3) := by decide +kernel
theorem dX8_writeBuild_25 : decode cX8_writeBuild 25 = .ok (.bipush 118, 2) := by decide +kernel
theorem dX8_writeBuild_27 : decode cX8_writeBuild 27 = .ok (.invokevirtual 264, 3) := by decide +kernel
theorem dX8_writeBuild_30 : decode cX8_writeBuild 30 = .ok (.aload_n 0, 1) := by decide +kernel
theorem dX8_writeBuild_31 : decode cX8_writeBuild 31 = .ok (.getfield 30, 3) := by decide +kernel
theorem dX8_writeBuild_34 : decode cX8_writeBuild 34 = .ok (.iload_n 1, 1) := by decide +kernel
theorem dX8_writeBuild_35 : decode cX8_writeBuild 35 = .ok (.iaload, 1) := by decide +kernel
theorem dX8_writeBuild_36 : decode cX8_writeBuild 36 = .ok (.invokevirtual 268, 3) := by decide +kernel
theorem dX8_writeBuild_39 : decode cX8_writeBuild 39 = .ok (.aload_n 0, 1) := by decide +kernel
theorem dX8_writeBuild_40 : decode cX8_writeBuild 40 = .ok (.getfield 48, 3) := by decide +kernel
theorem dX8_writeBuild_43 : decode cX8_writeBuild 43 = .ok (.iload_n 1, 1) := by decide +kernel
theorem dX8_writeBuild_44 : decode cX8_writeBuild 44 = .ok (.iaload, 1) := by decide +kernel
theorem dX8_writeBuild_45 : decode cX8_writeBuild 45 = .ok (.iconst (-1), 1) := by decide +kernel
theorem dX8_writeBuild_46 : decode cX8_writeBuild 46 = .ok (.if_icmp .ne 9, 3) := by decide +kernel
theorem dX8_writeBuild_49 : decode cX8_writeBuild 49 = .ok (.ldc_w 271, 3) := by decide +kernel
theorem dX8_writeBuild_52 : decode cX8_writeBuild 52 = .ok (.goto 6, 3) := by decide +kernel
theorem dX8_writeBuild_55 : decode cX8_writeBuild 55 = .ok (.ldc_w 273, 3) := by decide +kernel
theorem dX8_writeBuild_58 : decode cX8_writeBuild 58 = .ok (.invokevirtual 275, 3) := by decide +kernel
theorem dX8_writeBuild_61 : decode cX8_writeBuild 61 = .ok (.aload_n 0, 1) := by decide +kernel
theorem dX8_writeBuild_62 : decode cX8_writeBuild 62 = .ok (.iload_n 1, 1) := by decide +kernel
theorem dX8_writeBuild_63 : decode cX8_writeBuild 63 = .ok (.invokevirtual 278, 3) := by decide +kernel
theorem dX8_writeBuild_66 : decode cX8_writeBuild 66 = .ok (.invokevirtual 275, 3) := by decide +kernel
theorem dX8_writeBuild_69 : decode cX8_writeBuild 69 = .ok (.pop, 1) := by decide +kernel
theorem dX8_writeBuild_70 : decode cX8_writeBuild 70 = .ok (.aload_n 0, 1) := by decide +kernel
theorem dX8_writeBuild_71 : decode cX8_writeBuild 71 = .ok (.getfield 106, 3) := by decide +kernel
theorem dX8_writeBuild_74 : decode cX8_writeBuild 74 = .ok (.invokevirtual 282, 3) := by decide +kernel
theorem dX8_writeBuild_77 : decode cX8_writeBuild 77 = .ok (.ireturn, 1) := by decide +kernel
theorem dX8_lineAt_0 : decode cX8_lineAt 0 = .ok (.aload_n 0, 1) := by decide +kernel
theorem dX8_lineAt_1 : decode cX8_lineAt 1 = .ok (.iload_n 1, 1) := by decide +kernel
theorem dX8_lineAt_2 : decode cX8_lineAt 2 = .ok (.iconst 0, 1) := by decide +kernel
theorem dX8_lineAt_3 : decode cX8_lineAt 3 = .ok (.aload_n 0, 1) := by decide +kernel
theorem dX8_lineAt_4 : decode cX8_lineAt 4 = .ok (.getfield 106, 3) := by decide +kernel
theorem dX8_lineAt_7 : decode cX8_lineAt 7 = .ok (.invokevirtual 282, 3) := by decide +kernel
theorem dX8_lineAt_10 : decode cX8_lineAt 10 = .ok (.iconst 1, 1) := by decide +kernel
theorem dX8_lineAt_11 : decode cX8_lineAt 11 = .ok (.isub, 1) := by decide +kernel
theorem dX8_lineAt_12 : decode cX8_lineAt 12 = .ok (.invokestatic 116, 3) := by decide +kernel
theorem dX8_lineAt_15 : decode cX8_lineAt 15 = .ok (.ifCond .eq 7, 3) := by decide +kernel
theorem dX8_lineAt_18 : decode cX8_lineAt 18 = .ok (.iconst 0, 1) := by decide +kernel
theorem dX8_lineAt_19 : decode cX8_lineAt 19 = .ok (.goto 4, 3) := by decide +kernel
theorem dX8_lineAt_22 : decode cX8_lineAt 22 = .ok (.iconst 1, 1) := by decide +kernel
theorem dX8_lineAt_23 : decode cX8_lineAt 23 = .ok (.putfield 110, 3) := by decide +kernel
theorem dX8_lineAt_26 : decode cX8_lineAt 26 = .ok (.aload_n 0, 1) := by decide +kernel
theorem dX8_lineAt_27 : decode cX8_lineAt 27 = .ok (.getfield 110, 3) := by decide +kernel
theorem dX8_lineAt_30 : decode cX8_lineAt 30 = .ok (.ifCond .le 8, 3) := by decide +kernel
theorem dX8_lineAt_33 : decode cX8_lineAt 33 = .ok (.bipush 32, 2) := by decide +kernel
theorem dX8_lineAt_35 : decode cX8_lineAt 35 = .ok (.goto 11, 3) := by decide +kernel
theorem dX8_lineAt_38 : decode cX8_lineAt 38 = .ok (.aload_n 0, 1) := by decide +kernel
theorem dX8_lineAt_39 : decode cX8_lineAt 39 = .ok (.getfield 106, 3) := by decide +kernel
theorem dX8_lineAt_42 : decode cX8_lineAt 42 = .ok (.iload_n 1, 1) := by decide +kernel
theorem dX8_lineAt_43 : decode cX8_lineAt 43 = .ok (.invokevirtual 285, 3) := by decide +kernel
theorem dX8_lineAt_46 : decode cX8_lineAt 46 = .ok (.ireturn, 1) := by decide +kernel
theorem dX8_usedShare_0 : decode cX8_usedShare 0 = .ok (.iconst 0, 1) := by decide +kernel
theorem dX8_usedShare_1 : decode cX8_usedShare 1 = .ok (.istore_n 1, 1) := by decide +kernel
theorem dX8_usedShare_2 : decode cX8_usedShare 2 = .ok (.iconst 0, 1) := by decide +kernel
theorem dX8_usedShare_3 : decode cX8_usedShare 3 = .ok (.istore_n 2, 1) := by decide +kernel
theorem dX8_usedShare_4 : decode cX8_usedShare 4 = .ok (.iconst 0, 1) := by decide +kernel
theorem dX8_usedShare_5 : decode cX8_usedShare 5 = .ok (.istore_n 3, 1) := by decide +kernel
theorem dX8_usedShare_6 : decode cX8_usedShare 6 = .ok (.iload_n 3, 1) := by decide +kernel
theorem dX8_usedShare_7 : decode cX8_usedShare 7 = .ok (.aload_n 0, 1) := by decide +kernel
theorem dX8_usedShare_8 : decode cX8_usedShare 8 = .ok (.getfield 113, 3) := by decide +kernel
theorem dX8_usedShare_11 : decode cX8_usedShare 11 = .ok (.if_icmp .ge 79, 3) := by decide +kernel
theorem dX8_usedShare_14 : decode cX8_usedShare 14 = .ok (.iconst 0, 1) := by decide +kernel
theorem dX8_usedShare_15 : decode cX8_usedShare 15 = .ok (.istore 4, 2) := by decide +kernel
theorem dX8_usedShare_17 : decode cX8_usedShare 17 = .ok (.iload 4, 2) := by decide +kernel
theorem dX8_usedShare_19 : decode cX8_usedShare 19 = .ok (.bipush 8, 2) := by decide +kernel
theorem dX8_usedShare_21 : decode cX8_usedShare 21 = .ok (.if_icmp .ge 63, 3) := by decide +kernel
theorem dX8_usedShare_24 : decode cX8_usedShare 24 = .ok (.iload_n 1, 1) := by decide +kernel
theorem dX8_usedShare_25 : decode cX8_usedShare 25 = .ok (.aload_n 0, 1) := by decide +kernel
theorem dX8_usedShare_26 : decode cX8_usedShare 26 = .ok (.getfield 22, 3) := by decide +kernel
theorem dX8_usedShare_29 : decode cX8_usedShare 29 = .ok (.iload_n 3, 1) := by decide +kernel
theorem dX8_usedShare_30 : decode cX8_usedShare 30 = .ok (.iaload, 1) := by decide +kernel
theorem dX8_usedShare_31 : decode cX8_usedShare 31 = .ok (.iload 4, 2) := by decide +kernel
theorem dX8_usedShare_33 : decode cX8_usedShare 33 = .ok (.invokestatic 192, 3) := by decide +kernel
theorem dX8_usedShare_36 : decode cX8_usedShare 36 = .ok (.ifCond .eq 7, 3) := by decide +kernel
theorem dX8_usedShare_39 : decode cX8_usedShare 39 = .ok (.iconst 1, 1) := by decide +kernel
theorem dX8_usedShare_40 : decode cX8_usedShare 40 = .ok (.goto 4, 3) := by decide +kernel
theorem dX8_usedShare_43 : decode cX8_usedShare 43 = .ok (.iconst 0, 1) := by decide +kernel
theorem dX8_usedShare_44 : decode cX8_usedShare 44 = .ok (.iadd, 1) := by decide +kernel
theorem dX8_usedShare_45 : decode cX8_usedShare 45 = .ok (.istore_n 1, 1) := by decide +kernel
theorem dX8_usedShare_46 : decode cX8_usedShare 46 = .ok (.iload_n 2, 1) := by decide +kernel
theorem dX8_usedShare_47 : decode cX8_usedShare 47 = .ok (.aload_n 0, 1) := by decide +kernel
theorem dX8_usedShare_48 : decode cX8_usedShare 48 = .ok (.getfield 22, 3) := by decide +kernel
theorem dX8_usedShare_51 : decode cX8_usedShare 51 = .ok (.iload_n 3, 1) := by decide +kernel
theorem dX8_usedShare_52 : decode cX8_usedShare 52 = .ok (.iaload, 1) := by decide +kernel
theorem dX8_usedShare_53 : decode cX8_usedShare 53 = .ok (.iload 4, 2) := by decide +kernel
theorem dX8_usedShare_55 : decode cX8_usedShare 55 = .ok (.invokestatic 192, 3) := by decide +kernel
theorem dX8_usedShare_58 : decode cX8_usedShare 58 = .ok (.ifCond .eq 17, 3) := by decide +kernel
theorem dX8_usedShare_61 : decode cX8_usedShare 61 = .ok (.aload_n 0, 1) := by decide +kernel
theorem dX8_usedShare_62 : decode cX8_usedShare 62 = .ok (.iload_n 3, 1) := by decide +kernel
theorem dX8_usedShare_63 : decode cX8_usedShare 63 = .ok (.iload 4, 2) := by decide +kernel
theorem dX8_usedShare_65 : decode cX8_usedShare 65 = .ok (.invokevirtual 239, 3) := by decide +kernel
theorem dX8_usedShare_68 : decode cX8_usedShare 68 = .ok (.ifCond .eq 7, 3) := by decide +kernel
theorem dX8_usedShare_71 : decode cX8_usedShare 71 = .ok (.iconst 1, 1) := by decide +kernel
theorem dX8_usedShare_72 : decode cX8_usedShare 72 = .ok (.goto 4, 3) := by decide +kernel
theorem dX8_usedShare_75 : decode cX8_usedShare 75 = .ok (.iconst 0, 1) := by decide +kernel
theorem dX8_usedShare_76 : decode cX8_usedShare 76 = .ok (.iadd, 1) := by decide +kernel
theorem dX8_usedShare_77 : decode cX8_usedShare 77 = .ok (.istore_n 2, 1) := by decide +kernel
theorem dX8_usedShare_78 : decode cX8_usedShare 78 = .ok (.iinc 4 1, 3) := by decide +kernel
theorem dX8_usedShare_81 : decode cX8_usedShare 81 = .ok (.goto (-64), 3) := by decide +kernel
theorem dX8_usedShare_84 : decode cX8_usedShare 84 = .ok (.iinc 3 1, 3) := by decide +kernel
theorem dX8_usedShare_87 : decode cX8_usedShare 87 = .ok (.goto (-81), 3) := by decide +kernel
theorem dX8_usedShare_90 : decode cX8_usedShare 90 = .ok (.aload_n 0, 1) := by decide +kernel
theorem dX8_usedShare_91 : decode cX8_usedShare 91 = .ok (.iload_n 1, 1) := by decide +kernel
theorem dX8_usedShare_92 : decode cX8_usedShare 92 = .ok (.ifCond .ne 7, 3) := by decide +kernel
theorem dX8_usedShare_95 : decode cX8_usedShare 95 = .ok (.iconst 1, 1) := by decide +kernel
theorem dX8_usedShare_96 : decode cX8_usedShare 96 = .ok (.goto 4, 3) := by decide +kernel
theorem dX8_usedShare_99 : decode cX8_usedShare 99 = .ok (.iconst 0, 1) := by decide +kernel
theorem dX8_usedShare_100 : decode cX8_usedShare 100 = .ok (.putfield 110, 3) := by decide +kernel
theorem dX8_usedShare_103 : decode cX8_usedShare 103 = .ok (.aload_n 0, 1) := by decide +kernel
theorem dX8_usedShare_104 : decode cX8_usedShare 104 = .ok (.getfield 110, 3) := by decide +kernel
theorem dX8_usedShare_107 : decode cX8_usedShare 107 = .ok (.ifCond .le 7, 3) := by decide +kernel
theorem dX8_usedShare_110 : decode cX8_usedShare 110 = .ok (.fconst 0, 1) := by decide +kernel
theorem dX8_usedShare_111 : decode cX8_usedShare 111 = .ok (.goto 8, 3) := by decide +kernel
theorem dX8_usedShare_114 : decode cX8_usedShare 114 = .ok (.iload_n 2, 1) := by decide +kernel
theorem dX8_usedShare_115 : decode cX8_usedShare 115 = .ok (.i2f, 1) := by decide +kernel
theorem dX8_usedShare_116 : decode cX8_usedShare 116 = .ok (.iload_n 1, 1) := by decide +kernel
theorem dX8_usedShare_117 : decode cX8_usedShare 117 = .ok (.i2f, 1) := by decide +kernel
theorem dX8_usedShare_118 : decode cX8_usedShare 118 = .ok (.fdiv, 1) := by decide +kernel
theorem dX8_usedShare_119 : decode cX8_usedShare 119 = .ok (.freturn, 1) := by decide +kernel
theorem dL_addDevice_0 : decode cL_addDevice 0 = .ok (.aload 4, 2) := by decide +kernel
theorem dL_addDevice_2 : decode cL_addDevice 2 = .ok (.iconst 0, 1) := by decide +kernel
theorem dL_addDevice_3 : decode cL_addDevice 3 = .ok (.aload_n 0, 1) := by decide +kernel
theorem dL_addDevice_4 : decode cL_addDevice 4 = .ok (.iload_n 1, 1) := by decide +kernel
theorem dL_addDevice_5 : decode cL_addDevice 5 = .ok (.iload_n 2, 1) := by decide +kernel
theorem dL_addDevice_6 : decode cL_addDevice 6 = .ok (.iload_n 3, 1) := by decide +kernel
theorem dL_addDevice_7 : decode cL_addDevice 7 = .ok (.invokevirtual 7, 3) := by decide +kernel
theorem dL_addDevice_10 : decode cL_addDevice 10 = .ok (.i2l, 1) := by decide +kernel
theorem dL_addDevice_11 : decode cL_addDevice 11 = .ok (.lastore, 1) := by decide +kernel
theorem dL_addDevice_12 : decode cL_addDevice 12 = .ok (.goto 11, 3) := by decide +kernel
theorem dL_addDevice_15 : decode cL_addDevice 15 = .ok (.astore 5, 2) := by decide +kernel
theorem dL_addDevice_17 : decode cL_addDevice 17 = .ok (.iconst 1, 1) := by decide +kernel
theorem dL_addDevice_18 : decode cL_addDevice 18 = .ok (.ireturn, 1) := by decide +kernel
theorem dL_addDevice_19 : decode cL_addDevice 19 = .ok (.astore 5, 2) := by decide +kernel
theorem dL_addDevice_21 : decode cL_addDevice 21 = .ok (.iconst 2, 1) := by decide +kernel
theorem dL_addDevice_22 : decode cL_addDevice 22 = .ok (.ireturn, 1) := by decide +kernel
theorem dL_addDevice_23 : decode cL_addDevice 23 = .ok (.iconst 0, 1) := by decide +kernel
theorem dL_addDevice_24 : decode cL_addDevice 24 = .ok (.ireturn, 1) := by decide +kernel
theorem dL_addBuild_0 : decode cL_addBuild 0 = .ok (.aload 7, 2) := by decide +kernel
theorem dL_addBuild_2 : decode cL_addBuild 2 = .ok (.iconst 0, 1) := by decide +kernel
theorem dL_addBuild_3 : decode cL_addBuild 3 = .ok (.aload_n 0, 1) := by decide +kernel
theorem dL_addBuild_4 : decode cL_addBuild 4 = .ok (.iload_n 1, 1) := by decide +kernel
theorem dL_addBuild_5 : decode cL_addBuild 5 = .ok (.iload_n 2, 1) := by decide +kernel
theorem dL_addBuild_6 : decode cL_addBuild 6 = .ok (.iload_n 3, 1) := by decide +kernel
theorem dL_addBuild_7 : decode cL_addBuild 7 = .ok (.iload 4, 2) := by decide +kernel
theorem dL_addBuild_9 : decode cL_addBuild 9 = .ok (.iload 5, 2) := by decide +kernel
theorem dL_addBuild_11 : decode cL_addBuild 11 = .ok (.iload 6, 2) := by decide +kernel
theorem dL_addBuild_13 : decode cL_addBuild 13 = .ok (.invokevirtual 17, 3) := by decide +kernel
theorem dL_addBuild_16 : decode cL_addBuild 16 = .ok (.i2l, 1) := by decide +kernel
theorem dL_addBuild_17 : decode cL_addBuild 17 = .ok (.lastore, 1) := by decide +kernel
theorem dL_addBuild_18 : decode cL_addBuild 18 = .ok (.goto 11, 3) := by decide +kernel
theorem dL_addBuild_21 : decode cL_addBuild 21 = .ok (.astore 8, 2) := by decide +kernel
theorem dL_addBuild_23 : decode cL_addBuild 23 = .ok (.iconst 1, 1) := by decide +kernel
theorem dL_addBuild_24 : decode cL_addBuild 24 = .ok (.ireturn, 1) := by decide +kernel
theorem dL_addBuild_25 : decode cL_addBuild 25 = .ok (.astore 8, 2) := by decide +kernel
theorem dL_addBuild_27 : decode cL_addBuild 27 = .ok (.iconst 2, 1) := by decide +kernel
theorem dL_addBuild_28 : decode cL_addBuild 28 = .ok (.ireturn, 1) := by decide +kernel
theorem dL_addBuild_29 : decode cL_addBuild 29 = .ok (.iconst 0, 1) := by decide +kernel
theorem dL_addBuild_30 : decode cL_addBuild 30 = .ok (.ireturn, 1) := by decide +kernel
theorem dL_addFix_0 : decode cL_addFix 0 = .ok (.aload 5, 2) := by decide +kernel
theorem dL_addFix_2 : decode cL_addFix 2 = .ok (.iconst 0, 1) := by decide +kernel
theorem dL_addFix_3 : decode cL_addFix 3 = .ok (.aload_n 0, 1) := by decide +kernel
theorem dL_addFix_4 : decode cL_addFix 4 = .ok (.iload_n 1, 1) := by decide +kernel
theorem dL_addFix_5 : decode cL_addFix 5 = .ok (.iload_n 2, 1) := by decide +kernel
theorem dL_addFix_6 : decode cL_addFix 6 = .ok (.iload_n 3, 1) := by decide +kernel
theorem dL_addFix_7 : decode cL_addFix 7 = .ok (.iload 4, 2) := by decide +kernel
theorem dL_addFix_9 : decode cL_addFix 9 = .ok (.invokevirtual 21, 3) := by decide +kernel
