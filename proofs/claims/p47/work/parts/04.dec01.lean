theorem dX7_update_19 : decode cX7_update 19 = .ok (.aload_n 2, 1) := by decide +kernel
theorem dX7_update_20 : decode cX7_update 20 = .ok (.getfield 225, 3) := by decide +kernel
theorem dX7_update_23 : decode cX7_update 23 = .ok (.getfield 215, 3) := by decide +kernel
theorem dX7_update_26 : decode cX7_update 26 = .ok (.aload_n 2, 1) := by decide +kernel
theorem dX7_update_27 : decode cX7_update 27 = .ok (.getfield 228, 3) := by decide +kernel
theorem dX7_update_30 : decode cX7_update 30 = .ok (.iconst (-1), 1) := by decide +kernel
theorem dX7_update_31 : decode cX7_update 31 = .ok (.invokevirtual 102, 3) := by decide +kernel
theorem dX7_update_34 : decode cX7_update 34 = .ok (.aload_n 3, 1) := by decide +kernel
theorem dX7_update_35 : decode cX7_update 35 = .ok (.getfield 215, 3) := by decide +kernel
theorem dX7_update_38 : decode cX7_update 38 = .ok (.aload_n 2, 1) := by decide +kernel
theorem dX7_update_39 : decode cX7_update 39 = .ok (.getfield 228, 3) := by decide +kernel
theorem dX7_update_42 : decode cX7_update 42 = .ok (.iconst 1, 1) := by decide +kernel
theorem dX7_update_43 : decode cX7_update 43 = .ok (.invokevirtual 102, 3) := by decide +kernel
theorem dX7_update_46 : decode cX7_update 46 = .ok (.aload_n 3, 1) := by decide +kernel
theorem dX7_update_47 : decode cX7_update 47 = .ok (.dup, 1) := by decide +kernel
theorem dX7_update_48 : decode cX7_update 48 = .ok (.getfield 231, 3) := by decide +kernel
theorem dX7_update_51 : decode cX7_update 51 = .ok (.iconst 1, 1) := by decide +kernel
theorem dX7_update_52 : decode cX7_update 52 = .ok (.iadd, 1) := by decide +kernel
theorem dX7_update_53 : decode cX7_update 53 = .ok (.putfield 231, 3) := by decide +kernel
theorem dX7_update_56 : decode cX7_update 56 = .ok (.aload_n 2, 1) := by decide +kernel
theorem dX7_update_57 : decode cX7_update 57 = .ok (.aload_n 3, 1) := by decide +kernel
theorem dX7_update_58 : decode cX7_update 58 = .ok (.putfield 225, 3) := by decide +kernel
theorem dX7_update_61 : decode cX7_update 61 = .ok (.aload_n 2, 1) := by decide +kernel
theorem dX7_update_62 : decode cX7_update 62 = .ok (.iconst 0, 1) := by decide +kernel
theorem dX7_update_63 : decode cX7_update 63 = .ok (.putfield 234, 3) := by decide +kernel
theorem dX7_update_66 : decode cX7_update 66 = .ok (.aload_n 3, 1) := by decide +kernel
theorem dX7_update_67 : decode cX7_update 67 = .ok (.getfield 142, 3) := by decide +kernel
theorem dX7_update_70 : decode cX7_update 70 = .ok (.ireturn, 1) := by decide +kernel
theorem dX7_buildOf_0 : decode cX7_buildOf 0 = .ok (.aload_n 0, 1) := by decide +kernel
theorem dX7_buildOf_1 : decode cX7_buildOf 1 = .ok (.iload_n 1, 1) := by decide +kernel
theorem dX7_buildOf_2 : decode cX7_buildOf 2 = .ok (.invokevirtual 185, 3) := by decide +kernel
theorem dX7_buildOf_5 : decode cX7_buildOf 5 = .ok (.invokestatic 237, 3) := by decide +kernel
theorem dX7_buildOf_8 : decode cX7_buildOf 8 = .ok (.getfield 142, 3) := by decide +kernel
theorem dX7_buildOf_11 : decode cX7_buildOf 11 = .ok (.ireturn, 1) := by decide +kernel
theorem dX7_devicesWith_0 : decode cX7_devicesWith 0 = .ok (.aload_n 0, 1) := by decide +kernel
theorem dX7_devicesWith_1 : decode cX7_devicesWith 1 = .ok (.iload_n 1, 1) := by decide +kernel
theorem dX7_devicesWith_2 : decode cX7_devicesWith 2 = .ok (.invokevirtual 115, 3) := by decide +kernel
theorem dX7_devicesWith_5 : decode cX7_devicesWith 5 = .ok (.getfield 215, 3) := by decide +kernel
theorem dX7_devicesWith_8 : decode cX7_devicesWith 8 = .ok (.getfield 218, 3) := by decide +kernel
theorem dX7_devicesWith_11 : decode cX7_devicesWith 11 = .ok (.ireturn, 1) := by decide +kernel
theorem dX7_installs_0 : decode cX7_installs 0 = .ok (.aload_n 0, 1) := by decide +kernel
theorem dX7_installs_1 : decode cX7_installs 1 = .ok (.iload_n 1, 1) := by decide +kernel
theorem dX7_installs_2 : decode cX7_installs 2 = .ok (.invokevirtual 115, 3) := by decide +kernel
theorem dX7_installs_5 : decode cX7_installs 5 = .ok (.getfield 231, 3) := by decide +kernel
theorem dX7_installs_8 : decode cX7_installs 8 = .ok (.ireturn, 1) := by decide +kernel
theorem dX7_type_0 : decode cX7_type 0 = .ok (.iload_n 1, 1) := by decide +kernel
theorem dX7_type_1 : decode cX7_type 1 = .ok (.bipush 97, 2) := by decide +kernel
theorem dX7_type_3 : decode cX7_type 3 = .ok (.if_icmp .lt 9, 3) := by decide +kernel
theorem dX7_type_6 : decode cX7_type 6 = .ok (.iload_n 1, 1) := by decide +kernel
theorem dX7_type_7 : decode cX7_type 7 = .ok (.bipush 122, 2) := by decide +kernel
theorem dX7_type_9 : decode cX7_type 9 = .ok (.if_icmp .le 13, 3) := by decide +kernel
theorem dX7_type_12 : decode cX7_type 12 = .ok (.new 67, 3) := by decide +kernel
theorem dX7_type_15 : decode cX7_type 15 = .ok (.dup, 1) := by decide +kernel
theorem dX7_type_16 : decode cX7_type 16 = .ok (.ldc 240, 2) := by decide +kernel
theorem dX7_type_18 : decode cX7_type 18 = .ok (.invokespecial 71, 3) := by decide +kernel
theorem dX7_type_21 : decode cX7_type 21 = .ok (.athrow, 1) := by decide +kernel
theorem dX7_type_22 : decode cX7_type 22 = .ok (.aload_n 0, 1) := by decide +kernel
theorem dX7_type_23 : decode cX7_type 23 = .ok (.getfield 28, 3) := by decide +kernel
theorem dX7_type_26 : decode cX7_type 26 = .ok (.getfield 242, 3) := by decide +kernel
theorem dX7_type_29 : decode cX7_type 29 = .ok (.bipush 6, 2) := by decide +kernel
theorem dX7_type_31 : decode cX7_type 31 = .ok (.if_icmp .lt 13, 3) := by decide +kernel
theorem dX7_type_34 : decode cX7_type 34 = .ok (.new 78, 3) := by decide +kernel
theorem dX7_type_37 : decode cX7_type 37 = .ok (.dup, 1) := by decide +kernel
theorem dX7_type_38 : decode cX7_type 38 = .ok (.ldc 245, 2) := by decide +kernel
theorem dX7_type_40 : decode cX7_type 40 = .ok (.invokespecial 82, 3) := by decide +kernel
theorem dX7_type_43 : decode cX7_type 43 = .ok (.athrow, 1) := by decide +kernel
theorem dX7_type_44 : decode cX7_type 44 = .ok (.aload_n 0, 1) := by decide +kernel
theorem dX7_type_45 : decode cX7_type 45 = .ok (.getfield 28, 3) := by decide +kernel
theorem dX7_type_48 : decode cX7_type 48 = .ok (.iload_n 1, 1) := by decide +kernel
theorem dX7_type_49 : decode cX7_type 49 = .ok (.invokevirtual 247, 3) := by decide +kernel
theorem dX7_type_52 : decode cX7_type 52 = .ok (.aload_n 0, 1) := by decide +kernel
theorem dX7_type_53 : decode cX7_type 53 = .ok (.getfield 28, 3) := by decide +kernel
theorem dX7_type_56 : decode cX7_type 56 = .ok (.getfield 242, 3) := by decide +kernel
theorem dX7_type_59 : decode cX7_type 59 = .ok (.ireturn, 1) := by decide +kernel
theorem dX7_crash_0 : decode cX7_crash 0 = .ok (.aload_n 0, 1) := by decide +kernel
theorem dX7_crash_1 : decode cX7_crash 1 = .ok (.getfield 32, 3) := by decide +kernel
theorem dX7_crash_4 : decode cX7_crash 4 = .ok (.aload_n 0, 1) := by decide +kernel
theorem dX7_crash_5 : decode cX7_crash 5 = .ok (.getfield 28, 3) := by decide +kernel
theorem dX7_crash_8 : decode cX7_crash 8 = .ok (.invokevirtual 251, 3) := by decide +kernel
theorem dX7_crash_11 : decode cX7_crash 11 = .ok (.aload_n 0, 1) := by decide +kernel
theorem dX7_crash_12 : decode cX7_crash 12 = .ok (.getfield 28, 3) := by decide +kernel
theorem dX7_crash_15 : decode cX7_crash 15 = .ok (.invokevirtual 255, 3) := by decide +kernel
theorem dX7_crash_18 : decode cX7_crash 18 = .ok (.aload_n 0, 1) := by decide +kernel
theorem dX7_crash_19 : decode cX7_crash 19 = .ok (.iload_n 1, 1) := by decide +kernel
theorem dX7_crash_20 : decode cX7_crash 20 = .ok (.invokevirtual 185, 3) := by decide +kernel
theorem dX7_crash_23 : decode cX7_crash 23 = .ok (.invokestatic 237, 3) := by decide +kernel
theorem dX7_crash_26 : decode cX7_crash 26 = .ok (.astore_n 2, 1) := by decide +kernel
theorem dX7_crash_27 : decode cX7_crash 27 = .ok (.aload_n 0, 1) := by decide +kernel
theorem dX7_crash_28 : decode cX7_crash 28 = .ok (.getfield 32, 3) := by decide +kernel
theorem dX7_crash_31 : decode cX7_crash 31 = .ok (.getfield 242, 3) := by decide +kernel
theorem dX7_crash_34 : decode cX7_crash 34 = .ok (.ifCond .ne 14, 3) := by decide +kernel
theorem dX7_crash_37 : decode cX7_crash 37 = .ok (.new 78, 3) := by decide +kernel
theorem dX7_crash_40 : decode cX7_crash 40 = .ok (.dup, 1) := by decide +kernel
theorem dX7_crash_41 : decode cX7_crash 41 = .ok (.ldc_w 258, 3) := by decide +kernel
theorem dX7_crash_44 : decode cX7_crash 44 = .ok (.invokespecial 82, 3) := by decide +kernel
theorem dX7_crash_47 : decode cX7_crash 47 = .ok (.athrow, 1) := by decide +kernel
theorem dX7_crash_48 : decode cX7_crash 48 = .ok (.aload_n 0, 1) := by decide +kernel
theorem dX7_crash_49 : decode cX7_crash 49 = .ok (.invokevirtual 260, 3) := by decide +kernel
theorem dX7_crash_52 : decode cX7_crash 52 = .ok (.astore_n 3, 1) := by decide +kernel
theorem dX7_crash_53 : decode cX7_crash 53 = .ok (.aload_n 3, 1) := by decide +kernel
theorem dX7_crash_54 : decode cX7_crash 54 = .ok (.dup, 1) := by decide +kernel
theorem dX7_crash_55 : decode cX7_crash 55 = .ok (.getfield 264, 3) := by decide +kernel
theorem dX7_crash_58 : decode cX7_crash 58 = .ok (.iconst 1, 1) := by decide +kernel
theorem dX7_crash_59 : decode cX7_crash 59 = .ok (.iadd, 1) := by decide +kernel
theorem dX7_crash_60 : decode cX7_crash 60 = .ok (.putfield 264, 3) := by decide +kernel
theorem dX7_crash_63 : decode cX7_crash 63 = .ok (.aload_n 3, 1) := by decide +kernel
theorem dX7_crash_64 : decode cX7_crash 64 = .ok (.dup, 1) := by decide +kernel
theorem dX7_crash_65 : decode cX7_crash 65 = .ok (.getfield 269, 3) := by decide +kernel
theorem dX7_crash_68 : decode cX7_crash 68 = .ok (.iconst 1, 1) := by decide +kernel
theorem dX7_crash_69 : decode cX7_crash 69 = .ok (.aload_n 2, 1) := by decide +kernel
theorem dX7_crash_70 : decode cX7_crash 70 = .ok (.getfield 142, 3) := by decide +kernel
theorem dX7_crash_73 : decode cX7_crash 73 = .ok (.ishl, 1) := by decide +kernel
theorem dX7_crash_74 : decode cX7_crash 74 = .ok (.ior, 1) := by decide +kernel
theorem dX7_crash_75 : decode cX7_crash 75 = .ok (.putfield 269, 3) := by decide +kernel
theorem dX7_crash_78 : decode cX7_crash 78 = .ok (.aload_n 2, 1) := by decide +kernel
theorem dX7_crash_79 : decode cX7_crash 79 = .ok (.dup, 1) := by decide +kernel
theorem dX7_crash_80 : decode cX7_crash 80 = .ok (.getfield 272, 3) := by decide +kernel
theorem dX7_crash_83 : decode cX7_crash 83 = .ok (.iconst 1, 1) := by decide +kernel
theorem dX7_crash_84 : decode cX7_crash 84 = .ok (.iadd, 1) := by decide +kernel
theorem dX7_crash_85 : decode cX7_crash 85 = .ok (.putfield 272, 3) := by decide +kernel
theorem dX7_crash_88 : decode cX7_crash 88 = .ok (.aload_n 3, 1) := by decide +kernel
theorem dX7_crash_89 : decode cX7_crash 89 = .ok (.getfield 273, 3) := by decide +kernel
theorem dX7_crash_92 : decode cX7_crash 92 = .ok (.ireturn, 1) := by decide +kernel
theorem dX7_groups_0 : decode cX7_groups 0 = .ok (.aload_n 0, 1) := by decide +kernel
theorem dX7_groups_1 : decode cX7_groups 1 = .ok (.getfield 22, 3) := by decide +kernel
theorem dX7_groups_4 : decode cX7_groups 4 = .ok (.invokevirtual 74, 3) := by decide +kernel
theorem dX7_groups_7 : decode cX7_groups 7 = .ok (.ireturn, 1) := by decide +kernel
theorem dX7_crashesIn_0 : decode cX7_crashesIn 0 = .ok (.aload_n 0, 1) := by decide +kernel
theorem dX7_crashesIn_1 : decode cX7_crashesIn 1 = .ok (.iload_n 1, 1) := by decide +kernel
theorem dX7_crashesIn_2 : decode cX7_crashesIn 2 = .ok (.invokevirtual 274, 3) := by decide +kernel
theorem dX7_crashesIn_5 : decode cX7_crashesIn 5 = .ok (.getfield 264, 3) := by decide +kernel
theorem dX7_crashesIn_8 : decode cX7_crashesIn 8 = .ok (.ireturn, 1) := by decide +kernel
theorem dX7_stackAt_0 : decode cX7_stackAt 0 = .ok (.aload_n 0, 1) := by decide +kernel
theorem dX7_stackAt_1 : decode cX7_stackAt 1 = .ok (.iload_n 1, 1) := by decide +kernel
theorem dX7_stackAt_2 : decode cX7_stackAt 2 = .ok (.invokevirtual 274, 3) := by decide +kernel
theorem dX7_stackAt_5 : decode cX7_stackAt 5 = .ok (.getfield 278, 3) := by decide +kernel
theorem dX7_stackAt_8 : decode cX7_stackAt 8 = .ok (.astore_n 3, 1) := by decide +kernel
theorem dX7_stackAt_9 : decode cX7_stackAt 9 = .ok (.iload_n 2, 1) := by decide +kernel
theorem dX7_stackAt_10 : decode cX7_stackAt 10 = .ok (.iconst 0, 1) := by decide +kernel
theorem dX7_stackAt_11 : decode cX7_stackAt 11 = .ok (.aload_n 3, 1) := by decide +kernel
theorem dX7_stackAt_12 : decode cX7_stackAt 12 = .ok (.getfield 242, 3) := by decide +kernel
theorem dX7_stackAt_15 : decode cX7_stackAt 15 = .ok (.iconst 1, 1) := by decide +kernel
theorem dX7_stackAt_16 : decode cX7_stackAt 16 = .ok (.isub, 1) := by decide +kernel
theorem dX7_stackAt_17 : decode cX7_stackAt 17 = .ok (.invokestatic 63, 3) := by decide +kernel
theorem dX7_stackAt_20 : decode cX7_stackAt 20 = .ok (.ifCond .eq 14, 3) := by decide +kernel
theorem dX7_stackAt_23 : decode cX7_stackAt 23 = .ok (.new 281, 3) := by decide +kernel
theorem dX7_stackAt_26 : decode cX7_stackAt 26 = .ok (.dup, 1) := by decide +kernel
theorem dX7_stackAt_27 : decode cX7_stackAt 27 = .ok (.ldc_w 283, 3) := by decide +kernel
theorem dX7_stackAt_30 : decode cX7_stackAt 30 = .ok (.invokespecial 285, 3) := by decide +kernel
theorem dX7_stackAt_33 : decode cX7_stackAt 33 = .ok (.athrow, 1) := by decide +kernel
theorem dX7_stackAt_34 : decode cX7_stackAt 34 = .ok (.aload_n 3, 1) := by decide +kernel
theorem dX7_stackAt_35 : decode cX7_stackAt 35 = .ok (.getfield 286, 3) := by decide +kernel
theorem dX7_stackAt_38 : decode cX7_stackAt 38 = .ok (.iload_n 2, 1) := by decide +kernel
theorem dX7_stackAt_39 : decode cX7_stackAt 39 = .ok (.caload, 1) := by decide +kernel
theorem dX7_stackAt_40 : decode cX7_stackAt 40 = .ok (.ireturn, 1) := by decide +kernel
theorem dX7_likeness_0 : decode cX7_likeness 0 = .ok (.aload_n 0, 1) := by decide +kernel
theorem dX7_likeness_1 : decode cX7_likeness 1 = .ok (.iload_n 1, 1) := by decide +kernel
theorem dX7_likeness_2 : decode cX7_likeness 2 = .ok (.invokevirtual 274, 3) := by decide +kernel
theorem dX7_likeness_5 : decode cX7_likeness 5 = .ok (.getfield 278, 3) := by decide +kernel
theorem dX7_likeness_8 : decode cX7_likeness 8 = .ok (.astore_n 3, 1) := by decide +kernel
theorem dX7_likeness_9 : decode cX7_likeness 9 = .ok (.aload_n 3, 1) := by decide +kernel
theorem dX7_likeness_10 : decode cX7_likeness 10 = .ok (.aload_n 0, 1) := by decide +kernel
theorem dX7_likeness_11 : decode cX7_likeness 11 = .ok (.iload_n 2, 1) := by decide +kernel
theorem dX7_likeness_12 : decode cX7_likeness 12 = .ok (.invokevirtual 274, 3) := by decide +kernel
theorem dX7_likeness_15 : decode cX7_likeness 15 = .ok (.getfield 278, 3) := by decide +kernel
theorem dX7_likeness_18 : decode cX7_likeness 18 = .ok (.invokevirtual 290, 3) := by decide +kernel
theorem dX7_likeness_21 : decode cX7_likeness 21 = .ok (.freturn, 1) := by decide +kernel
theorem dX7_setBound_0 : decode cX7_setBound 0 = .ok (.iload_n 1, 1) := by decide +kernel
theorem dX7_setBound_1 : decode cX7_setBound 1 = .ok (.iconst 0, 1) := by decide +kernel
theorem dX7_setBound_2 : decode cX7_setBound 2 = .ok (.sipush 1000, 3) := by decide +kernel
theorem dX7_setBound_5 : decode cX7_setBound 5 = .ok (.invokestatic 63, 3) := by decide +kernel
theorem dX7_setBound_8 : decode cX7_setBound 8 = .ok (.ifCond .eq 13, 3) := by decide +kernel
theorem dX7_setBound_11 : decode cX7_setBound 11 = .ok (.new 67, 3) := by decide +kernel
theorem dX7_setBound_14 : decode cX7_setBound 14 = .ok (.dup, 1) := by decide +kernel
theorem dX7_setBound_15 : decode cX7_setBound 15 = .ok (.ldc 157, 2) := by decide +kernel
theorem dX7_setBound_17 : decode cX7_setBound 17 = .ok (.invokespecial 71, 3) := by decide +kernel
theorem dX7_setBound_20 : decode cX7_setBound 20 = .ok (.athrow, 1) := by decide +kernel
theorem dX7_setBound_21 : decode cX7_setBound 21 = .ok (.aload_n 0, 1) := by decide +kernel
theorem dX7_setBound_22 : decode cX7_setBound 22 = .ok (.getfield 53, 3) := by decide +kernel
theorem dX7_setBound_25 : decode cX7_setBound 25 = .ok (.invokestatic 294, 3) := by decide +kernel
theorem dX7_setBound_28 : decode cX7_setBound 28 = .ok (.istore_n 2, 1) := by decide +kernel
theorem dX7_setBound_29 : decode cX7_setBound 29 = .ok (.aload_n 0, 1) := by decide +kernel
theorem dX7_setBound_30 : decode cX7_setBound 30 = .ok (.iload_n 1, 1) := by decide +kernel
theorem dX7_setBound_31 : decode cX7_setBound 31 = .ok (.i2f, 1) := by decide +kernel
theorem dX7_setBound_32 : decode cX7_setBound 32 = .ok (.ldc_w 298, 3) := by decide +kernel
theorem dX7_setBound_35 : decode cX7_setBound 35 = .ok (.fdiv, 1) := by decide +kernel
theorem dX7_setBound_36 : decode cX7_setBound 36 = .ok (.putfield 53, 3) := by decide +kernel
theorem dX7_setBound_39 : decode cX7_setBound 39 = .ok (.iload_n 2, 1) := by decide +kernel
theorem dX7_setBound_40 : decode cX7_setBound 40 = .ok (.ireturn, 1) := by decide +kernel
theorem dX7_worstGroup_0 : decode cX7_worstGroup 0 = .ok (.aload_n 0, 1) := by decide +kernel
theorem dX7_worstGroup_1 : decode cX7_worstGroup 1 = .ok (.getfield 22, 3) := by decide +kernel
theorem dX7_worstGroup_4 : decode cX7_worstGroup 4 = .ok (.invokevirtual 299, 3) := by decide +kernel
theorem dX7_worstGroup_7 : decode cX7_worstGroup 7 = .ok (.ifCond .eq 14, 3) := by decide +kernel
theorem dX7_worstGroup_10 : decode cX7_worstGroup 10 = .ok (.new 78, 3) := by decide +kernel
theorem dX7_worstGroup_13 : decode cX7_worstGroup 13 = .ok (.dup, 1) := by decide +kernel
theorem dX7_worstGroup_14 : decode cX7_worstGroup 14 = .ok (.ldc_w 303, 3) := by decide +kernel
theorem dX7_worstGroup_17 : decode cX7_worstGroup 17 = .ok (.invokespecial 82, 3) := by decide +kernel
theorem dX7_worstGroup_20 : decode cX7_worstGroup 20 = .ok (.athrow, 1) := by decide +kernel
theorem dX7_worstGroup_21 : decode cX7_worstGroup 21 = .ok (.aload_n 0, 1) := by decide +kernel
theorem dX7_worstGroup_22 : decode cX7_worstGroup 22 = .ok (.getfield 22, 3) := by decide +kernel
theorem dX7_worstGroup_25 : decode cX7_worstGroup 25 = .ok (.iconst 0, 1) := by decide +kernel
theorem dX7_worstGroup_26 : decode cX7_worstGroup 26 = .ok (.invokevirtual 178, 3) := by decide +kernel
theorem dX7_worstGroup_29 : decode cX7_worstGroup 29 = .ok (.checkcast 265, 3) := by decide +kernel
theorem dX7_worstGroup_32 : decode cX7_worstGroup 32 = .ok (.astore_n 1, 1) := by decide +kernel
theorem dX7_worstGroup_33 : decode cX7_worstGroup 33 = .ok (.iconst 1, 1) := by decide +kernel
theorem dX7_worstGroup_34 : decode cX7_worstGroup 34 = .ok (.istore_n 2, 1) := by decide +kernel
theorem dX7_worstGroup_35 : decode cX7_worstGroup 35 = .ok (.iload_n 2, 1) := by decide +kernel
theorem dX7_worstGroup_36 : decode cX7_worstGroup 36 = .ok (.aload_n 0, 1) := by decide +kernel
theorem dX7_worstGroup_37 : decode cX7_worstGroup 37 = .ok (.getfield 22, 3) := by decide +kernel
theorem dX7_worstGroup_40 : decode cX7_worstGroup 40 = .ok (.invokevirtual 74, 3) := by decide +kernel
theorem dX7_worstGroup_43 : decode cX7_worstGroup 43 = .ok (.if_icmp .ge 34, 3) := by decide +kernel
theorem dX7_worstGroup_46 : decode cX7_worstGroup 46 = .ok (.aload_n 0, 1) := by decide +kernel
theorem dX7_worstGroup_47 : decode cX7_worstGroup 47 = .ok (.getfield 22, 3) := by decide +kernel
theorem dX7_worstGroup_50 : decode cX7_worstGroup 50 = .ok (.iload_n 2, 1) := by decide +kernel
theorem dX7_worstGroup_51 : decode cX7_worstGroup 51 = .ok (.invokevirtual 178, 3) := by decide +kernel
theorem dX7_worstGroup_54 : decode cX7_worstGroup 54 = .ok (.checkcast 265, 3) := by decide +kernel
theorem dX7_worstGroup_57 : decode cX7_worstGroup 57 = .ok (.astore_n 3, 1) := by decide +kernel
theorem dX7_worstGroup_58 : decode cX7_worstGroup 58 = .ok (.aload_n 3, 1) := by decide +kernel
theorem dX7_worstGroup_59 : decode cX7_worstGroup 59 = .ok (.getfield 264, 3) := by decide +kernel
theorem dX7_worstGroup_62 : decode cX7_worstGroup 62 = .ok (.aload_n 1, 1) := by decide +kernel
theorem dX7_worstGroup_63 : decode cX7_worstGroup 63 = .ok (.getfield 264, 3) := by decide +kernel
theorem dX7_worstGroup_66 : decode cX7_worstGroup 66 = .ok (.if_icmp .le 5, 3) := by decide +kernel
theorem dX7_worstGroup_69 : decode cX7_worstGroup 69 = .ok (.aload_n 3, 1) := by decide +kernel
theorem dX7_worstGroup_70 : decode cX7_worstGroup 70 = .ok (.astore_n 1, 1) := by decide +kernel
theorem dX7_worstGroup_71 : decode cX7_worstGroup 71 = .ok (.iinc 2 1, 3) := by decide +kernel
theorem dX7_worstGroup_74 : decode cX7_worstGroup 74 = .ok (.goto (-39), 3) := by decide +kernel
theorem dX7_worstGroup_77 : decode cX7_worstGroup 77 = .ok (.aload_n 1, 1) := by decide +kernel
theorem dX7_worstGroup_78 : decode cX7_worstGroup 78 = .ok (.getfield 273, 3) := by decide +kernel
theorem dX7_worstGroup_81 : decode cX7_worstGroup 81 = .ok (.ireturn, 1) := by decide +kernel
theorem dX7_buildsIn_0 : decode cX7_buildsIn 0 = .ok (.aload_n 0, 1) := by decide +kernel
theorem dX7_buildsIn_1 : decode cX7_buildsIn 1 = .ok (.iload_n 1, 1) := by decide +kernel
theorem dX7_buildsIn_2 : decode cX7_buildsIn 2 = .ok (.invokevirtual 274, 3) := by decide +kernel
theorem dX7_buildsIn_5 : decode cX7_buildsIn 5 = .ok (.getfield 269, 3) := by decide +kernel
theorem dX7_buildsIn_8 : decode cX7_buildsIn 8 = .ok (.ireturn, 1) := by decide +kernel
theorem dX7_setRate_0 : decode cX7_setRate 0 = .ok (.iload_n 1, 1) := by decide +kernel
theorem dX7_setRate_1 : decode cX7_setRate 1 = .ok (.iconst 0, 1) := by decide +kernel
theorem dX7_setRate_2 : decode cX7_setRate 2 = .ok (.sipush 9999, 3) := by decide +kernel
theorem dX7_setRate_5 : decode cX7_setRate 5 = .ok (.invokestatic 63, 3) := by decide +kernel
theorem dX7_setRate_8 : decode cX7_setRate 8 = .ok (.ifCond .eq 13, 3) := by decide +kernel
theorem dX7_setRate_11 : decode cX7_setRate 11 = .ok (.new 67, 3) := by decide +kernel
theorem dX7_setRate_14 : decode cX7_setRate 14 = .ok (.dup, 1) := by decide +kernel
theorem dX7_setRate_15 : decode cX7_setRate 15 = .ok (.ldc 157, 2) := by decide +kernel
theorem dX7_setRate_17 : decode cX7_setRate 17 = .ok (.invokespecial 71, 3) := by decide +kernel
theorem dX7_setRate_20 : decode cX7_setRate 20 = .ok (.athrow, 1) := by decide +kernel
theorem dX7_setRate_21 : decode cX7_setRate 21 = .ok (.aload_n 0, 1) := by decide +kernel
theorem dX7_setRate_22 : decode cX7_setRate 22 = .ok (.getfield 57, 3) := by decide +kernel
theorem dX7_setRate_25 : decode cX7_setRate 25 = .ok (.invokestatic 294, 3) := by decide +kernel
theorem dX7_setRate_28 : decode cX7_setRate 28 = .ok (.istore_n 2, 1) := by decide +kernel
theorem dX7_setRate_29 : decode cX7_setRate 29 = .ok (.aload_n 0, 1) := by decide +kernel
theorem dX7_setRate_30 : decode cX7_setRate 30 = .ok (.iload_n 1, 1) := by decide +kernel
theorem dX7_setRate_31 : decode cX7_setRate 31 = .ok (.i2f, 1) := by decide +kernel
theorem dX7_setRate_32 : decode cX7_setRate 32 = .ok (.ldc_w 298, 3) := by decide +kernel
theorem dX7_setRate_35 : decode cX7_setRate 35 = .ok (.fdiv, 1) := by decide +kernel
theorem dX7_setRate_36 : decode cX7_setRate 36 = .ok (.putfield 57, 3) := by decide +kernel
theorem dX7_setRate_39 : decode cX7_setRate 39 = .ok (.iload_n 2, 1) := by decide +kernel
theorem dX7_setRate_40 : decode cX7_setRate 40 = .ok (.ireturn, 1) := by decide +kernel
theorem dX7_crashRate_0 : decode cX7_crashRate 0 = .ok (.aload_n 0, 1) := by decide +kernel
theorem dX7_crashRate_1 : decode cX7_crashRate 1 = .ok (.iload_n 1, 1) := by decide +kernel
theorem dX7_crashRate_2 : decode cX7_crashRate 2 = .ok (.invokevirtual 115, 3) := by decide +kernel
theorem dX7_crashRate_5 : decode cX7_crashRate 5 = .ok (.invokevirtual 305, 3) := by decide +kernel
theorem dX7_crashRate_8 : decode cX7_crashRate 8 = .ok (.freturn, 1) := by decide +kernel
theorem dX7_rate_0 : decode cX7_rate 0 = .ok (.aload_n 0, 1) := by decide +kernel
theorem dX7_rate_1 : decode cX7_rate 1 = .ok (.iload_n 1, 1) := by decide +kernel
theorem dX7_rate_2 : decode cX7_rate 2 = .ok (.invokevirtual 185, 3) := by decide +kernel
theorem dX7_rate_5 : decode cX7_rate 5 = .ok (.astore_n 3, 1) := by decide +kernel
theorem dX7_rate_6 : decode cX7_rate 6 = .ok (.iload_n 2, 1) := by decide +kernel
theorem dX7_rate_7 : decode cX7_rate 7 = .ok (.iconst 1, 1) := by decide +kernel
theorem dX7_rate_8 : decode cX7_rate 8 = .ok (.iconst 5, 1) := by decide +kernel
theorem dX7_rate_9 : decode cX7_rate 9 = .ok (.invokestatic 63, 3) := by decide +kernel
theorem dX7_rate_12 : decode cX7_rate 12 = .ok (.ifCond .eq 14, 3) := by decide +kernel
theorem dX7_rate_15 : decode cX7_rate 15 = .ok (.new 67, 3) := by decide +kernel
theorem dX7_rate_18 : decode cX7_rate 18 = .ok (.dup, 1) := by decide +kernel
theorem dX7_rate_19 : decode cX7_rate 19 = .ok (.ldc_w 309, 3) := by decide +kernel
theorem dX7_rate_22 : decode cX7_rate 22 = .ok (.invokespecial 71, 3) := by decide +kernel
theorem dX7_rate_25 : decode cX7_rate 25 = .ok (.athrow, 1) := by decide +kernel
theorem dX7_rate_26 : decode cX7_rate 26 = .ok (.aload_n 3, 1) := by decide +kernel
theorem dX7_rate_27 : decode cX7_rate 27 = .ok (.invokestatic 237, 3) := by decide +kernel
theorem dX7_rate_30 : decode cX7_rate 30 = .ok (.astore 4, 2) := by decide +kernel
theorem dX7_rate_32 : decode cX7_rate 32 = .ok (.aload_n 3, 1) := by decide +kernel
theorem dX7_rate_33 : decode cX7_rate 33 = .ok (.getfield 234, 3) := by decide +kernel
theorem dX7_rate_36 : decode cX7_rate 36 = .ok (.istore 5, 2) := by decide +kernel
theorem dX7_rate_38 : decode cX7_rate 38 = .ok (.aload_n 3, 1) := by decide +kernel
theorem dX7_rate_39 : decode cX7_rate 39 = .ok (.iload_n 2, 1) := by decide +kernel
theorem dX7_rate_40 : decode cX7_rate 40 = .ok (.putfield 234, 3) := by decide +kernel
theorem dX7_rate_43 : decode cX7_rate 43 = .ok (.aload 4, 2) := by decide +kernel
theorem dX7_rate_45 : decode cX7_rate 45 = .ok (.dup, 1) := by decide +kernel
theorem dX7_rate_46 : decode cX7_rate 46 = .ok (.getfield 311, 3) := by decide +kernel
theorem dX7_rate_49 : decode cX7_rate 49 = .ok (.iload_n 2, 1) := by decide +kernel
theorem dX7_rate_50 : decode cX7_rate 50 = .ok (.iload 5, 2) := by decide +kernel
theorem dX7_rate_52 : decode cX7_rate 52 = .ok (.isub, 1) := by decide +kernel
theorem dX7_rate_53 : decode cX7_rate 53 = .ok (.iadd, 1) := by decide +kernel
theorem dX7_rate_54 : decode cX7_rate 54 = .ok (.putfield 311, 3) := by decide +kernel
theorem dX7_rate_57 : decode cX7_rate 57 = .ok (.iload 5, 2) := by decide +kernel
theorem dX7_rate_59 : decode cX7_rate 59 = .ok (.ifCond .ne 14, 3) := by decide +kernel
theorem dX7_rate_62 : decode cX7_rate 62 = .ok (.aload 4, 2) := by decide +kernel
theorem dX7_rate_64 : decode cX7_rate 64 = .ok (.dup, 1) := by decide +kernel
theorem dX7_rate_65 : decode cX7_rate 65 = .ok (.getfield 314, 3) := by decide +kernel
theorem dX7_rate_68 : decode cX7_rate 68 = .ok (.iconst 1, 1) := by decide +kernel
theorem dX7_rate_69 : decode cX7_rate 69 = .ok (.iadd, 1) := by decide +kernel
theorem dX7_rate_70 : decode cX7_rate 70 = .ok (.putfield 314, 3) := by decide +kernel
theorem dX7_rate_73 : decode cX7_rate 73 = .ok (.iload 5, 2) := by decide +kernel
theorem dX7_rate_75 : decode cX7_rate 75 = .ok (.ireturn, 1) := by decide +kernel
theorem dX7_rating_0 : decode cX7_rating 0 = .ok (.aload_n 0, 1) := by decide +kernel
theorem dX7_rating_1 : decode cX7_rating 1 = .ok (.iload_n 1, 1) := by decide +kernel
theorem dX7_rating_2 : decode cX7_rating 2 = .ok (.invokevirtual 317, 3) := by decide +kernel
theorem dX7_rating_5 : decode cX7_rating 5 = .ok (.invokevirtual 320, 3) := by decide +kernel
theorem dX7_rating_8 : decode cX7_rating 8 = .ok (.dreturn, 1) := by decide +kernel
theorem dX7_ratingBits_0 : decode cX7_ratingBits 0 = .ok (.aload_n 0, 1) := by decide +kernel
theorem dX7_ratingBits_1 : decode cX7_ratingBits 1 = .ok (.iload_n 1, 1) := by decide +kernel
theorem dX7_ratingBits_2 : decode cX7_ratingBits 2 = .ok (.invokevirtual 317, 3) := by decide +kernel
theorem dX7_ratingBits_5 : decode cX7_ratingBits 5 = .ok (.invokevirtual 320, 3) := by decide +kernel
theorem dX7_ratingBits_8 : decode cX7_ratingBits 8 = .ok (.invokestatic 324, 3) := by decide +kernel
theorem dX7_ratingBits_11 : decode cX7_ratingBits 11 = .ok (.lreturn, 1) := by decide +kernel
theorem dX7_buy_0 : decode cX7_buy 0 = .ok (.aload_n 0, 1) := by decide +kernel
theorem dX7_buy_1 : decode cX7_buy 1 = .ok (.iload_n 1, 1) := by decide +kernel
theorem dX7_buy_2 : decode cX7_buy 2 = .ok (.invokevirtual 185, 3) := by decide +kernel
theorem dX7_buy_5 : decode cX7_buy 5 = .ok (.astore_n 3, 1) := by decide +kernel
theorem dX7_buy_6 : decode cX7_buy 6 = .ok (.iload_n 2, 1) := by decide +kernel
theorem dX7_buy_7 : decode cX7_buy 7 = .ok (.invokestatic 328, 3) := by decide +kernel
theorem dX7_buy_10 : decode cX7_buy 10 = .ok (.aload_n 3, 1) := by decide +kernel
theorem dX7_buy_11 : decode cX7_buy 11 = .ok (.invokestatic 237, 3) := by decide +kernel
theorem dX7_buy_14 : decode cX7_buy 14 = .ok (.astore 4, 2) := by decide +kernel
theorem dX7_buy_16 : decode cX7_buy 16 = .ok (.aload_n 3, 1) := by decide +kernel
theorem dX7_buy_17 : decode cX7_buy 17 = .ok (.getfield 332, 3) := by decide +kernel
theorem dX7_buy_20 : decode cX7_buy 20 = .ok (.iload_n 2, 1) := by decide +kernel
theorem dX7_buy_21 : decode cX7_buy 21 = .ok (.invokestatic 335, 3) := by decide +kernel
theorem dX7_buy_24 : decode cX7_buy 24 = .ok (.ifCond .eq 14, 3) := by decide +kernel
theorem dX7_buy_27 : decode cX7_buy 27 = .ok (.new 78, 3) := by decide +kernel
theorem dX7_buy_30 : decode cX7_buy 30 = .ok (.dup, 1) := by decide +kernel
theorem dX7_buy_31 : decode cX7_buy 31 = .ok (.ldc_w 338, 3) := by decide +kernel
theorem dX7_buy_34 : decode cX7_buy 34 = .ok (.invokespecial 82, 3) := by decide +kernel
theorem dX7_buy_37 : decode cX7_buy 37 = .ok (.athrow, 1) := by decide +kernel
theorem dX7_buy_38 : decode cX7_buy 38 = .ok (.aload 4, 2) := by decide +kernel
theorem dX7_buy_40 : decode cX7_buy 40 = .ok (.getfield 119, 3) := by decide +kernel
theorem dX7_buy_43 : decode cX7_buy 43 = .ok (.getfield 340, 3) := by decide +kernel
theorem dX7_buy_46 : decode cX7_buy 46 = .ok (.iload_n 2, 1) := by decide +kernel
theorem dX7_buy_47 : decode cX7_buy 47 = .ok (.invokestatic 335, 3) := by decide +kernel
theorem dX7_buy_50 : decode cX7_buy 50 = .ok (.ifCond .ne 14, 3) := by decide +kernel
theorem dX7_buy_53 : decode cX7_buy 53 = .ok (.new 164, 3) := by decide +kernel
theorem dX7_buy_56 : decode cX7_buy 56 = .ok (.dup, 1) := by decide +kernel
theorem dX7_buy_57 : decode cX7_buy 57 = .ok (.ldc_w 343, 3) := by decide +kernel
theorem dX7_buy_60 : decode cX7_buy 60 = .ok (.invokespecial 168, 3) := by decide +kernel
theorem dX7_buy_63 : decode cX7_buy 63 = .ok (.athrow, 1) := by decide +kernel
theorem dX7_buy_64 : decode cX7_buy 64 = .ok (.aload_n 3, 1) := by decide +kernel
theorem dX7_buy_65 : decode cX7_buy 65 = .ok (.dup, 1) := by decide +kernel
theorem dX7_buy_66 : decode cX7_buy 66 = .ok (.getfield 332, 3) := by decide +kernel
theorem dX7_buy_69 : decode cX7_buy 69 = .ok (.iconst 1, 1) := by decide +kernel
theorem dX7_buy_70 : decode cX7_buy 70 = .ok (.iload_n 2, 1) := by decide +kernel
theorem dX7_buy_71 : decode cX7_buy 71 = .ok (.ishl, 1) := by decide +kernel
theorem dX7_buy_72 : decode cX7_buy 72 = .ok (.ior, 1) := by decide +kernel
theorem dX7_buy_73 : decode cX7_buy 73 = .ok (.putfield 332, 3) := by decide +kernel
theorem dX7_buy_76 : decode cX7_buy 76 = .ok (.aload_n 3, 1) := by decide +kernel
theorem dX7_buy_77 : decode cX7_buy 77 = .ok (.getfield 332, 3) := by decide +kernel
theorem dX7_buy_80 : decode cX7_buy 80 = .ok (.invokestatic 345, 3) := by decide +kernel
theorem dX7_buy_83 : decode cX7_buy 83 = .ok (.ireturn, 1) := by decide +kernel
theorem dX7_owns_0 : decode cX7_owns 0 = .ok (.aload_n 0, 1) := by decide +kernel
theorem dX7_owns_1 : decode cX7_owns 1 = .ok (.iload_n 1, 1) := by decide +kernel
theorem dX7_owns_2 : decode cX7_owns 2 = .ok (.invokevirtual 185, 3) := by decide +kernel
theorem dX7_owns_5 : decode cX7_owns 5 = .ok (.astore_n 3, 1) := by decide +kernel
theorem dX7_owns_6 : decode cX7_owns 6 = .ok (.iload_n 2, 1) := by decide +kernel
theorem dX7_owns_7 : decode cX7_owns 7 = .ok (.invokestatic 328, 3) := by decide +kernel
theorem dX7_owns_10 : decode cX7_owns 10 = .ok (.aload_n 3, 1) := by decide +kernel
theorem dX7_owns_11 : decode cX7_owns 11 = .ok (.getfield 332, 3) := by decide +kernel
theorem dX7_owns_14 : decode cX7_owns 14 = .ok (.iload_n 2, 1) := by decide +kernel
theorem dX7_owns_15 : decode cX7_owns 15 = .ok (.invokestatic 335, 3) := by decide +kernel
theorem dX7_owns_18 : decode cX7_owns 18 = .ok (.ireturn, 1) := by decide +kernel
theorem dX7_canUse_0 : decode cX7_canUse 0 = .ok (.aload_n 0, 1) := by decide +kernel
theorem dX7_canUse_1 : decode cX7_canUse 1 = .ok (.iload_n 1, 1) := by decide +kernel
theorem dX7_canUse_2 : decode cX7_canUse 2 = .ok (.invokevirtual 185, 3) := by decide +kernel
theorem dX7_canUse_5 : decode cX7_canUse 5 = .ok (.astore_n 3, 1) := by decide +kernel
theorem dX7_canUse_6 : decode cX7_canUse 6 = .ok (.iload_n 2, 1) := by decide +kernel
theorem dX7_canUse_7 : decode cX7_canUse 7 = .ok (.invokestatic 328, 3) := by decide +kernel
theorem dX7_canUse_10 : decode cX7_canUse 10 = .ok (.aload_n 3, 1) := by decide +kernel
theorem dX7_canUse_11 : decode cX7_canUse 11 = .ok (.invokevirtual 350, 3) := by decide +kernel
theorem dX7_canUse_14 : decode cX7_canUse 14 = .ok (.iload_n 2, 1) := by decide +kernel
theorem dX7_canUse_15 : decode cX7_canUse 15 = .ok (.invokestatic 335, 3) := by decide +kernel
theorem dX7_canUse_18 : decode cX7_canUse 18 = .ok (.ireturn, 1) := by decide +kernel
theorem dX7_usedShare_0 : decode cX7_usedShare 0 = .ok (.iconst 0, 1) := by decide +kernel
theorem dX7_usedShare_1 : decode cX7_usedShare 1 = .ok (.istore_n 1, 1) := by decide +kernel
theorem dX7_usedShare_2 : decode cX7_usedShare 2 = .ok (.iconst 0, 1) := by decide +kernel
theorem dX7_usedShare_3 : decode cX7_usedShare 3 = .ok (.istore_n 2, 1) := by decide +kernel
theorem dX7_usedShare_4 : decode cX7_usedShare 4 = .ok (.iconst 0, 1) := by decide +kernel
theorem dX7_usedShare_5 : decode cX7_usedShare 5 = .ok (.istore_n 3, 1) := by decide +kernel
theorem dX7_usedShare_6 : decode cX7_usedShare 6 = .ok (.iload_n 3, 1) := by decide +kernel
theorem dX7_usedShare_7 : decode cX7_usedShare 7 = .ok (.aload_n 0, 1) := by decide +kernel
theorem dX7_usedShare_8 : decode cX7_usedShare 8 = .ok (.getfield 10, 3) := by decide +kernel
theorem dX7_usedShare_11 : decode cX7_usedShare 11 = .ok (.invokevirtual 74, 3) := by decide +kernel
theorem dX7_usedShare_14 : decode cX7_usedShare 14 = .ok (.if_icmp .ge 44, 3) := by decide +kernel
theorem dX7_usedShare_17 : decode cX7_usedShare 17 = .ok (.aload_n 0, 1) := by decide +kernel
theorem dX7_usedShare_18 : decode cX7_usedShare 18 = .ok (.getfield 10, 3) := by decide +kernel
theorem dX7_usedShare_21 : decode cX7_usedShare 21 = .ok (.iload_n 3, 1) := by decide +kernel
theorem dX7_usedShare_22 : decode cX7_usedShare 22 = .ok (.invokevirtual 178, 3) := by decide +kernel
theorem dX7_usedShare_25 : decode cX7_usedShare 25 = .ok (.checkcast 83, 3) := by decide +kernel
theorem dX7_usedShare_28 : decode cX7_usedShare 28 = .ok (.astore 4, 2) := by decide +kernel
theorem dX7_usedShare_30 : decode cX7_usedShare 30 = .ok (.iload_n 1, 1) := by decide +kernel
theorem dX7_usedShare_31 : decode cX7_usedShare 31 = .ok (.aload 4, 2) := by decide +kernel
theorem dX7_usedShare_33 : decode cX7_usedShare 33 = .ok (.getfield 332, 3) := by decide +kernel
theorem dX7_usedShare_36 : decode cX7_usedShare 36 = .ok (.invokestatic 345, 3) := by decide +kernel
theorem dX7_usedShare_39 : decode cX7_usedShare 39 = .ok (.iadd, 1) := by decide +kernel
theorem dX7_usedShare_40 : decode cX7_usedShare 40 = .ok (.istore_n 1, 1) := by decide +kernel
theorem dX7_usedShare_41 : decode cX7_usedShare 41 = .ok (.iload_n 2, 1) := by decide +kernel
theorem dX7_usedShare_42 : decode cX7_usedShare 42 = .ok (.aload 4, 2) := by decide +kernel
theorem dX7_usedShare_44 : decode cX7_usedShare 44 = .ok (.invokevirtual 350, 3) := by decide +kernel
theorem dX7_usedShare_47 : decode cX7_usedShare 47 = .ok (.invokestatic 345, 3) := by decide +kernel
theorem dX7_usedShare_50 : decode cX7_usedShare 50 = .ok (.iadd, 1) := by decide +kernel
theorem dX7_usedShare_51 : decode cX7_usedShare 51 = .ok (.istore_n 2, 1) := by decide +kernel
theorem dX7_usedShare_52 : decode cX7_usedShare 52 = .ok (.iinc 3 1, 3) := by decide +kernel
theorem dX7_usedShare_55 : decode cX7_usedShare 55 = .ok (.goto (-49), 3) := by decide +kernel
theorem dX7_usedShare_58 : decode cX7_usedShare 58 = .ok (.iload_n 1, 1) := by decide +kernel
theorem dX7_usedShare_59 : decode cX7_usedShare 59 = .ok (.ifCond .ne 14, 3) := by decide +kernel
theorem dX7_usedShare_62 : decode cX7_usedShare 62 = .ok (.new 353, 3) := by decide +kernel
theorem dX7_usedShare_65 : decode cX7_usedShare 65 = .ok (.dup, 1) := by decide +kernel
theorem dX7_usedShare_66 : decode cX7_usedShare 66 = .ok (.ldc_w 355, 3) := by decide +kernel
theorem dX7_usedShare_69 : decode cX7_usedShare 69 = .ok (.invokespecial 357, 3) := by decide +kernel
theorem dX7_usedShare_72 : decode cX7_usedShare 72 = .ok (.athrow, 1) := by decide +kernel
theorem dX7_usedShare_73 : decode cX7_usedShare 73 = .ok (.iload_n 2, 1) := by decide +kernel
theorem dX7_usedShare_74 : decode cX7_usedShare 74 = .ok (.i2f, 1) := by decide +kernel
theorem dX7_usedShare_75 : decode cX7_usedShare 75 = .ok (.iload_n 1, 1) := by decide +kernel
theorem dX7_usedShare_76 : decode cX7_usedShare 76 = .ok (.i2f, 1) := by decide +kernel
theorem dX7_usedShare_77 : decode cX7_usedShare 77 = .ok (.fdiv, 1) := by decide +kernel
theorem dX7_usedShare_78 : decode cX7_usedShare 78 = .ok (.freturn, 1) := by decide +kernel
theorem dX7_writeBuild_0 : decode cX7_writeBuild 0 = .ok (.aload_n 0, 1) := by decide +kernel
theorem dX7_writeBuild_1 : decode cX7_writeBuild 1 = .ok (.iload_n 1, 1) := by decide +kernel
theorem dX7_writeBuild_2 : decode cX7_writeBuild 2 = .ok (.invokevirtual 115, 3) := by decide +kernel
theorem dX7_writeBuild_5 : decode cX7_writeBuild 5 = .ok (.astore_n 2, 1) := by decide +kernel
theorem dX7_writeBuild_6 : decode cX7_writeBuild 6 = .ok (.aload_n 0, 1) := by decide +kernel
theorem dX7_writeBuild_7 : decode cX7_writeBuild 7 = .ok (.getfield 38, 3) := by decide +kernel
theorem dX7_writeBuild_10 : decode cX7_writeBuild 10 = .ok (.iconst 0, 1) := by decide +kernel
theorem dX7_writeBuild_11 : decode cX7_writeBuild 11 = .ok (.invokevirtual 358, 3) := by decide +kernel
theorem dX7_writeBuild_14 : decode cX7_writeBuild 14 = .ok (.aload_n 0, 1) := by decide +kernel
theorem dX7_writeBuild_15 : decode cX7_writeBuild 15 = .ok (.getfield 38, 3) := by decide +kernel
theorem dX7_writeBuild_18 : decode cX7_writeBuild 18 = .ok (.bipush 118, 2) := by decide +kernel
theorem dX7_writeBuild_20 : decode cX7_writeBuild 20 = .ok (.invokevirtual 361, 3) := by decide +kernel
theorem dX7_writeBuild_23 : decode cX7_writeBuild 23 = .ok (.pop, 1) := by decide +kernel
theorem dX7_writeBuild_24 : decode cX7_writeBuild 24 = .ok (.aload_n 0, 1) := by decide +kernel
theorem dX7_writeBuild_25 : decode cX7_writeBuild 25 = .ok (.getfield 38, 3) := by decide +kernel
theorem dX7_writeBuild_28 : decode cX7_writeBuild 28 = .ok (.aload_n 2, 1) := by decide +kernel
theorem dX7_writeBuild_29 : decode cX7_writeBuild 29 = .ok (.getfield 364, 3) := by decide +kernel
theorem dX7_writeBuild_32 : decode cX7_writeBuild 32 = .ok (.invokevirtual 367, 3) := by decide +kernel
theorem dX7_writeBuild_35 : decode cX7_writeBuild 35 = .ok (.pop, 1) := by decide +kernel
theorem dX7_writeBuild_36 : decode cX7_writeBuild 36 = .ok (.aload_n 0, 1) := by decide +kernel
theorem dX7_writeBuild_37 : decode cX7_writeBuild 37 = .ok (.getfield 38, 3) := by decide +kernel
theorem dX7_writeBuild_40 : decode cX7_writeBuild 40 = .ok (.aload_n 2, 1) := by decide +kernel
theorem dX7_writeBuild_41 : decode cX7_writeBuild 41 = .ok (.invokevirtual 370, 3) := by decide +kernel
theorem dX7_writeBuild_44 : decode cX7_writeBuild 44 = .ok (.ifCond .eq 9, 3) := by decide +kernel
theorem dX7_writeBuild_47 : decode cX7_writeBuild 47 = .ok (.ldc_w 373, 3) := by decide +kernel
theorem dX7_writeBuild_50 : decode cX7_writeBuild 50 = .ok (.goto 6, 3) := by decide +kernel
theorem dX7_writeBuild_53 : decode cX7_writeBuild 53 = .ok (.ldc_w 375, 3) := by decide +kernel
theorem dX7_writeBuild_56 : decode cX7_writeBuild 56 = .ok (.invokevirtual 377, 3) := by decide +kernel
theorem dX7_writeBuild_59 : decode cX7_writeBuild 59 = .ok (.pop, 1) := by decide +kernel
theorem dX7_writeBuild_60 : decode cX7_writeBuild 60 = .ok (.aload_n 0, 1) := by decide +kernel
theorem dX7_writeBuild_61 : decode cX7_writeBuild 61 = .ok (.getfield 38, 3) := by decide +kernel
theorem dX7_writeBuild_64 : decode cX7_writeBuild 64 = .ok (.aload_n 0, 1) := by decide +kernel
theorem dX7_writeBuild_65 : decode cX7_writeBuild 65 = .ok (.aload_n 2, 1) := by decide +kernel
theorem dX7_writeBuild_66 : decode cX7_writeBuild 66 = .ok (.invokevirtual 380, 3) := by decide +kernel
theorem dX7_writeBuild_69 : decode cX7_writeBuild 69 = .ok (.invokevirtual 377, 3) := by decide +kernel
theorem dX7_writeBuild_72 : decode cX7_writeBuild 72 = .ok (.pop, 1) := by decide +kernel
theorem dX7_writeBuild_73 : decode cX7_writeBuild 73 = .ok (.aload_n 0, 1) := by decide +kernel
theorem dX7_writeBuild_74 : decode cX7_writeBuild 74 = .ok (.getfield 38, 3) := by decide +kernel
theorem dX7_writeBuild_77 : decode cX7_writeBuild 77 = .ok (.invokevirtual 384, 3) := by decide +kernel
theorem dX7_writeBuild_80 : decode cX7_writeBuild 80 = .ok (.ireturn, 1) := by decide +kernel
theorem dX7_lineAt_0 : decode cX7_lineAt 0 = .ok (.iload_n 1, 1) := by decide +kernel
theorem dX7_lineAt_1 : decode cX7_lineAt 1 = .ok (.iconst 0, 1) := by decide +kernel
theorem dX7_lineAt_2 : decode cX7_lineAt 2 = .ok (.aload_n 0, 1) := by decide +kernel
theorem dX7_lineAt_3 : decode cX7_lineAt 3 = .ok (.getfield 38, 3) := by decide +kernel
theorem dX7_lineAt_6 : decode cX7_lineAt 6 = .ok (.invokevirtual 384, 3) := by decide +kernel
theorem dX7_lineAt_9 : decode cX7_lineAt 9 = .ok (.iconst 1, 1) := by decide +kernel
theorem dX7_lineAt_10 : decode cX7_lineAt 10 = .ok (.isub, 1) := by decide +kernel
theorem dX7_lineAt_11 : decode cX7_lineAt 11 = .ok (.invokestatic 63, 3) := by decide +kernel
theorem dX7_lineAt_14 : decode cX7_lineAt 14 = .ok (.ifCond .eq 14, 3) := by decide +kernel
theorem dX7_lineAt_17 : decode cX7_lineAt 17 = .ok (.new 281, 3) := by decide +kernel
theorem dX7_lineAt_20 : decode cX7_lineAt 20 = .ok (.dup, 1) := by decide +kernel
theorem dX7_lineAt_21 : decode cX7_lineAt 21 = .ok (.ldc_w 386, 3) := by decide +kernel
theorem dX7_lineAt_24 : decode cX7_lineAt 24 = .ok (.invokespecial 285, 3) := by decide +kernel
theorem dX7_lineAt_27 : decode cX7_lineAt 27 = .ok (.athrow, 1) := by decide +kernel
theorem dX7_lineAt_28 : decode cX7_lineAt 28 = .ok (.aload_n 0, 1) := by decide +kernel
theorem dX7_lineAt_29 : decode cX7_lineAt 29 = .ok (.getfield 38, 3) := by decide +kernel
theorem dX7_lineAt_32 : decode cX7_lineAt 32 = .ok (.iload_n 1, 1) := by decide +kernel
theorem dX7_lineAt_33 : decode cX7_lineAt 33 = .ok (.invokevirtual 388, 3) := by decide +kernel
theorem dX7_lineAt_36 : decode cX7_lineAt 36 = .ok (.ireturn, 1) := by decide +kernel
theorem dX7_outside_0 : decode cX7_outside 0 = .ok (.iload_n 0, 1) := by decide +kernel
theorem dX7_outside_1 : decode cX7_outside 1 = .ok (.iload_n 1, 1) := by decide +kernel
theorem dX7_outside_2 : decode cX7_outside 2 = .ok (.if_icmp .lt 8, 3) := by decide +kernel
theorem dX7_outside_5 : decode cX7_outside 5 = .ok (.iload_n 0, 1) := by decide +kernel
theorem dX7_outside_6 : decode cX7_outside 6 = .ok (.iload_n 2, 1) := by decide +kernel
theorem dX7_outside_7 : decode cX7_outside 7 = .ok (.if_icmp .le 7, 3) := by decide +kernel
theorem dX7_outside_10 : decode cX7_outside 10 = .ok (.iconst 1, 1) := by decide +kernel
theorem dX7_outside_11 : decode cX7_outside 11 = .ok (.goto 4, 3) := by decide +kernel
theorem dX7_outside_14 : decode cX7_outside 14 = .ok (.iconst 0, 1) := by decide +kernel
theorem dX7_outside_15 : decode cX7_outside 15 = .ok (.ireturn, 1) := by decide +kernel
theorem dX7_isIn_0 : decode cX7_isIn 0 = .ok (.iload_n 0, 1) := by decide +kernel
theorem dX7_isIn_1 : decode cX7_isIn 1 = .ok (.iload_n 1, 1) := by decide +kernel
theorem dX7_isIn_2 : decode cX7_isIn 2 = .ok (.ishr, 1) := by decide +kernel
theorem dX7_isIn_3 : decode cX7_isIn 3 = .ok (.iconst 1, 1) := by decide +kernel
theorem dX7_isIn_4 : decode cX7_isIn 4 = .ok (.iand, 1) := by decide +kernel
theorem dX7_isIn_5 : decode cX7_isIn 5 = .ok (.iconst 1, 1) := by decide +kernel
theorem dX7_isIn_6 : decode cX7_isIn 6 = .ok (.if_icmp .ne 7, 3) := by decide +kernel
theorem dX7_isIn_9 : decode cX7_isIn 9 = .ok (.iconst 1, 1) := by decide +kernel
theorem dX7_isIn_10 : decode cX7_isIn 10 = .ok (.goto 4, 3) := by decide +kernel
theorem dX7_isIn_13 : decode cX7_isIn 13 = .ok (.iconst 0, 1) := by decide +kernel
theorem dX7_isIn_14 : decode cX7_isIn 14 = .ok (.ireturn, 1) := by decide +kernel
theorem dX7_knownDevice_0 : decode cX7_knownDevice 0 = .ok (.iload_n 1, 1) := by decide +kernel
theorem dX7_knownDevice_1 : decode cX7_knownDevice 1 = .ok (.iconst 0, 1) := by decide +kernel
theorem dX7_knownDevice_2 : decode cX7_knownDevice 2 = .ok (.aload_n 0, 1) := by decide +kernel
theorem dX7_knownDevice_3 : decode cX7_knownDevice 3 = .ok (.getfield 10, 3) := by decide +kernel
theorem dX7_knownDevice_6 : decode cX7_knownDevice 6 = .ok (.invokevirtual 74, 3) := by decide +kernel
theorem dX7_knownDevice_9 : decode cX7_knownDevice 9 = .ok (.iconst 1, 1) := by decide +kernel
theorem dX7_knownDevice_10 : decode cX7_knownDevice 10 = .ok (.isub, 1) := by decide +kernel
theorem dX7_knownDevice_11 : decode cX7_knownDevice 11 = .ok (.invokestatic 63, 3) := by decide +kernel
theorem dX7_knownDevice_14 : decode cX7_knownDevice 14 = .ok (.ifCond .eq 14, 3) := by decide +kernel
theorem dX7_knownDevice_17 : decode cX7_knownDevice 17 = .ok (.new 392, 3) := by decide +kernel
theorem dX7_knownDevice_20 : decode cX7_knownDevice 20 = .ok (.dup, 1) := by decide +kernel
theorem dX7_knownDevice_21 : decode cX7_knownDevice 21 = .ok (.ldc_w 394, 3) := by decide +kernel
theorem dX7_knownDevice_24 : decode cX7_knownDevice 24 = .ok (.invokespecial 396, 3) := by decide +kernel
theorem dX7_knownDevice_27 : decode cX7_knownDevice 27 = .ok (.athrow, 1) := by decide +kernel
theorem dX7_knownDevice_28 : decode cX7_knownDevice 28 = .ok (.aload_n 0, 1) := by decide +kernel
theorem dX7_knownDevice_29 : decode cX7_knownDevice 29 = .ok (.getfield 10, 3) := by decide +kernel
theorem dX7_knownDevice_32 : decode cX7_knownDevice 32 = .ok (.iload_n 1, 1) := by decide +kernel
theorem dX7_knownDevice_33 : decode cX7_knownDevice 33 = .ok (.invokevirtual 178, 3) := by decide +kernel
theorem dX7_knownDevice_36 : decode cX7_knownDevice 36 = .ok (.checkcast 83, 3) := by decide +kernel
theorem dX7_knownDevice_39 : decode cX7_knownDevice 39 = .ok (.areturn, 1) := by decide +kernel
theorem dX7_knownBuild_0 : decode cX7_knownBuild 0 = .ok (.iload_n 1, 1) := by decide +kernel
theorem dX7_knownBuild_1 : decode cX7_knownBuild 1 = .ok (.iconst 0, 1) := by decide +kernel
theorem dX7_knownBuild_2 : decode cX7_knownBuild 2 = .ok (.aload_n 0, 1) := by decide +kernel
theorem dX7_knownBuild_3 : decode cX7_knownBuild 3 = .ok (.getfield 19, 3) := by decide +kernel
theorem dX7_knownBuild_6 : decode cX7_knownBuild 6 = .ok (.invokevirtual 74, 3) := by decide +kernel
theorem dX7_knownBuild_9 : decode cX7_knownBuild 9 = .ok (.iconst 1, 1) := by decide +kernel
theorem dX7_knownBuild_10 : decode cX7_knownBuild 10 = .ok (.isub, 1) := by decide +kernel
theorem dX7_knownBuild_11 : decode cX7_knownBuild 11 = .ok (.invokestatic 63, 3) := by decide +kernel
theorem dX7_knownBuild_14 : decode cX7_knownBuild 14 = .ok (.ifCond .eq 14, 3) := by decide +kernel
theorem dX7_knownBuild_17 : decode cX7_knownBuild 17 = .ok (.new 392, 3) := by decide +kernel
theorem dX7_knownBuild_20 : decode cX7_knownBuild 20 = .ok (.dup, 1) := by decide +kernel
theorem dX7_knownBuild_21 : decode cX7_knownBuild 21 = .ok (.ldc_w 397, 3) := by decide +kernel
theorem dX7_knownBuild_24 : decode cX7_knownBuild 24 = .ok (.invokespecial 396, 3) := by decide +kernel
theorem dX7_knownBuild_27 : decode cX7_knownBuild 27 = .ok (.athrow, 1) := by decide +kernel
theorem dX7_knownBuild_28 : decode cX7_knownBuild 28 = .ok (.aload_n 0, 1) := by decide +kernel
theorem dX7_knownBuild_29 : decode cX7_knownBuild 29 = .ok (.getfield 19, 3) := by decide +kernel
theorem dX7_knownBuild_32 : decode cX7_knownBuild 32 = .ok (.iload_n 1, 1) := by decide +kernel
theorem dX7_knownBuild_33 : decode cX7_knownBuild 33 = .ok (.invokevirtual 178, 3) := by decide +kernel
theorem dX7_knownBuild_36 : decode cX7_knownBuild 36 = .ok (.checkcast 120, 3) := by decide +kernel
theorem dX7_knownBuild_39 : decode cX7_knownBuild 39 = .ok (.areturn, 1) := by decide +kernel
theorem dX7_knownGroup_0 : decode cX7_knownGroup 0 = .ok (.iload_n 1, 1) := by decide +kernel
theorem dX7_knownGroup_1 : decode cX7_knownGroup 1 = .ok (.iconst 0, 1) := by decide +kernel
theorem dX7_knownGroup_2 : decode cX7_knownGroup 2 = .ok (.aload_n 0, 1) := by decide +kernel
theorem dX7_knownGroup_3 : decode cX7_knownGroup 3 = .ok (.getfield 22, 3) := by decide +kernel
theorem dX7_knownGroup_6 : decode cX7_knownGroup 6 = .ok (.invokevirtual 74, 3) := by decide +kernel
theorem dX7_knownGroup_9 : decode cX7_knownGroup 9 = .ok (.iconst 1, 1) := by decide +kernel
theorem dX7_knownGroup_10 : decode cX7_knownGroup 10 = .ok (.isub, 1) := by decide +kernel
theorem dX7_knownGroup_11 : decode cX7_knownGroup 11 = .ok (.invokestatic 63, 3) := by decide +kernel
theorem dX7_knownGroup_14 : decode cX7_knownGroup 14 = .ok (.ifCond .eq 14, 3) := by decide +kernel
theorem dX7_knownGroup_17 : decode cX7_knownGroup 17 = .ok (.new 392, 3) := by decide +kernel
theorem dX7_knownGroup_20 : decode cX7_knownGroup 20 = .ok (.dup, 1) := by decide +kernel
theorem dX7_knownGroup_21 : decode cX7_knownGroup 21 = .ok (.ldc_w 399, 3) := by decide +kernel
theorem dX7_knownGroup_24 : decode cX7_knownGroup 24 = .ok (.invokespecial 396, 3) := by decide +kernel
theorem dX7_knownGroup_27 : decode cX7_knownGroup 27 = .ok (.athrow, 1) := by decide +kernel
theorem dX7_knownGroup_28 : decode cX7_knownGroup 28 = .ok (.aload_n 0, 1) := by decide +kernel
theorem dX7_knownGroup_29 : decode cX7_knownGroup 29 = .ok (.getfield 22, 3) := by decide +kernel
theorem dX7_knownGroup_32 : decode cX7_knownGroup 32 = .ok (.iload_n 1, 1) := by decide +kernel
theorem dX7_knownGroup_33 : decode cX7_knownGroup 33 = .ok (.invokevirtual 178, 3) := by decide +kernel
theorem dX7_knownGroup_36 : decode cX7_knownGroup 36 = .ok (.checkcast 265, 3) := by decide +kernel
theorem dX7_knownGroup_39 : decode cX7_knownGroup 39 = .ok (.areturn, 1) := by decide +kernel
theorem dX7_ratedBuild_0 : decode cX7_ratedBuild 0 = .ok (.aload_n 0, 1) := by decide +kernel
theorem dX7_ratedBuild_1 : decode cX7_ratedBuild 1 = .ok (.iload_n 1, 1) := by decide +kernel
theorem dX7_ratedBuild_2 : decode cX7_ratedBuild 2 = .ok (.invokevirtual 115, 3) := by decide +kernel
theorem dX7_ratedBuild_5 : decode cX7_ratedBuild 5 = .ok (.astore_n 2, 1) := by decide +kernel
theorem dX7_ratedBuild_6 : decode cX7_ratedBuild 6 = .ok (.aload_n 2, 1) := by decide +kernel
theorem dX7_ratedBuild_7 : decode cX7_ratedBuild 7 = .ok (.getfield 314, 3) := by decide +kernel
theorem dX7_ratedBuild_10 : decode cX7_ratedBuild 10 = .ok (.ifCond .ne 14, 3) := by decide +kernel
theorem dX7_ratedBuild_13 : decode cX7_ratedBuild 13 = .ok (.new 353, 3) := by decide +kernel
theorem dX7_ratedBuild_16 : decode cX7_ratedBuild 16 = .ok (.dup, 1) := by decide +kernel
theorem dX7_ratedBuild_17 : decode cX7_ratedBuild 17 = .ok (.ldc_w 401, 3) := by decide +kernel
theorem dX7_ratedBuild_20 : decode cX7_ratedBuild 20 = .ok (.invokespecial 357, 3) := by decide +kernel
theorem dX7_ratedBuild_23 : decode cX7_ratedBuild 23 = .ok (.athrow, 1) := by decide +kernel
theorem dX7_ratedBuild_24 : decode cX7_ratedBuild 24 = .ok (.aload_n 2, 1) := by decide +kernel
theorem dX7_ratedBuild_25 : decode cX7_ratedBuild 25 = .ok (.areturn, 1) := by decide +kernel
theorem dX7_buildHadBy_0 : decode cX7_buildHadBy 0 = .ok (.aload_n 0, 1) := by decide +kernel
theorem dX7_buildHadBy_1 : decode cX7_buildHadBy 1 = .ok (.getfield 225, 3) := by decide +kernel
theorem dX7_buildHadBy_4 : decode cX7_buildHadBy 4 = .ok (.astore_n 1, 1) := by decide +kernel
theorem dX7_buildHadBy_5 : decode cX7_buildHadBy 5 = .ok (.aload_n 1, 1) := by decide +kernel
theorem dX7_buildHadBy_6 : decode cX7_buildHadBy 6 = .ok (.ifnonnull 14, 3) := by decide +kernel
theorem dX7_buildHadBy_9 : decode cX7_buildHadBy 9 = .ok (.new 78, 3) := by decide +kernel
theorem dX7_buildHadBy_12 : decode cX7_buildHadBy 12 = .ok (.dup, 1) := by decide +kernel
theorem dX7_buildHadBy_13 : decode cX7_buildHadBy 13 = .ok (.ldc_w 403, 3) := by decide +kernel
theorem dX7_buildHadBy_16 : decode cX7_buildHadBy 16 = .ok (.invokespecial 82, 3) := by decide +kernel
theorem dX7_buildHadBy_19 : decode cX7_buildHadBy 19 = .ok (.athrow, 1) := by decide +kernel
theorem dX7_buildHadBy_20 : decode cX7_buildHadBy 20 = .ok (.aload_n 1, 1) := by decide +kernel
theorem dX7_buildHadBy_21 : decode cX7_buildHadBy 21 = .ok (.areturn, 1) := by decide +kernel
theorem dX7_refuseUnknownItem_0 : decode cX7_refuseUnknownItem 0 = .ok (.iload_n 0, 1) := by decide +kernel
theorem dX7_refuseUnknownItem_1 : decode cX7_refuseUnknownItem 1 = .ok (.iconst 0, 1) := by decide +kernel
theorem dX7_refuseUnknownItem_2 : decode cX7_refuseUnknownItem 2 = .ok (.bipush 7, 2) := by decide +kernel
theorem dX7_refuseUnknownItem_4 : decode cX7_refuseUnknownItem 4 = .ok (.invokestatic 63, 3) := by decide +kernel
theorem dX7_refuseUnknownItem_7 : decode cX7_refuseUnknownItem 7 = .ok (.ifCond .eq 14, 3) := by decide +kernel
theorem dX7_refuseUnknownItem_10 : decode cX7_refuseUnknownItem 10 = .ok (.new 67, 3) := by decide +kernel
theorem dX7_refuseUnknownItem_13 : decode cX7_refuseUnknownItem 13 = .ok (.dup, 1) := by decide +kernel
theorem dX7_refuseUnknownItem_14 : decode cX7_refuseUnknownItem 14 = .ok (.ldc_w 405, 3) := by decide +kernel
theorem dX7_refuseUnknownItem_17 : decode cX7_refuseUnknownItem 17 = .ok (.invokespecial 71, 3) := by decide +kernel
theorem dX7_refuseUnknownItem_20 : decode cX7_refuseUnknownItem 20 = .ok (.athrow, 1) := by decide +kernel
theorem dX7_refuseUnknownItem_21 : decode cX7_refuseUnknownItem 21 = .ok (.return_, 1) := by decide +kernel
theorem dX7_kindFor_0 : decode cX7_kindFor 0 = .ok (.iconst 0, 1) := by decide +kernel
theorem dX7_kindFor_1 : decode cX7_kindFor 1 = .ok (.istore_n 3, 1) := by decide +kernel
theorem dX7_kindFor_2 : decode cX7_kindFor 2 = .ok (.iload_n 3, 1) := by decide +kernel
theorem dX7_kindFor_3 : decode cX7_kindFor 3 = .ok (.aload_n 0, 1) := by decide +kernel
theorem dX7_kindFor_4 : decode cX7_kindFor 4 = .ok (.getfield 16, 3) := by decide +kernel
theorem dX7_kindFor_7 : decode cX7_kindFor 7 = .ok (.invokevirtual 74, 3) := by decide +kernel
theorem dX7_kindFor_10 : decode cX7_kindFor 10 = .ok (.if_icmp .ge 43, 3) := by decide +kernel
theorem dX7_kindFor_13 : decode cX7_kindFor 13 = .ok (.aload_n 0, 1) := by decide +kernel
theorem dX7_kindFor_14 : decode cX7_kindFor 14 = .ok (.getfield 16, 3) := by decide +kernel
theorem dX7_kindFor_17 : decode cX7_kindFor 17 = .ok (.iload_n 3, 1) := by decide +kernel
theorem dX7_kindFor_18 : decode cX7_kindFor 18 = .ok (.invokevirtual 178, 3) := by decide +kernel
theorem dX7_kindFor_21 : decode cX7_kindFor 21 = .ok (.checkcast 97, 3) := by decide +kernel
theorem dX7_kindFor_24 : decode cX7_kindFor 24 = .ok (.astore 4, 2) := by decide +kernel
theorem dX7_kindFor_26 : decode cX7_kindFor 26 = .ok (.aload 4, 2) := by decide +kernel
theorem dX7_kindFor_28 : decode cX7_kindFor 28 = .ok (.getfield 197, 3) := by decide +kernel
theorem dX7_kindFor_31 : decode cX7_kindFor 31 = .ok (.iload_n 1, 1) := by decide +kernel
theorem dX7_kindFor_32 : decode cX7_kindFor 32 = .ok (.if_icmp .ne 15, 3) := by decide +kernel
theorem dX7_kindFor_35 : decode cX7_kindFor 35 = .ok (.aload 4, 2) := by decide +kernel
theorem dX7_kindFor_37 : decode cX7_kindFor 37 = .ok (.getfield 200, 3) := by decide +kernel
theorem dX7_kindFor_40 : decode cX7_kindFor 40 = .ok (.iload_n 2, 1) := by decide +kernel
theorem dX7_kindFor_41 : decode cX7_kindFor 41 = .ok (.if_icmp .ne 6, 3) := by decide +kernel
theorem dX7_kindFor_44 : decode cX7_kindFor 44 = .ok (.aload 4, 2) := by decide +kernel
theorem dX7_kindFor_46 : decode cX7_kindFor 46 = .ok (.areturn, 1) := by decide +kernel
theorem dX7_kindFor_47 : decode cX7_kindFor 47 = .ok (.iinc 3 1, 3) := by decide +kernel
theorem dX7_kindFor_50 : decode cX7_kindFor 50 = .ok (.goto (-48), 3) := by decide +kernel
theorem dX7_kindFor_53 : decode cX7_kindFor 53 = .ok (.new 97, 3) := by decide +kernel
theorem dX7_kindFor_56 : decode cX7_kindFor 56 = .ok (.dup, 1) := by decide +kernel
theorem dX7_kindFor_57 : decode cX7_kindFor 57 = .ok (.iload_n 1, 1) := by decide +kernel
theorem dX7_kindFor_58 : decode cX7_kindFor 58 = .ok (.iload_n 2, 1) := by decide +kernel
theorem dX7_kindFor_59 : decode cX7_kindFor 59 = .ok (.invokespecial 407, 3) := by decide +kernel
theorem dX7_kindFor_62 : decode cX7_kindFor 62 = .ok (.astore_n 3, 1) := by decide +kernel
theorem dX7_kindFor_63 : decode cX7_kindFor 63 = .ok (.aload_n 0, 1) := by decide +kernel
theorem dX7_kindFor_64 : decode cX7_kindFor 64 = .ok (.getfield 16, 3) := by decide +kernel
theorem dX7_kindFor_67 : decode cX7_kindFor 67 = .ok (.aload_n 3, 1) := by decide +kernel
theorem dX7_kindFor_68 : decode cX7_kindFor 68 = .ok (.invokevirtual 88, 3) := by decide +kernel
theorem dX7_kindFor_71 : decode cX7_kindFor 71 = .ok (.pop, 1) := by decide +kernel
theorem dX7_kindFor_72 : decode cX7_kindFor 72 = .ok (.aload_n 3, 1) := by decide +kernel
theorem dX7_kindFor_73 : decode cX7_kindFor 73 = .ok (.areturn, 1) := by decide +kernel
theorem dX7_addDraft_0 : decode cX7_addDraft 0 = .ok (.iload_n 1, 1) := by decide +kernel
theorem dX7_addDraft_1 : decode cX7_addDraft 1 = .ok (.iconst 1, 1) := by decide +kernel
theorem dX7_addDraft_2 : decode cX7_addDraft 2 = .ok (.sipush 999, 3) := by decide +kernel
theorem dX7_addDraft_5 : decode cX7_addDraft 5 = .ok (.invokestatic 63, 3) := by decide +kernel
theorem dX7_addDraft_8 : decode cX7_addDraft 8 = .ok (.ifCond .ne 25, 3) := by decide +kernel
theorem dX7_addDraft_11 : decode cX7_addDraft 11 = .ok (.iload_n 3, 1) := by decide +kernel
theorem dX7_addDraft_12 : decode cX7_addDraft 12 = .ok (.iconst 1, 1) := by decide +kernel
theorem dX7_addDraft_13 : decode cX7_addDraft 13 = .ok (.sipush 500, 3) := by decide +kernel
theorem dX7_addDraft_16 : decode cX7_addDraft 16 = .ok (.invokestatic 63, 3) := by decide +kernel
theorem dX7_addDraft_19 : decode cX7_addDraft 19 = .ok (.ifCond .ne 14, 3) := by decide +kernel
theorem dX7_addDraft_22 : decode cX7_addDraft 22 = .ok (.iload 4, 2) := by decide +kernel
theorem dX7_addDraft_24 : decode cX7_addDraft 24 = .ok (.iconst 0, 1) := by decide +kernel
theorem dX7_addDraft_25 : decode cX7_addDraft 25 = .ok (.bipush 15, 2) := by decide +kernel
theorem dX7_addDraft_27 : decode cX7_addDraft 27 = .ok (.invokestatic 63, 3) := by decide +kernel
theorem dX7_addDraft_30 : decode cX7_addDraft 30 = .ok (.ifCond .eq 13, 3) := by decide +kernel
theorem dX7_addDraft_33 : decode cX7_addDraft 33 = .ok (.new 67, 3) := by decide +kernel
theorem dX7_addDraft_36 : decode cX7_addDraft 36 = .ok (.dup, 1) := by decide +kernel
theorem dX7_addDraft_37 : decode cX7_addDraft 37 = .ok (.ldc 69, 2) := by decide +kernel
theorem dX7_addDraft_39 : decode cX7_addDraft 39 = .ok (.invokespecial 71, 3) := by decide +kernel
theorem dX7_addDraft_42 : decode cX7_addDraft 42 = .ok (.athrow, 1) := by decide +kernel
theorem dX7_addDraft_43 : decode cX7_addDraft 43 = .ok (.aload_n 0, 1) := by decide +kernel
theorem dX7_addDraft_44 : decode cX7_addDraft 44 = .ok (.iload_n 1, 1) := by decide +kernel
theorem dX7_addDraft_45 : decode cX7_addDraft 45 = .ok (.invokevirtual 409, 3) := by decide +kernel
theorem dX7_addDraft_48 : decode cX7_addDraft 48 = .ok (.ifCond .ne 15, 3) := by decide +kernel
theorem dX7_addDraft_51 : decode cX7_addDraft 51 = .ok (.aload_n 0, 1) := by decide +kernel
theorem dX7_addDraft_52 : decode cX7_addDraft 52 = .ok (.getfield 19, 3) := by decide +kernel
theorem dX7_addDraft_55 : decode cX7_addDraft 55 = .ok (.invokevirtual 74, 3) := by decide +kernel
theorem dX7_addDraft_58 : decode cX7_addDraft 58 = .ok (.bipush 10, 2) := by decide +kernel
theorem dX7_addDraft_60 : decode cX7_addDraft 60 = .ok (.if_icmp .lt 14, 3) := by decide +kernel
theorem dX7_addDraft_63 : decode cX7_addDraft 63 = .ok (.new 78, 3) := by decide +kernel
theorem dX7_addDraft_66 : decode cX7_addDraft 66 = .ok (.dup, 1) := by decide +kernel
theorem dX7_addDraft_67 : decode cX7_addDraft 67 = .ok (.ldc_w 413, 3) := by decide +kernel
theorem dX7_addDraft_70 : decode cX7_addDraft 70 = .ok (.invokespecial 82, 3) := by decide +kernel
theorem dX7_addDraft_73 : decode cX7_addDraft 73 = .ok (.athrow, 1) := by decide +kernel
theorem dX7_addDraft_74 : decode cX7_addDraft 74 = .ok (.new 120, 3) := by decide +kernel
theorem dX7_addDraft_77 : decode cX7_addDraft 77 = .ok (.dup, 1) := by decide +kernel
theorem dX7_addDraft_78 : decode cX7_addDraft 78 = .ok (.aload_n 0, 1) := by decide +kernel
theorem dX7_addDraft_79 : decode cX7_addDraft 79 = .ok (.getfield 19, 3) := by decide +kernel
theorem dX7_addDraft_82 : decode cX7_addDraft 82 = .ok (.invokevirtual 74, 3) := by decide +kernel
theorem dX7_addDraft_85 : decode cX7_addDraft 85 = .ok (.iload_n 1, 1) := by decide +kernel
theorem dX7_addDraft_86 : decode cX7_addDraft 86 = .ok (.aload_n 2, 1) := by decide +kernel
theorem dX7_addDraft_87 : decode cX7_addDraft 87 = .ok (.iload_n 3, 1) := by decide +kernel
theorem dX7_addDraft_88 : decode cX7_addDraft 88 = .ok (.iload 4, 2) := by decide +kernel
theorem dX7_addDraft_90 : decode cX7_addDraft 90 = .ok (.aload 5, 2) := by decide +kernel
theorem dX7_addDraft_92 : decode cX7_addDraft 92 = .ok (.invokespecial 415, 3) := by decide +kernel
theorem dX7_addDraft_95 : decode cX7_addDraft 95 = .ok (.astore 6, 2) := by decide +kernel
theorem dX7_addDraft_97 : decode cX7_addDraft 97 = .ok (.aload_n 0, 1) := by decide +kernel
theorem dX7_addDraft_98 : decode cX7_addDraft 98 = .ok (.getfield 19, 3) := by decide +kernel
theorem dX7_addDraft_101 : decode cX7_addDraft 101 = .ok (.aload 6, 2) := by decide +kernel
theorem dX7_addDraft_103 : decode cX7_addDraft 103 = .ok (.invokevirtual 88, 3) := by decide +kernel
theorem dX7_addDraft_106 : decode cX7_addDraft 106 = .ok (.pop, 1) := by decide +kernel
theorem dX7_addDraft_107 : decode cX7_addDraft 107 = .ok (.aload 6, 2) := by decide +kernel
theorem dX7_addDraft_109 : decode cX7_addDraft 109 = .ok (.getfield 142, 3) := by decide +kernel
theorem dX7_addDraft_112 : decode cX7_addDraft 112 = .ok (.ireturn, 1) := by decide +kernel
theorem dX7_hasVersion_0 : decode cX7_hasVersion 0 = .ok (.iconst 0, 1) := by decide +kernel
theorem dX7_hasVersion_1 : decode cX7_hasVersion 1 = .ok (.istore_n 2, 1) := by decide +kernel
theorem dX7_hasVersion_2 : decode cX7_hasVersion 2 = .ok (.iload_n 2, 1) := by decide +kernel
theorem dX7_hasVersion_3 : decode cX7_hasVersion 3 = .ok (.aload_n 0, 1) := by decide +kernel
theorem dX7_hasVersion_4 : decode cX7_hasVersion 4 = .ok (.getfield 19, 3) := by decide +kernel
theorem dX7_hasVersion_7 : decode cX7_hasVersion 7 = .ok (.invokevirtual 74, 3) := by decide +kernel
theorem dX7_hasVersion_10 : decode cX7_hasVersion 10 = .ok (.if_icmp .ge 29, 3) := by decide +kernel
theorem dX7_hasVersion_13 : decode cX7_hasVersion 13 = .ok (.aload_n 0, 1) := by decide +kernel
theorem dX7_hasVersion_14 : decode cX7_hasVersion 14 = .ok (.getfield 19, 3) := by decide +kernel
theorem dX7_hasVersion_17 : decode cX7_hasVersion 17 = .ok (.iload_n 2, 1) := by decide +kernel
theorem dX7_hasVersion_18 : decode cX7_hasVersion 18 = .ok (.invokevirtual 178, 3) := by decide +kernel
theorem dX7_hasVersion_21 : decode cX7_hasVersion 21 = .ok (.checkcast 120, 3) := by decide +kernel
theorem dX7_hasVersion_24 : decode cX7_hasVersion 24 = .ok (.getfield 364, 3) := by decide +kernel
theorem dX7_hasVersion_27 : decode cX7_hasVersion 27 = .ok (.iload_n 1, 1) := by decide +kernel
theorem dX7_hasVersion_28 : decode cX7_hasVersion 28 = .ok (.if_icmp .ne 5, 3) := by decide +kernel
theorem dX7_hasVersion_31 : decode cX7_hasVersion 31 = .ok (.iconst 1, 1) := by decide +kernel
theorem dX7_hasVersion_32 : decode cX7_hasVersion 32 = .ok (.ireturn, 1) := by decide +kernel
theorem dX7_hasVersion_33 : decode cX7_hasVersion 33 = .ok (.iinc 2 1, 3) := by decide +kernel
theorem dX7_hasVersion_36 : decode cX7_hasVersion 36 = .ok (.goto (-34), 3) := by decide +kernel
theorem dX7_hasVersion_39 : decode cX7_hasVersion 39 = .ok (.iconst 0, 1) := by decide +kernel
theorem dX7_hasVersion_40 : decode cX7_hasVersion 40 = .ok (.ireturn, 1) := by decide +kernel
theorem dX7_queue_0 : decode cX7_queue 0 = .ok (.aload_n 1, 1) := by decide +kernel
theorem dX7_queue_1 : decode cX7_queue 1 = .ok (.bipush 119, 2) := by decide +kernel
theorem dX7_queue_3 : decode cX7_queue 3 = .ok (.putfield 125, 3) := by decide +kernel
theorem dX7_queue_6 : decode cX7_queue 6 = .ok (.aload_n 1, 1) := by decide +kernel
theorem dX7_queue_7 : decode cX7_queue 7 = .ok (.aload_n 0, 1) := by decide +kernel
theorem dX7_queue_8 : decode cX7_queue 8 = .ok (.getfield 49, 3) := by decide +kernel
theorem dX7_queue_11 : decode cX7_queue 11 = .ok (.putfield 418, 3) := by decide +kernel
theorem dX7_queue_14 : decode cX7_queue 14 = .ok (.aload_n 0, 1) := by decide +kernel
theorem dX7_queue_15 : decode cX7_queue 15 = .ok (.dup, 1) := by decide +kernel
theorem dX7_queue_16 : decode cX7_queue 16 = .ok (.getfield 49, 3) := by decide +kernel
theorem dX7_queue_19 : decode cX7_queue 19 = .ok (.iconst 1, 1) := by decide +kernel
theorem dX7_queue_20 : decode cX7_queue 20 = .ok (.iadd, 1) := by decide +kernel
theorem dX7_queue_21 : decode cX7_queue 21 = .ok (.putfield 49, 3) := by decide +kernel
theorem dX7_queue_24 : decode cX7_queue 24 = .ok (.return_, 1) := by decide +kernel
theorem dX7_countWaiting_0 : decode cX7_countWaiting 0 = .ok (.iconst 0, 1) := by decide +kernel
theorem dX7_countWaiting_1 : decode cX7_countWaiting 1 = .ok (.istore_n 1, 1) := by decide +kernel
theorem dX7_countWaiting_2 : decode cX7_countWaiting 2 = .ok (.iconst 0, 1) := by decide +kernel
theorem dX7_countWaiting_3 : decode cX7_countWaiting 3 = .ok (.istore_n 2, 1) := by decide +kernel
theorem dX7_countWaiting_4 : decode cX7_countWaiting 4 = .ok (.iload_n 2, 1) := by decide +kernel
theorem dX7_countWaiting_5 : decode cX7_countWaiting 5 = .ok (.aload_n 0, 1) := by decide +kernel
theorem dX7_countWaiting_6 : decode cX7_countWaiting 6 = .ok (.getfield 19, 3) := by decide +kernel
theorem dX7_countWaiting_9 : decode cX7_countWaiting 9 = .ok (.invokevirtual 74, 3) := by decide +kernel
theorem dX7_countWaiting_12 : decode cX7_countWaiting 12 = .ok (.if_icmp .ge 31, 3) := by decide +kernel
theorem dX7_countWaiting_15 : decode cX7_countWaiting 15 = .ok (.aload_n 0, 1) := by decide +kernel
theorem dX7_countWaiting_16 : decode cX7_countWaiting 16 = .ok (.getfield 19, 3) := by decide +kernel
theorem dX7_countWaiting_19 : decode cX7_countWaiting 19 = .ok (.iload_n 2, 1) := by decide +kernel
theorem dX7_countWaiting_20 : decode cX7_countWaiting 20 = .ok (.invokevirtual 178, 3) := by decide +kernel
theorem dX7_countWaiting_23 : decode cX7_countWaiting 23 = .ok (.checkcast 120, 3) := by decide +kernel
theorem dX7_countWaiting_26 : decode cX7_countWaiting 26 = .ok (.getfield 125, 3) := by decide +kernel
theorem dX7_countWaiting_29 : decode cX7_countWaiting 29 = .ok (.bipush 119, 2) := by decide +kernel
theorem dX7_countWaiting_31 : decode cX7_countWaiting 31 = .ok (.if_icmp .ne 6, 3) := by decide +kernel
theorem dX7_countWaiting_34 : decode cX7_countWaiting 34 = .ok (.iinc 1 1, 3) := by decide +kernel
theorem dX7_countWaiting_37 : decode cX7_countWaiting 37 = .ok (.iinc 2 1, 3) := by decide +kernel
theorem dX7_countWaiting_40 : decode cX7_countWaiting 40 = .ok (.goto (-36), 3) := by decide +kernel
theorem dX7_countWaiting_43 : decode cX7_countWaiting 43 = .ok (.iload_n 1, 1) := by decide +kernel
theorem dX7_countWaiting_44 : decode cX7_countWaiting 44 = .ok (.ireturn, 1) := by decide +kernel
theorem dX7_firstWaiting_0 : decode cX7_firstWaiting 0 = .ok (.aconst_null, 1) := by decide +kernel
theorem dX7_firstWaiting_1 : decode cX7_firstWaiting 1 = .ok (.astore_n 1, 1) := by decide +kernel
theorem dX7_firstWaiting_2 : decode cX7_firstWaiting 2 = .ok (.iconst 0, 1) := by decide +kernel
theorem dX7_firstWaiting_3 : decode cX7_firstWaiting 3 = .ok (.istore_n 2, 1) := by decide +kernel
theorem dX7_firstWaiting_4 : decode cX7_firstWaiting 4 = .ok (.iload_n 2, 1) := by decide +kernel
theorem dX7_firstWaiting_5 : decode cX7_firstWaiting 5 = .ok (.aload_n 0, 1) := by decide +kernel
theorem dX7_firstWaiting_6 : decode cX7_firstWaiting 6 = .ok (.getfield 19, 3) := by decide +kernel
theorem dX7_firstWaiting_9 : decode cX7_firstWaiting 9 = .ok (.invokevirtual 74, 3) := by decide +kernel
theorem dX7_firstWaiting_12 : decode cX7_firstWaiting 12 = .ok (.if_icmp .ge 44, 3) := by decide +kernel
theorem dX7_firstWaiting_15 : decode cX7_firstWaiting 15 = .ok (.aload_n 0, 1) := by decide +kernel
theorem dX7_firstWaiting_16 : decode cX7_firstWaiting 16 = .ok (.getfield 19, 3) := by decide +kernel
theorem dX7_firstWaiting_19 : decode cX7_firstWaiting 19 = .ok (.iload_n 2, 1) := by decide +kernel
theorem dX7_firstWaiting_20 : decode cX7_firstWaiting 20 = .ok (.invokevirtual 178, 3) := by decide +kernel
theorem dX7_firstWaiting_23 : decode cX7_firstWaiting 23 = .ok (.checkcast 120, 3) := by decide +kernel
theorem dX7_firstWaiting_26 : decode cX7_firstWaiting 26 = .ok (.astore_n 3, 1) := by decide +kernel
theorem dX7_firstWaiting_27 : decode cX7_firstWaiting 27 = .ok (.aload_n 3, 1) := by decide +kernel
theorem dX7_firstWaiting_28 : decode cX7_firstWaiting 28 = .ok (.getfield 125, 3) := by decide +kernel
theorem dX7_firstWaiting_31 : decode cX7_firstWaiting 31 = .ok (.bipush 119, 2) := by decide +kernel
theorem dX7_firstWaiting_33 : decode cX7_firstWaiting 33 = .ok (.if_icmp .ne 17, 3) := by decide +kernel
theorem dX7_firstWaiting_36 : decode cX7_firstWaiting 36 = .ok (.aload_n 1, 1) := by decide +kernel
theorem dX7_firstWaiting_37 : decode cX7_firstWaiting 37 = .ok (.ifnull 11, 3) := by decide +kernel
theorem dX7_firstWaiting_40 : decode cX7_firstWaiting 40 = .ok (.aload_n 3, 1) := by decide +kernel
theorem dX7_firstWaiting_41 : decode cX7_firstWaiting 41 = .ok (.aload_n 1, 1) := by decide +kernel
theorem dX7_firstWaiting_42 : decode cX7_firstWaiting 42 = .ok (.invokevirtual 421, 3) := by decide +kernel
theorem dX7_firstWaiting_45 : decode cX7_firstWaiting 45 = .ok (.ifCond .eq 5, 3) := by decide +kernel
theorem dX7_firstWaiting_48 : decode cX7_firstWaiting 48 = .ok (.aload_n 3, 1) := by decide +kernel
theorem dX7_firstWaiting_49 : decode cX7_firstWaiting 49 = .ok (.astore_n 1, 1) := by decide +kernel
theorem dX7_firstWaiting_50 : decode cX7_firstWaiting 50 = .ok (.iinc 2 1, 3) := by decide +kernel
theorem dX7_firstWaiting_53 : decode cX7_firstWaiting 53 = .ok (.goto (-49), 3) := by decide +kernel
theorem dX7_firstWaiting_56 : decode cX7_firstWaiting 56 = .ok (.aload_n 1, 1) := by decide +kernel
theorem dX7_firstWaiting_57 : decode cX7_firstWaiting 57 = .ok (.ifnonnull 14, 3) := by decide +kernel
theorem dX7_firstWaiting_60 : decode cX7_firstWaiting 60 = .ok (.new 78, 3) := by decide +kernel
theorem dX7_firstWaiting_63 : decode cX7_firstWaiting 63 = .ok (.dup, 1) := by decide +kernel
theorem dX7_firstWaiting_64 : decode cX7_firstWaiting 64 = .ok (.ldc_w 424, 3) := by decide +kernel
theorem dX7_firstWaiting_67 : decode cX7_firstWaiting 67 = .ok (.invokespecial 82, 3) := by decide +kernel
theorem dX7_firstWaiting_70 : decode cX7_firstWaiting 70 = .ok (.athrow, 1) := by decide +kernel
theorem dX7_firstWaiting_71 : decode cX7_firstWaiting 71 = .ok (.aload_n 1, 1) := by decide +kernel
theorem dX7_firstWaiting_72 : decode cX7_firstWaiting 72 = .ok (.areturn, 1) := by decide +kernel
theorem dX7_barringRule_0 : decode cX7_barringRule 0 = .ok (.aload_n 1, 1) := by decide +kernel
theorem dX7_barringRule_1 : decode cX7_barringRule 1 = .ok (.getfield 426, 3) := by decide +kernel
theorem dX7_barringRule_4 : decode cX7_barringRule 4 = .ok (.aload_n 0, 1) := by decide +kernel
theorem dX7_barringRule_5 : decode cX7_barringRule 5 = .ok (.getfield 42, 3) := by decide +kernel
theorem dX7_barringRule_8 : decode cX7_barringRule 8 = .ok (.if_icmp .le 6, 3) := by decide +kernel
theorem dX7_barringRule_11 : decode cX7_barringRule 11 = .ok (.bipush 115, 2) := by decide +kernel
theorem dX7_barringRule_13 : decode cX7_barringRule 13 = .ok (.ireturn, 1) := by decide +kernel
theorem dX7_barringRule_14 : decode cX7_barringRule 14 = .ok (.aload_n 1, 1) := by decide +kernel
theorem dX7_barringRule_15 : decode cX7_barringRule 15 = .ok (.getfield 428, 3) := by decide +kernel
theorem dX7_barringRule_18 : decode cX7_barringRule 18 = .ok (.aload_n 0, 1) := by decide +kernel
theorem dX7_barringRule_19 : decode cX7_barringRule 19 = .ok (.getfield 46, 3) := by decide +kernel
theorem dX7_barringRule_22 : decode cX7_barringRule 22 = .ok (.iand, 1) := by decide +kernel
theorem dX7_barringRule_23 : decode cX7_barringRule 23 = .ok (.ifCond .eq 8, 3) := by decide +kernel
theorem dX7_barringRule_26 : decode cX7_barringRule 26 = .ok (.bipush 112, 2) := by decide +kernel
theorem dX7_barringRule_28 : decode cX7_barringRule 28 = .ok (.goto 5, 3) := by decide +kernel
theorem dX7_barringRule_31 : decode cX7_barringRule 31 = .ok (.bipush 45, 2) := by decide +kernel
theorem dX7_barringRule_33 : decode cX7_barringRule 33 = .ok (.ireturn, 1) := by decide +kernel
theorem dX7_holdReason_0 : decode cX7_holdReason 0 = .ok (.aload_n 0, 1) := by decide +kernel
theorem dX7_holdReason_1 : decode cX7_holdReason 1 = .ok (.aload_n 1, 1) := by decide +kernel
theorem dX7_holdReason_2 : decode cX7_holdReason 2 = .ok (.invokevirtual 145, 3) := by decide +kernel
theorem dX7_holdReason_5 : decode cX7_holdReason 5 = .ok (.bipush 45, 2) := by decide +kernel
theorem dX7_holdReason_7 : decode cX7_holdReason 7 = .ok (.if_icmp .eq 6, 3) := by decide +kernel
theorem dX7_holdReason_10 : decode cX7_holdReason 10 = .ok (.bipush 118, 2) := by decide +kernel
theorem dX7_holdReason_12 : decode cX7_holdReason 12 = .ok (.ireturn, 1) := by decide +kernel
theorem dX7_holdReason_13 : decode cX7_holdReason 13 = .ok (.aload_n 1, 1) := by decide +kernel
theorem dX7_holdReason_14 : decode cX7_holdReason 14 = .ok (.getfield 231, 3) := by decide +kernel
theorem dX7_holdReason_17 : decode cX7_holdReason 17 = .ok (.iconst 3, 1) := by decide +kernel
theorem dX7_holdReason_18 : decode cX7_holdReason 18 = .ok (.if_icmp .lt 18, 3) := by decide +kernel
theorem dX7_holdReason_21 : decode cX7_holdReason 21 = .ok (.aload_n 1, 1) := by decide +kernel
theorem dX7_holdReason_22 : decode cX7_holdReason 22 = .ok (.invokevirtual 305, 3) := by decide +kernel
theorem dX7_holdReason_25 : decode cX7_holdReason 25 = .ok (.aload_n 0, 1) := by decide +kernel
theorem dX7_holdReason_26 : decode cX7_holdReason 26 = .ok (.getfield 57, 3) := by decide +kernel
theorem dX7_holdReason_29 : decode cX7_holdReason 29 = .ok (.fcmp .l, 1) := by decide +kernel
theorem dX7_holdReason_30 : decode cX7_holdReason 30 = .ok (.ifCond .le 6, 3) := by decide +kernel
theorem dX7_holdReason_33 : decode cX7_holdReason 33 = .ok (.bipush 99, 2) := by decide +kernel
theorem dX7_holdReason_35 : decode cX7_holdReason 35 = .ok (.ireturn, 1) := by decide +kernel
theorem dX7_holdReason_36 : decode cX7_holdReason 36 = .ok (.aload_n 1, 1) := by decide +kernel
theorem dX7_holdReason_37 : decode cX7_holdReason 37 = .ok (.getfield 314, 3) := by decide +kernel
theorem dX7_holdReason_40 : decode cX7_holdReason 40 = .ok (.iconst 3, 1) := by decide +kernel
theorem dX7_holdReason_41 : decode cX7_holdReason 41 = .ok (.if_icmp .lt 17, 3) := by decide +kernel
theorem dX7_holdReason_44 : decode cX7_holdReason 44 = .ok (.aload_n 1, 1) := by decide +kernel
theorem dX7_holdReason_45 : decode cX7_holdReason 45 = .ok (.invokevirtual 320, 3) := by decide +kernel
theorem dX7_holdReason_48 : decode cX7_holdReason 48 = .ok (.ldc2_w 431, 3) := by decide +kernel
theorem dX7_holdReason_51 : decode cX7_holdReason 51 = .ok (.dcmp .g, 1) := by decide +kernel
theorem dX7_holdReason_52 : decode cX7_holdReason 52 = .ok (.ifCond .ge 6, 3) := by decide +kernel
theorem dX7_holdReason_55 : decode cX7_holdReason 55 = .ok (.bipush 116, 2) := by decide +kernel
theorem dX7_holdReason_57 : decode cX7_holdReason 57 = .ok (.ireturn, 1) := by decide +kernel
theorem dX7_holdReason_58 : decode cX7_holdReason 58 = .ok (.bipush 45, 2) := by decide +kernel
theorem dX7_holdReason_60 : decode cX7_holdReason 60 = .ok (.ireturn, 1) := by decide +kernel
theorem dX7_isRolledOut_0 : decode cX7_isRolledOut 0 = .ok (.aload_n 1, 1) := by decide +kernel
theorem dX7_isRolledOut_1 : decode cX7_isRolledOut 1 = .ok (.getfield 125, 3) := by decide +kernel
theorem dX7_isRolledOut_4 : decode cX7_isRolledOut 4 = .ok (.bipush 97, 2) := by decide +kernel
theorem dX7_isRolledOut_6 : decode cX7_isRolledOut 6 = .ok (.if_icmp .ne 24, 3) := by decide +kernel
theorem dX7_isRolledOut_9 : decode cX7_isRolledOut 9 = .ok (.aload_n 1, 1) := by decide +kernel
theorem dX7_isRolledOut_10 : decode cX7_isRolledOut 10 = .ok (.getfield 161, 3) := by decide +kernel
theorem dX7_isRolledOut_13 : decode cX7_isRolledOut 13 = .ok (.ifCond .le 17, 3) := by decide +kernel
theorem dX7_isRolledOut_16 : decode cX7_isRolledOut 16 = .ok (.aload_n 0, 1) := by decide +kernel
theorem dX7_isRolledOut_17 : decode cX7_isRolledOut 17 = .ok (.aload_n 1, 1) := by decide +kernel
theorem dX7_isRolledOut_18 : decode cX7_isRolledOut 18 = .ok (.invokevirtual 182, 3) := by decide +kernel
theorem dX7_isRolledOut_21 : decode cX7_isRolledOut 21 = .ok (.bipush 45, 2) := by decide +kernel
theorem dX7_isRolledOut_23 : decode cX7_isRolledOut 23 = .ok (.if_icmp .ne 7, 3) := by decide +kernel
theorem dX7_isRolledOut_26 : decode cX7_isRolledOut 26 = .ok (.iconst 1, 1) := by decide +kernel
theorem dX7_isRolledOut_27 : decode cX7_isRolledOut 27 = .ok (.goto 4, 3) := by decide +kernel
theorem dX7_isRolledOut_30 : decode cX7_isRolledOut 30 = .ok (.iconst 0, 1) := by decide +kernel
theorem dX7_isRolledOut_31 : decode cX7_isRolledOut 31 = .ok (.ireturn, 1) := by decide +kernel
theorem dX7_grownPercentage_0 : decode cX7_grownPercentage 0 = .ok (.aload_n 0, 1) := by decide +kernel
theorem dX7_grownPercentage_1 : decode cX7_grownPercentage 1 = .ok (.aload_n 1, 1) := by decide +kernel
theorem dX7_grownPercentage_2 : decode cX7_grownPercentage 2 = .ok (.invokevirtual 193, 3) := by decide +kernel
theorem dX7_grownPercentage_5 : decode cX7_grownPercentage 5 = .ok (.ifCond .ne 8, 3) := by decide +kernel
theorem dX7_grownPercentage_8 : decode cX7_grownPercentage 8 = .ok (.aload_n 1, 1) := by decide +kernel
theorem dX7_grownPercentage_9 : decode cX7_grownPercentage 9 = .ok (.getfield 161, 3) := by decide +kernel
theorem dX7_grownPercentage_12 : decode cX7_grownPercentage 12 = .ok (.ireturn, 1) := by decide +kernel
theorem dX7_grownPercentage_13 : decode cX7_grownPercentage 13 = .ok (.bipush 100, 2) := by decide +kernel
theorem dX7_grownPercentage_15 : decode cX7_grownPercentage 15 = .ok (.aload_n 1, 1) := by decide +kernel
theorem dX7_grownPercentage_16 : decode cX7_grownPercentage 16 = .ok (.getfield 161, 3) := by decide +kernel
theorem dX7_grownPercentage_19 : decode cX7_grownPercentage 19 = .ok (.aload_n 1, 1) := by decide +kernel
theorem dX7_grownPercentage_20 : decode cX7_grownPercentage 20 = .ok (.getfield 169, 3) := by decide +kernel
theorem dX7_grownPercentage_23 : decode cX7_grownPercentage 23 = .ok (.iload_n 2, 1) := by decide +kernel
theorem dX7_grownPercentage_24 : decode cX7_grownPercentage 24 = .ok (.imul, 1) := by decide +kernel
theorem dX7_grownPercentage_25 : decode cX7_grownPercentage 25 = .ok (.iadd, 1) := by decide +kernel
theorem dX7_grownPercentage_26 : decode cX7_grownPercentage 26 = .ok (.invokestatic 433, 3) := by decide +kernel
theorem dX7_grownPercentage_29 : decode cX7_grownPercentage 29 = .ok (.ireturn, 1) := by decide +kernel
theorem dX7_isOpenTo_0 : decode cX7_isOpenTo 0 = .ok (.aload_n 0, 1) := by decide +kernel
theorem dX7_isOpenTo_1 : decode cX7_isOpenTo 1 = .ok (.aload_n 1, 1) := by decide +kernel
theorem dX7_isOpenTo_2 : decode cX7_isOpenTo 2 = .ok (.invokevirtual 193, 3) := by decide +kernel
theorem dX7_isOpenTo_5 : decode cX7_isOpenTo 5 = .ok (.ifCond .eq 47, 3) := by decide +kernel
theorem dX7_isOpenTo_8 : decode cX7_isOpenTo 8 = .ok (.aload_n 1, 1) := by decide +kernel
theorem dX7_isOpenTo_9 : decode cX7_isOpenTo 9 = .ok (.getfield 119, 3) := by decide +kernel
theorem dX7_isOpenTo_12 : decode cX7_isOpenTo 12 = .ok (.aload_n 2, 1) := by decide +kernel
theorem dX7_isOpenTo_13 : decode cX7_isOpenTo 13 = .ok (.getfield 439, 3) := by decide +kernel
theorem dX7_isOpenTo_16 : decode cX7_isOpenTo 16 = .ok (.aload_n 2, 1) := by decide +kernel
theorem dX7_isOpenTo_17 : decode cX7_isOpenTo 17 = .ok (.getfield 440, 3) := by decide +kernel
theorem dX7_isOpenTo_20 : decode cX7_isOpenTo 20 = .ok (.invokevirtual 203, 3) := by decide +kernel
theorem dX7_isOpenTo_23 : decode cX7_isOpenTo 23 = .ok (.ifCond .eq 29, 3) := by decide +kernel
theorem dX7_isOpenTo_26 : decode cX7_isOpenTo 26 = .ok (.aload_n 2, 1) := by decide +kernel
theorem dX7_isOpenTo_27 : decode cX7_isOpenTo 27 = .ok (.getfield 228, 3) := by decide +kernel
theorem dX7_isOpenTo_30 : decode cX7_isOpenTo 30 = .ok (.aload_n 1, 1) := by decide +kernel
theorem dX7_isOpenTo_31 : decode cX7_isOpenTo 31 = .ok (.getfield 161, 3) := by decide +kernel
theorem dX7_isOpenTo_34 : decode cX7_isOpenTo 34 = .ok (.if_icmp .lt 14, 3) := by decide +kernel
theorem dX7_isOpenTo_37 : decode cX7_isOpenTo 37 = .ok (.aload_n 1, 1) := by decide +kernel
theorem dX7_isOpenTo_38 : decode cX7_isOpenTo 38 = .ok (.aload_n 2, 1) := by decide +kernel
theorem dX7_isOpenTo_39 : decode cX7_isOpenTo 39 = .ok (.getfield 225, 3) := by decide +kernel
theorem dX7_isOpenTo_42 : decode cX7_isOpenTo 42 = .ok (.invokevirtual 441, 3) := by decide +kernel
theorem dX7_isOpenTo_45 : decode cX7_isOpenTo 45 = .ok (.ifCond .eq 7, 3) := by decide +kernel
theorem dX7_isOpenTo_48 : decode cX7_isOpenTo 48 = .ok (.iconst 1, 1) := by decide +kernel
theorem dX7_isOpenTo_49 : decode cX7_isOpenTo 49 = .ok (.goto 4, 3) := by decide +kernel
theorem dX7_isOpenTo_52 : decode cX7_isOpenTo 52 = .ok (.iconst 0, 1) := by decide +kernel
theorem dX7_isOpenTo_53 : decode cX7_isOpenTo 53 = .ok (.ireturn, 1) := by decide +kernel
theorem dX7_choiceFor_0 : decode cX7_choiceFor 0 = .ok (.aconst_null, 1) := by decide +kernel
theorem dX7_choiceFor_1 : decode cX7_choiceFor 1 = .ok (.astore_n 2, 1) := by decide +kernel
theorem dX7_choiceFor_2 : decode cX7_choiceFor 2 = .ok (.iconst 0, 1) := by decide +kernel
theorem dX7_choiceFor_3 : decode cX7_choiceFor 3 = .ok (.istore_n 3, 1) := by decide +kernel
theorem dX7_choiceFor_4 : decode cX7_choiceFor 4 = .ok (.iload_n 3, 1) := by decide +kernel
theorem dX7_choiceFor_5 : decode cX7_choiceFor 5 = .ok (.aload_n 0, 1) := by decide +kernel
theorem dX7_choiceFor_6 : decode cX7_choiceFor 6 = .ok (.getfield 19, 3) := by decide +kernel
