theorem gd_J0_checkIndex_df160 : gDesc yJ0_checkIndex_df160 2 := ⟨by decide +kernel, by decide +kernel, by decide +kernel⟩
theorem gd_J0_coder_7d493 : gDesc yJ0_coder_7d493 0 := ⟨by decide +kernel, by decide +kernel, by decide +kernel⟩
theorem gd_J0_getBytes_840e7 : gDesc yJ0_getBytes_840e7 3 := ⟨by decide +kernel, by decide +kernel, by decide +kernel⟩
theorem gd_J0_length_8abf5 : gDesc yJ0_length_8abf5 0 := ⟨by decide +kernel, by decide +kernel, by decide +kernel⟩
theorem gd_J15_checkIndex_7cf53 : gDesc yJ15_checkIndex_7cf53 2 := ⟨by decide +kernel, by decide +kernel, by decide +kernel⟩
theorem gd_J1_canEncode_fc78d : gDesc yJ1_canEncode_fc78d 1 := ⟨by decide +kernel, by decide +kernel, by decide +kernel⟩
theorem gd_J3_checkIndex_8e157 : gDesc yJ3_checkIndex_8e157 3 := ⟨by decide +kernel, by decide +kernel, by decide +kernel⟩
theorem gd_J4_append_15ec4 : gDesc yJ4_append_15ec4 1 := ⟨by decide +kernel, by decide +kernel, by decide +kernel⟩
theorem gd_J4_append_bf812 : gDesc yJ4_append_bf812 1 := ⟨by decide +kernel, by decide +kernel, by decide +kernel⟩
theorem gd_J4_append_cf468 : gDesc yJ4_append_cf468 1 := ⟨by decide +kernel, by decide +kernel, by decide +kernel⟩
theorem gd_J4_charAt_5068e : gDesc yJ4_charAt_5068e 1 := ⟨by decide +kernel, by decide +kernel, by decide +kernel⟩
theorem gd_J4_init_da8c8 : gDesc yJ4_init_da8c8 0 := ⟨by decide +kernel, by decide +kernel, by decide +kernel⟩
theorem gd_J4_length_8abf5 : gDesc yJ4_length_8abf5 0 := ⟨by decide +kernel, by decide +kernel, by decide +kernel⟩
theorem gd_J4_setLength_d00df : gDesc yJ4_setLength_d00df 1 := ⟨by decide +kernel, by decide +kernel, by decide +kernel⟩
theorem gd_J5_append_3fe6f : gDesc yJ5_append_3fe6f 1 := ⟨by decide +kernel, by decide +kernel, by decide +kernel⟩
theorem gd_J5_append_c97b9 : gDesc yJ5_append_c97b9 1 := ⟨by decide +kernel, by decide +kernel, by decide +kernel⟩
theorem gd_J5_append_cf1ce : gDesc yJ5_append_cf1ce 1 := ⟨by decide +kernel, by decide +kernel, by decide +kernel⟩
theorem gd_J5_charAt_5068e : gDesc yJ5_charAt_5068e 1 := ⟨by decide +kernel, by decide +kernel, by decide +kernel⟩
theorem gd_J5_ensureCapacityInternal_d00df : gDesc yJ5_ensureCapacityInternal_d00df 1 := ⟨by decide +kernel, by decide +kernel, by decide +kernel⟩
theorem gd_J5_inflateIfNeededFor_a7421 : gDesc yJ5_inflateIfNeededFor_a7421 1 := ⟨by decide +kernel, by decide +kernel, by decide +kernel⟩
theorem gd_J5_init_d00df : gDesc yJ5_init_d00df 1 := ⟨by decide +kernel, by decide +kernel, by decide +kernel⟩
theorem gd_J5_isLatin1_aae02 : gDesc yJ5_isLatin1_aae02 0 := ⟨by decide +kernel, by decide +kernel, by decide +kernel⟩
theorem gd_J5_length_8abf5 : gDesc yJ5_length_8abf5 0 := ⟨by decide +kernel, by decide +kernel, by decide +kernel⟩
theorem gd_J5_newCapacity_0f7a4 : gDesc yJ5_newCapacity_0f7a4 1 := ⟨by decide +kernel, by decide +kernel, by decide +kernel⟩
theorem gd_J5_putStringAt_47b60 : gDesc yJ5_putStringAt_47b60 2 := ⟨by decide +kernel, by decide +kernel, by decide +kernel⟩
theorem gd_J5_setLength_d00df : gDesc yJ5_setLength_d00df 1 := ⟨by decide +kernel, by decide +kernel, by decide +kernel⟩
theorem gd_J6_bitCount_0f7a4 : gDesc yJ6_bitCount_0f7a4 1 := ⟨by decide +kernel, by decide +kernel, by decide +kernel⟩
theorem gd_J6_getChars_ba4f3 : gDesc yJ6_getChars_ba4f3 3 := ⟨by decide +kernel, by decide +kernel, by decide +kernel⟩
theorem gd_J6_stringSize_0f7a4 : gDesc yJ6_stringSize_0f7a4 1 := ⟨by decide +kernel, by decide +kernel, by decide +kernel⟩
theorem gd_J7_copyOf_1904c : gDesc yJ7_copyOf_1904c 2 := ⟨by decide +kernel, by decide +kernel, by decide +kernel⟩
theorem gd_J7_copyOf_6403c : gDesc yJ7_copyOf_6403c 3 := ⟨by decide +kernel, by decide +kernel, by decide +kernel⟩
theorem gd_J7_copyOf_9075b : gDesc yJ7_copyOf_9075b 2 := ⟨by decide +kernel, by decide +kernel, by decide +kernel⟩
theorem gd_J8_newLength_cabcc : gDesc yJ8_newLength_cabcc 3 := ⟨by decide +kernel, by decide +kernel, by decide +kernel⟩
theorem gd_Jx4a65c_add_72be8 : gDesc yJx4a65c_add_72be8 3 := ⟨by decide +kernel, by decide +kernel, by decide +kernel⟩
theorem gd_Jx4a65c_add_9ea2d : gDesc yJx4a65c_add_9ea2d 1 := ⟨by decide +kernel, by decide +kernel, by decide +kernel⟩
theorem gd_Jx4a65c_elementData_915e3 : gDesc yJx4a65c_elementData_915e3 1 := ⟨by decide +kernel, by decide +kernel, by decide +kernel⟩
theorem gd_Jx4a65c_get_915e3 : gDesc yJx4a65c_get_915e3 1 := ⟨by decide +kernel, by decide +kernel, by decide +kernel⟩
theorem gd_Jx4a65c_grow_92f84 : gDesc yJx4a65c_grow_92f84 1 := ⟨by decide +kernel, by decide +kernel, by decide +kernel⟩
theorem gd_Jx4a65c_grow_d5877 : gDesc yJx4a65c_grow_d5877 0 := ⟨by decide +kernel, by decide +kernel, by decide +kernel⟩
theorem gd_Jx4a65c_init_da8c8 : gDesc yJx4a65c_init_da8c8 0 := ⟨by decide +kernel, by decide +kernel, by decide +kernel⟩
theorem gd_Jx4a65c_isEmpty_aae02 : gDesc yJx4a65c_isEmpty_aae02 0 := ⟨by decide +kernel, by decide +kernel, by decide +kernel⟩
theorem gd_Jx4a65c_size_8abf5 : gDesc yJx4a65c_size_8abf5 0 := ⟨by decide +kernel, by decide +kernel, by decide +kernel⟩
theorem gd_Jxa1e45_init_da8c8 : gDesc yJxa1e45_init_da8c8 0 := ⟨by decide +kernel, by decide +kernel, by decide +kernel⟩
theorem gd_Jxc12de_init_da8c8 : gDesc yJxc12de_init_da8c8 0 := ⟨by decide +kernel, by decide +kernel, by decide +kernel⟩
theorem gd_Jxf58ca_floatToIntBits_5c35a : gDesc yJxf58ca_floatToIntBits_5c35a 1 := ⟨by decide +kernel, by decide +kernel, by decide +kernel⟩
theorem gd_Jxf58ca_isNaN_12338 : gDesc yJxf58ca_isNaN_12338 1 := ⟨by decide +kernel, by decide +kernel, by decide +kernel⟩
theorem gd_L_asked : gDesc yL_asked 2 := ⟨by decide +kernel, by decide +kernel, by decide +kernel⟩
theorem gd_L_at : gDesc yL_at 2 := ⟨by decide +kernel, by decide +kernel, by decide +kernel⟩
theorem gd_L_both : gDesc yL_both 4 := ⟨by decide +kernel, by decide +kernel, by decide +kernel⟩
theorem gd_L_build : gDesc yL_build 2 := ⟨by decide +kernel, by decide +kernel, by decide +kernel⟩
theorem gd_L_builds : gDesc yL_builds 1 := ⟨by decide +kernel, by decide +kernel, by decide +kernel⟩
theorem gd_L_device : gDesc yL_device 3 := ⟨by decide +kernel, by decide +kernel, by decide +kernel⟩
theorem gd_L_devices : gDesc yL_devices 1 := ⟨by decide +kernel, by decide +kernel, by decide +kernel⟩
theorem gd_L_group : gDesc yL_group 3 := ⟨by decide +kernel, by decide +kernel, by decide +kernel⟩
theorem gd_L_isSound : gDesc yL_isSound 1 := ⟨by decide +kernel, by decide +kernel, by decide +kernel⟩
theorem gd_L_like : gDesc yL_like 3 := ⟨by decide +kernel, by decide +kernel, by decide +kernel⟩
theorem gd_L_of : gDesc yL_of 3 := ⟨by decide +kernel, by decide +kernel, by decide +kernel⟩
theorem gd_L_rating : gDesc yL_rating 2 := ⟨by decide +kernel, by decide +kernel, by decide +kernel⟩
theorem gd_L_ratingBits : gDesc yL_ratingBits 2 := ⟨by decide +kernel, by decide +kernel, by decide +kernel⟩
theorem gd_L_sets : gDesc yL_sets 3 := ⟨by decide +kernel, by decide +kernel, by decide +kernel⟩
theorem gd_L_some : gDesc yL_some 2 := ⟨by decide +kernel, by decide +kernel, by decide +kernel⟩
theorem gd_L_sum : gDesc yL_sum 1 := ⟨by decide +kernel, by decide +kernel, by decide +kernel⟩
theorem gd_L_three : gDesc yL_three 5 := ⟨by decide +kernel, by decide +kernel, by decide +kernel⟩
theorem gd_L_used : gDesc yL_used 1 := ⟨by decide +kernel, by decide +kernel, by decide +kernel⟩
theorem gd_X0_change : gDesc yX0_change 2 := ⟨by decide +kernel, by decide +kernel, by decide +kernel⟩
theorem gd_X0_countBelow : gDesc yX0_countBelow 1 := ⟨by decide +kernel, by decide +kernel, by decide +kernel⟩
theorem gd_X0_init : gDesc yX0_init 0 := ⟨by decide +kernel, by decide +kernel, by decide +kernel⟩
theorem gd_X1_crashesPerInstall : gDesc yX1_crashesPerInstall 0 := ⟨by decide +kernel, by decide +kernel, by decide +kernel⟩
theorem gd_X1_init : gDesc yX1_init 6 := ⟨by decide +kernel, by decide +kernel, by decide +kernel⟩
theorem gd_X1_isFix : gDesc yX1_isFix 0 := ⟨by decide +kernel, by decide +kernel, by decide +kernel⟩
theorem gd_X1_isFixOf : gDesc yX1_isFixOf 1 := ⟨by decide +kernel, by decide +kernel, by decide +kernel⟩
theorem gd_X1_isGivenAheadOf : gDesc yX1_isGivenAheadOf 1 := ⟨by decide +kernel, by decide +kernel, by decide +kernel⟩
theorem gd_X1_isNewerThan : gDesc yX1_isNewerThan 1 := ⟨by decide +kernel, by decide +kernel, by decide +kernel⟩
theorem gd_X1_isReviewedAheadOf : gDesc yX1_isReviewedAheadOf 1 := ⟨by decide +kernel, by decide +kernel, by decide +kernel⟩
theorem gd_X1_meanStars : gDesc yX1_meanStars 0 := ⟨by decide +kernel, by decide +kernel, by decide +kernel⟩
theorem gd_X2_init : gDesc yX2_init 3 := ⟨by decide +kernel, by decide +kernel, by decide +kernel⟩
theorem gd_X2_usableItems : gDesc yX2_usableItems 0 := ⟨by decide +kernel, by decide +kernel, by decide +kernel⟩
theorem gd_X3_init : gDesc yX3_init 2 := ⟨by decide +kernel, by decide +kernel, by decide +kernel⟩
theorem gd_X4_init : gDesc yX4_init 2 := ⟨by decide +kernel, by decide +kernel, by decide +kernel⟩
theorem gd_X5_init : gDesc yX5_init 3 := ⟨by decide +kernel, by decide +kernel, by decide +kernel⟩
theorem gd_X5_isFor : gDesc yX5_isFor 2 := ⟨by decide +kernel, by decide +kernel, by decide +kernel⟩
theorem gd_X6_append : gDesc yX6_append 1 := ⟨by decide +kernel, by decide +kernel, by decide +kernel⟩
theorem gd_X6_clear : gDesc yX6_clear 0 := ⟨by decide +kernel, by decide +kernel, by decide +kernel⟩
theorem gd_X6_copyFrom : gDesc yX6_copyFrom 1 := ⟨by decide +kernel, by decide +kernel, by decide +kernel⟩
theorem gd_X6_init : gDesc yX6_init 0 := ⟨by decide +kernel, by decide +kernel, by decide +kernel⟩
theorem gd_X6_likenessTo : gDesc yX6_likenessTo 1 := ⟨by decide +kernel, by decide +kernel, by decide +kernel⟩
theorem gd_X7_addBuild : gDesc yX7_addBuild 6 := ⟨by decide +kernel, by decide +kernel, by decide +kernel⟩
theorem gd_X7_addDevice : gDesc yX7_addDevice 3 := ⟨by decide +kernel, by decide +kernel, by decide +kernel⟩
theorem gd_X7_addDraft : gDesc yX7_addDraft 5 := ⟨by decide +kernel, by decide +kernel, by decide +kernel⟩
theorem gd_X7_addFix : gDesc yX7_addFix 4 := ⟨by decide +kernel, by decide +kernel, by decide +kernel⟩
theorem gd_X7_appeal : gDesc yX7_appeal 1 := ⟨by decide +kernel, by decide +kernel, by decide +kernel⟩
theorem gd_X7_barringRule : gDesc yX7_barringRule 1 := ⟨by decide +kernel, by decide +kernel, by decide +kernel⟩
theorem gd_X7_buildHadBy : gDesc yX7_buildHadBy 1 := ⟨by decide +kernel, by decide +kernel, by decide +kernel⟩
theorem gd_X7_buildOf : gDesc yX7_buildOf 1 := ⟨by decide +kernel, by decide +kernel, by decide +kernel⟩
theorem gd_X7_buildsIn : gDesc yX7_buildsIn 1 := ⟨by decide +kernel, by decide +kernel, by decide +kernel⟩
theorem gd_X7_buy : gDesc yX7_buy 2 := ⟨by decide +kernel, by decide +kernel, by decide +kernel⟩
theorem gd_X7_canUse : gDesc yX7_canUse 2 := ⟨by decide +kernel, by decide +kernel, by decide +kernel⟩
theorem gd_X7_choiceFor : gDesc yX7_choiceFor 1 := ⟨by decide +kernel, by decide +kernel, by decide +kernel⟩
theorem gd_X7_couldHave : gDesc yX7_couldHave 2 := ⟨by decide +kernel, by decide +kernel, by decide +kernel⟩
theorem gd_X7_countWaiting : gDesc yX7_countWaiting 0 := ⟨by decide +kernel, by decide +kernel, by decide +kernel⟩
theorem gd_X7_crash : gDesc yX7_crash 1 := ⟨by decide +kernel, by decide +kernel, by decide +kernel⟩
theorem gd_X7_crashRate : gDesc yX7_crashRate 1 := ⟨by decide +kernel, by decide +kernel, by decide +kernel⟩
theorem gd_X7_crashesIn : gDesc yX7_crashesIn 1 := ⟨by decide +kernel, by decide +kernel, by decide +kernel⟩
theorem gd_X7_day : gDesc yX7_day 0 := ⟨by decide +kernel, by decide +kernel, by decide +kernel⟩
theorem gd_X7_devicesWith : gDesc yX7_devicesWith 1 := ⟨by decide +kernel, by decide +kernel, by decide +kernel⟩
theorem gd_X7_doubleBits : gDesc yX7_doubleBits 1 := ⟨by decide +kernel, by decide +kernel, by decide +kernel⟩
theorem gd_X7_firstWaiting : gDesc yX7_firstWaiting 0 := ⟨by decide +kernel, by decide +kernel, by decide +kernel⟩
theorem gd_X7_floatBits : gDesc yX7_floatBits 1 := ⟨by decide +kernel, by decide +kernel, by decide +kernel⟩
theorem gd_X7_groupOfCrash : gDesc yX7_groupOfCrash 0 := ⟨by decide +kernel, by decide +kernel, by decide +kernel⟩
theorem gd_X7_groups : gDesc yX7_groups 0 := ⟨by decide +kernel, by decide +kernel, by decide +kernel⟩
theorem gd_X7_grownPercentage : gDesc yX7_grownPercentage 2 := ⟨by decide +kernel, by decide +kernel, by decide +kernel⟩
theorem gd_X7_hasVersion : gDesc yX7_hasVersion 1 := ⟨by decide +kernel, by decide +kernel, by decide +kernel⟩
theorem gd_X7_holdOf : gDesc yX7_holdOf 1 := ⟨by decide +kernel, by decide +kernel, by decide +kernel⟩
theorem gd_X7_holdReason : gDesc yX7_holdReason 1 := ⟨by decide +kernel, by decide +kernel, by decide +kernel⟩
theorem gd_X7_init : gDesc yX7_init 0 := ⟨by decide +kernel, by decide +kernel, by decide +kernel⟩
theorem gd_X7_installs : gDesc yX7_installs 1 := ⟨by decide +kernel, by decide +kernel, by decide +kernel⟩
theorem gd_X7_isIn : gDesc yX7_isIn 2 := ⟨by decide +kernel, by decide +kernel, by decide +kernel⟩
theorem gd_X7_isOpenTo : gDesc yX7_isOpenTo 2 := ⟨by decide +kernel, by decide +kernel, by decide +kernel⟩
theorem gd_X7_isRolledOut : gDesc yX7_isRolledOut 1 := ⟨by decide +kernel, by decide +kernel, by decide +kernel⟩
theorem gd_X7_kindFor : gDesc yX7_kindFor 2 := ⟨by decide +kernel, by decide +kernel, by decide +kernel⟩
theorem gd_X7_knownBuild : gDesc yX7_knownBuild 1 := ⟨by decide +kernel, by decide +kernel, by decide +kernel⟩
theorem gd_X7_knownDevice : gDesc yX7_knownDevice 1 := ⟨by decide +kernel, by decide +kernel, by decide +kernel⟩
theorem gd_X7_knownGroup : gDesc yX7_knownGroup 1 := ⟨by decide +kernel, by decide +kernel, by decide +kernel⟩
theorem gd_X7_likeness : gDesc yX7_likeness 2 := ⟨by decide +kernel, by decide +kernel, by decide +kernel⟩
theorem gd_X7_lineAt : gDesc yX7_lineAt 1 := ⟨by decide +kernel, by decide +kernel, by decide +kernel⟩
theorem gd_X7_nearestGroup : gDesc yX7_nearestGroup 0 := ⟨by decide +kernel, by decide +kernel, by decide +kernel⟩
theorem gd_X7_nextInReview : gDesc yX7_nextInReview 0 := ⟨by decide +kernel, by decide +kernel, by decide +kernel⟩
theorem gd_X7_offered : gDesc yX7_offered 1 := ⟨by decide +kernel, by decide +kernel, by decide +kernel⟩
theorem gd_X7_outside : gDesc yX7_outside 3 := ⟨by decide +kernel, by decide +kernel, by decide +kernel⟩
theorem gd_X7_owns : gDesc yX7_owns 2 := ⟨by decide +kernel, by decide +kernel, by decide +kernel⟩
theorem gd_X7_pass : gDesc yX7_pass 1 := ⟨by decide +kernel, by decide +kernel, by decide +kernel⟩
theorem gd_X7_percentageAfter : gDesc yX7_percentageAfter 2 := ⟨by decide +kernel, by decide +kernel, by decide +kernel⟩
theorem gd_X7_percentageOf : gDesc yX7_percentageOf 1 := ⟨by decide +kernel, by decide +kernel, by decide +kernel⟩
theorem gd_X7_queue : gDesc yX7_queue 1 := ⟨by decide +kernel, by decide +kernel, by decide +kernel⟩
theorem gd_X7_rate : gDesc yX7_rate 2 := ⟨by decide +kernel, by decide +kernel, by decide +kernel⟩
theorem gd_X7_ratedBuild : gDesc yX7_ratedBuild 1 := ⟨by decide +kernel, by decide +kernel, by decide +kernel⟩
theorem gd_X7_rating : gDesc yX7_rating 1 := ⟨by decide +kernel, by decide +kernel, by decide +kernel⟩
theorem gd_X7_ratingBits : gDesc yX7_ratingBits 1 := ⟨by decide +kernel, by decide +kernel, by decide +kernel⟩
theorem gd_X7_reach : gDesc yX7_reach 1 := ⟨by decide +kernel, by decide +kernel, by decide +kernel⟩
theorem gd_X7_reachByDevices : gDesc yX7_reachByDevices 1 := ⟨by decide +kernel, by decide +kernel, by decide +kernel⟩
theorem gd_X7_refuseUnknownItem : gDesc yX7_refuseUnknownItem 1 := ⟨by decide +kernel, by decide +kernel, by decide +kernel⟩
theorem gd_X7_review : gDesc yX7_review 0 := ⟨by decide +kernel, by decide +kernel, by decide +kernel⟩
theorem gd_X7_setBarred : gDesc yX7_setBarred 1 := ⟨by decide +kernel, by decide +kernel, by decide +kernel⟩
theorem gd_X7_setBound : gDesc yX7_setBound 1 := ⟨by decide +kernel, by decide +kernel, by decide +kernel⟩
theorem gd_X7_setRate : gDesc yX7_setRate 1 := ⟨by decide +kernel, by decide +kernel, by decide +kernel⟩
theorem gd_X7_setSize : gDesc yX7_setSize 1 := ⟨by decide +kernel, by decide +kernel, by decide +kernel⟩
theorem gd_X7_stackAt : gDesc yX7_stackAt 2 := ⟨by decide +kernel, by decide +kernel, by decide +kernel⟩
theorem gd_X7_stage : gDesc yX7_stage 3 := ⟨by decide +kernel, by decide +kernel, by decide +kernel⟩
theorem gd_X7_standingOf : gDesc yX7_standingOf 1 := ⟨by decide +kernel, by decide +kernel, by decide +kernel⟩
theorem gd_X7_standingOfApproved : gDesc yX7_standingOfApproved 1 := ⟨by decide +kernel, by decide +kernel, by decide +kernel⟩
theorem gd_X7_stateOf : gDesc yX7_stateOf 1 := ⟨by decide +kernel, by decide +kernel, by decide +kernel⟩
theorem gd_X7_submit : gDesc yX7_submit 1 := ⟨by decide +kernel, by decide +kernel, by decide +kernel⟩
theorem gd_X7_type : gDesc yX7_type 1 := ⟨by decide +kernel, by decide +kernel, by decide +kernel⟩
theorem gd_X7_update : gDesc yX7_update 1 := ⟨by decide +kernel, by decide +kernel, by decide +kernel⟩
theorem gd_X7_usedShare : gDesc yX7_usedShare 0 := ⟨by decide +kernel, by decide +kernel, by decide +kernel⟩
theorem gd_X7_worstGroup : gDesc yX7_worstGroup 0 := ⟨by decide +kernel, by decide +kernel, by decide +kernel⟩
theorem gd_X7_writeBuild : gDesc yX7_writeBuild 1 := ⟨by decide +kernel, by decide +kernel, by decide +kernel⟩
theorem lk_Jx4a65c_48 : gLk "java/util/ArrayList" 48 10 2 := ⟨_, _, _, rfl, ins_Jx4a65c, by decide, _, tw_84, Or.inl rfl⟩
theorem lk_Jx4a65c_63 : gLk "java/util/ArrayList" 63 10 0 := ⟨_, _, _, rfl, ins_Jx4a65c, by decide, _, tw_86, Or.inr tw_87⟩
theorem lk_Jx4a65c_9 : gLk "java/util/ArrayList" 9 10 1 := ⟨_, _, _, rfl, ins_Jx4a65c, by decide, _, tw_83, Or.inl rfl⟩
theorem lk_X0_15 : gLk "Releasetrain$BucketCounts" 15 0 1 := ⟨_, _, _, rfl, ins_X0, by decide, _, tw_355, Or.inl rfl⟩
theorem lk_X0_9 : gLk "Releasetrain$BucketCounts" 9 0 0 := ⟨_, _, _, rfl, ins_X0, by decide, _, tw_354, Or.inl rfl⟩
theorem lk_X1_26 : gLk "Releasetrain$Build" 26 1 9 := ⟨_, _, _, rfl, ins_X1, by decide, _, tw_382, Or.inl rfl⟩
theorem lk_X1_36 : gLk "Releasetrain$Build" 36 1 12 := ⟨_, _, _, rfl, ins_X1, by decide, _, tw_388, Or.inl rfl⟩
theorem lk_X1_39 : gLk "Releasetrain$Build" 39 1 13 := ⟨_, _, _, rfl, ins_X1, by decide, _, tw_390, Or.inl rfl⟩
theorem lk_X1_42 : gLk "Releasetrain$Build" 42 1 14 := ⟨_, _, _, rfl, ins_X1, by decide, _, tw_392, Or.inl rfl⟩
theorem lk_X1_45 : gLk "Releasetrain$Build" 45 1 15 := ⟨_, _, _, rfl, ins_X1, by decide, _, tw_394, Or.inl rfl⟩
theorem lk_X1_51 : gLk "Releasetrain$Build" 51 1 1 := ⟨_, _, _, rfl, ins_X1, by decide, _, tw_365, Or.inl rfl⟩
theorem lk_X1_64 : gLk "Releasetrain$Build" 64 1 5 := ⟨_, _, _, rfl, ins_X1, by decide, _, tw_374, Or.inl rfl⟩
theorem lk_X2_17 : gLk "Releasetrain$Device" 17 2 5 := ⟨_, _, _, rfl, ins_X2, by decide, _, tw_542, Or.inl rfl⟩
theorem lk_X2_29 : gLk "Releasetrain$Device" 29 1 2 := ⟨_, _, _, rfl, ins_X1, by decide, _, tw_368, Or.inl rfl⟩
theorem lk_X2_35 : gLk "Releasetrain$Device" 35 5 2 := ⟨_, _, _, rfl, ins_X5, by decide, _, tw_508, Or.inl rfl⟩
theorem lk_X2_7 : gLk "Releasetrain$Device" 7 2 3 := ⟨_, _, _, rfl, ins_X2, by decide, _, tw_538, Or.inl rfl⟩
theorem lk_X4_10 : gLk "Releasetrain$Group" 10 4 1 := ⟨_, _, _, rfl, ins_X4, by decide, _, tw_1090, Or.inl rfl⟩
theorem lk_X5_13 : gLk "Releasetrain$Offer" 13 5 1 := ⟨_, _, _, rfl, ins_X5, by decide, _, tw_506, Or.inl rfl⟩
theorem lk_X5_7 : gLk "Releasetrain$Offer" 7 5 0 := ⟨_, _, _, rfl, ins_X5, by decide, _, tw_505, Or.inl rfl⟩
theorem lk_X6_15 : gLk "Releasetrain$Stack" 15 6 1 := ⟨_, _, _, rfl, ins_X6, by decide, _, tw_103, Or.inl rfl⟩
theorem lk_X6_9 : gLk "Releasetrain$Stack" 9 6 0 := ⟨_, _, _, rfl, ins_X6, by decide, _, tw_101, Or.inl rfl⟩
theorem lk_X7_10 : gLk "Releasetrain" 10 7 0 := ⟨_, _, _, rfl, ins_X7, by decide, _, tw_145, Or.inl rfl⟩
theorem lk_X7_119 : gLk "Releasetrain" 119 1 2 := ⟨_, _, _, rfl, ins_X1, by decide, _, tw_369, Or.inl rfl⟩
theorem lk_X7_125 : gLk "Releasetrain" 125 1 7 := ⟨_, _, _, rfl, ins_X1, by decide, _, tw_379, Or.inl rfl⟩
theorem lk_X7_142 : gLk "Releasetrain" 142 1 0 := ⟨_, _, _, rfl, ins_X1, by decide, _, tw_364, Or.inl rfl⟩
theorem lk_X7_149 : gLk "Releasetrain" 149 1 8 := ⟨_, _, _, rfl, ins_X1, by decide, _, tw_381, Or.inl rfl⟩
theorem lk_X7_16 : gLk "Releasetrain" 16 7 1 := ⟨_, _, _, rfl, ins_X7, by decide, _, tw_146, Or.inl rfl⟩
theorem lk_X7_161 : gLk "Releasetrain" 161 1 10 := ⟨_, _, _, rfl, ins_X1, by decide, _, tw_385, Or.inl rfl⟩
theorem lk_X7_169 : gLk "Releasetrain" 169 1 11 := ⟨_, _, _, rfl, ins_X1, by decide, _, tw_387, Or.inl rfl⟩
theorem lk_X7_19 : gLk "Releasetrain" 19 7 2 := ⟨_, _, _, rfl, ins_X7, by decide, _, tw_147, Or.inl rfl⟩
theorem lk_X7_197 : gLk "Releasetrain" 197 3 0 := ⟨_, _, _, rfl, ins_X3, by decide, _, tw_570, Or.inl rfl⟩
theorem lk_X7_200 : gLk "Releasetrain" 200 3 1 := ⟨_, _, _, rfl, ins_X3, by decide, _, tw_572, Or.inl rfl⟩
theorem lk_X7_211 : gLk "Releasetrain" 211 1 5 := ⟨_, _, _, rfl, ins_X1, by decide, _, tw_375, Or.inl rfl⟩
theorem lk_X7_215 : gLk "Releasetrain" 215 1 6 := ⟨_, _, _, rfl, ins_X1, by decide, _, tw_377, Or.inl rfl⟩
theorem lk_X7_218 : gLk "Releasetrain" 218 0 1 := ⟨_, _, _, rfl, ins_X0, by decide, _, tw_356, Or.inl rfl⟩
theorem lk_X7_22 : gLk "Releasetrain" 22 7 3 := ⟨_, _, _, rfl, ins_X7, by decide, _, tw_148, Or.inl rfl⟩
theorem lk_X7_225 : gLk "Releasetrain" 225 2 3 := ⟨_, _, _, rfl, ins_X2, by decide, _, tw_539, Or.inl rfl⟩
theorem lk_X7_228 : gLk "Releasetrain" 228 2 2 := ⟨_, _, _, rfl, ins_X2, by decide, _, tw_537, Or.inl rfl⟩
theorem lk_X7_231 : gLk "Releasetrain" 231 1 12 := ⟨_, _, _, rfl, ins_X1, by decide, _, tw_389, Or.inl rfl⟩
theorem lk_X7_234 : gLk "Releasetrain" 234 2 4 := ⟨_, _, _, rfl, ins_X2, by decide, _, tw_541, Or.inl rfl⟩
theorem lk_X7_242 : gLk "Releasetrain" 242 6 1 := ⟨_, _, _, rfl, ins_X6, by decide, _, tw_104, Or.inl rfl⟩
theorem lk_X7_264 : gLk "Releasetrain" 264 4 2 := ⟨_, _, _, rfl, ins_X4, by decide, _, tw_1093, Or.inl rfl⟩
theorem lk_X7_269 : gLk "Releasetrain" 269 4 3 := ⟨_, _, _, rfl, ins_X4, by decide, _, tw_1095, Or.inl rfl⟩
theorem lk_X7_272 : gLk "Releasetrain" 272 1 13 := ⟨_, _, _, rfl, ins_X1, by decide, _, tw_391, Or.inl rfl⟩
theorem lk_X7_273 : gLk "Releasetrain" 273 4 0 := ⟨_, _, _, rfl, ins_X4, by decide, _, tw_1089, Or.inl rfl⟩
theorem lk_X7_278 : gLk "Releasetrain" 278 4 1 := ⟨_, _, _, rfl, ins_X4, by decide, _, tw_1091, Or.inl rfl⟩
theorem lk_X7_28 : gLk "Releasetrain" 28 7 4 := ⟨_, _, _, rfl, ins_X7, by decide, _, tw_149, Or.inl rfl⟩
theorem lk_X7_286 : gLk "Releasetrain" 286 6 0 := ⟨_, _, _, rfl, ins_X6, by decide, _, tw_102, Or.inl rfl⟩
theorem lk_X7_311 : gLk "Releasetrain" 311 1 15 := ⟨_, _, _, rfl, ins_X1, by decide, _, tw_395, Or.inl rfl⟩
theorem lk_X7_314 : gLk "Releasetrain" 314 1 14 := ⟨_, _, _, rfl, ins_X1, by decide, _, tw_393, Or.inl rfl⟩
theorem lk_X7_32 : gLk "Releasetrain" 32 7 5 := ⟨_, _, _, rfl, ins_X7, by decide, _, tw_150, Or.inl rfl⟩
theorem lk_X7_332 : gLk "Releasetrain" 332 2 5 := ⟨_, _, _, rfl, ins_X2, by decide, _, tw_543, Or.inl rfl⟩
theorem lk_X7_340 : gLk "Releasetrain" 340 5 2 := ⟨_, _, _, rfl, ins_X5, by decide, _, tw_509, Or.inl rfl⟩
theorem lk_X7_364 : gLk "Releasetrain" 364 1 1 := ⟨_, _, _, rfl, ins_X1, by decide, _, tw_366, Or.inl rfl⟩
theorem lk_X7_38 : gLk "Releasetrain" 38 7 6 := ⟨_, _, _, rfl, ins_X7, by decide, _, tw_151, Or.inl rfl⟩
theorem lk_X7_42 : gLk "Releasetrain" 42 7 7 := ⟨_, _, _, rfl, ins_X7, by decide, _, tw_152, Or.inl rfl⟩
theorem lk_X7_426 : gLk "Releasetrain" 426 1 3 := ⟨_, _, _, rfl, ins_X1, by decide, _, tw_371, Or.inl rfl⟩
theorem lk_X7_428 : gLk "Releasetrain" 428 1 4 := ⟨_, _, _, rfl, ins_X1, by decide, _, tw_373, Or.inl rfl⟩
theorem lk_X7_439 : gLk "Releasetrain" 439 2 0 := ⟨_, _, _, rfl, ins_X2, by decide, _, tw_533, Or.inl rfl⟩
theorem lk_X7_440 : gLk "Releasetrain" 440 2 1 := ⟨_, _, _, rfl, ins_X2, by decide, _, tw_535, Or.inl rfl⟩
theorem lk_X7_46 : gLk "Releasetrain" 46 7 8 := ⟨_, _, _, rfl, ins_X7, by decide, _, tw_153, Or.inl rfl⟩
theorem lk_X7_49 : gLk "Releasetrain" 49 7 9 := ⟨_, _, _, rfl, ins_X7, by decide, _, tw_154, Or.inl rfl⟩
theorem lk_X7_53 : gLk "Releasetrain" 53 7 10 := ⟨_, _, _, rfl, ins_X7, by decide, _, tw_155, Or.inl rfl⟩
theorem lk_X7_57 : gLk "Releasetrain" 57 7 11 := ⟨_, _, _, rfl, ins_X7, by decide, _, tw_156, Or.inl rfl⟩
theorem lk_X7_60 : gLk "Releasetrain" 60 7 12 := ⟨_, _, _, rfl, ins_X7, by decide, _, tw_157, Or.inl rfl⟩
theorem lk_X7_96 : gLk "Releasetrain" 96 3 2 := ⟨_, _, _, rfl, ins_X3, by decide, _, tw_574, Or.inl rfl⟩
theorem lk_java_lang_AbstractStringBuilder_15 : gLk "java/lang/AbstractStringBuilder" 15 9 0 := ⟨_, _, _, rfl, ins_J4, by decide, _, tw_129, Or.inl rfl⟩
theorem lk_java_lang_AbstractStringBuilder_22 : gLk "java/lang/AbstractStringBuilder" 22 9 1 := ⟨_, _, _, rfl, ins_J4, by decide, _, tw_130, Or.inl rfl⟩
theorem lk_java_lang_AbstractStringBuilder_79 : gLk "java/lang/AbstractStringBuilder" 79 9 3 := ⟨_, _, _, rfl, ins_J4, by decide, _, tw_133, Or.inl rfl⟩
theorem nk_ReleasetrainLaw_8 : gNk "ReleasetrainLaw" 8 7 13 [.null, .null, .null, .null, .null, .null, .null, .int 0, .int 0, .int 0, .float 0, .float 0, .int 0] := ⟨_, _, tyX7, rfl, ins_X7, tyX7_ok, tw_61, tw_62, tw_25, by intro j hj; match j, hj with | 0, _ => rfl | 1, _ => rfl | 2, _ => rfl | 3, _ => rfl | 4, _ => rfl | 5, _ => rfl | 6, _ => rfl | 7, _ => rfl | 8, _ => rfl | 9, _ => rfl | 10, _ => rfl | 11, _ => rfl | 12, _ => rfl | (j + 13), hj => exact absurd hj (by omega)⟩
theorem nk_X1_9 : gNk "Releasetrain$Build" 9 0 2 [.null, .int 0] := ⟨_, _, tyX0, rfl, ins_X0, tyX0_ok, tw_348, tw_349, tw_58, by intro j hj; match j, hj with | 0, _ => rfl | 1, _ => rfl | (j + 2), hj => exact absurd hj (by omega)⟩
theorem nk_X3_7 : gNk "Releasetrain$DeviceKind" 7 0 2 [.null, .int 0] := ⟨_, _, tyX0, rfl, ins_X0, tyX0_ok, tw_567, tw_349, tw_58, by intro j hj; match j, hj with | 0, _ => rfl | 1, _ => rfl | (j + 2), hj => exact absurd hj (by omega)⟩
theorem nk_X4_7 : gNk "Releasetrain$Group" 7 6 2 [.null, .int 0] := ⟨_, _, tyX6, rfl, ins_X6, tyX6_ok, tw_1085, tw_96, tw_29, by intro j hj; match j, hj with | 0, _ => rfl | 1, _ => rfl | (j + 2), hj => exact absurd hj (by omega)⟩
theorem nk_X7_108 : gNk "Releasetrain" 108 5 3 [.int 0, .int 0, .int 0] := ⟨_, _, tyX5, rfl, ins_X5, tyX5_ok, tw_499, tw_500, tw_60, by intro j hj; match j, hj with | 0, _ => rfl | 1, _ => rfl | 2, _ => rfl | (j + 3), hj => exact absurd hj (by omega)⟩
theorem nk_X7_120 : gNk "Releasetrain" 120 1 16 [.int 0, .int 0, .null, .int 0, .int 0, .null, .null, .int 0, .int 0, .int 0, .int 0, .int 0, .int 0, .int 0, .int 0, .int 0] := ⟨_, _, tyX1, rfl, ins_X1, tyX1_ok, tw_302, tw_343, tw_59, by intro j hj; match j, hj with | 0, _ => rfl | 1, _ => rfl | 2, _ => rfl | 3, _ => rfl | 4, _ => rfl | 5, _ => rfl | 6, _ => rfl | 7, _ => rfl | 8, _ => rfl | 9, _ => rfl | 10, _ => rfl | 11, _ => rfl | 12, _ => rfl | 13, _ => rfl | 14, _ => rfl | 15, _ => rfl | (j + 16), hj => exact absurd hj (by omega)⟩
theorem nk_X7_25 : gNk "Releasetrain" 25 6 2 [.null, .int 0] := ⟨_, _, tyX6, rfl, ins_X6, tyX6_ok, tw_95, tw_96, tw_29, by intro j hj; match j, hj with | 0, _ => rfl | 1, _ => rfl | (j + 2), hj => exact absurd hj (by omega)⟩
theorem nk_X7_265 : gNk "Releasetrain" 265 4 4 [.int 0, .null, .int 0, .int 0] := ⟨_, _, tyX4, rfl, ins_X4, tyX4_ok, tw_1072, tw_1080, tw_55, by intro j hj; match j, hj with | 0, _ => rfl | 1, _ => rfl | 2, _ => rfl | 3, _ => rfl | (j + 4), hj => exact absurd hj (by omega)⟩
theorem nk_X7_35 : gNk "Releasetrain" 35 9 4 [.null, .int 0, .int 0, .int 0] := ⟨_, _, tyJ4, rfl, ins_J4, tyJ4_ok, tw_111, tw_112, tw_31, by intro j hj; match j, hj with | 0, _ => rfl | 1, _ => rfl | 2, _ => rfl | 3, _ => rfl | (j + 4), hj => exact absurd hj (by omega)⟩
theorem nk_X7_7 : gNk "Releasetrain" 7 10 3 [.int 0, .null, .int 0] := ⟨_, _, tyJx4a65c, rfl, ins_Jx4a65c, tyJx4a65c_ok, tw_69, tw_70, tw_28, by intro j hj; match j, hj with | 0, _ => rfl | 1, _ => rfl | 2, _ => rfl | (j + 3), hj => exact absurd hj (by omega)⟩
theorem nk_X7_83 : gNk "Releasetrain" 83 2 6 [.int 0, .int 0, .int 0, .null, .int 0, .int 0] := ⟨_, _, tyX2, rfl, ins_X2, tyX2_ok, tw_526, tw_527, tw_56, by intro j hj; match j, hj with | 0, _ => rfl | 1, _ => rfl | 2, _ => rfl | 3, _ => rfl | 4, _ => rfl | 5, _ => rfl | (j + 6), hj => exact absurd hj (by omega)⟩
theorem nk_X7_97 : gNk "Releasetrain" 97 3 3 [.int 0, .int 0, .null] := ⟨_, _, tyX3, rfl, ins_X3, tyX3_ok, tw_561, tw_562, tw_57, by intro j hj; match j, hj with | 0, _ => rfl | 1, _ => rfl | 2, _ => rfl | (j + 3), hj => exact absurd hj (by omega)⟩
theorem pk_Jx4a65c_48 : gPk "java/util/ArrayList" 48 10 2 .int false := ⟨_, _, _, tyJx4a65c, rfl, ins_Jx4a65c, by decide, ⟨_, tw_84, Or.inl rfl⟩, tyJx4a65c_ok, nmJx4a65c, by decide +kernel, rfl, fun h => nomatch h⟩
theorem pk_Jx4a65c_63 : gPk "java/util/ArrayList" 63 10 0 .int false := ⟨_, _, _, tyJx4a65c, rfl, ins_Jx4a65c, by decide, ⟨_, tw_86, Or.inr tw_87⟩, tyJx4a65c_ok, nmJx4a65c, by decide +kernel, rfl, fun h => nomatch h⟩
theorem pk_Jx4a65c_9 : gPk "java/util/ArrayList" 9 10 1 (.array (.object "java/lang/Object")) false := ⟨_, _, _, tyJx4a65c, rfl, ins_Jx4a65c, by decide, ⟨_, tw_83, Or.inl rfl⟩, tyJx4a65c_ok, nmJx4a65c, by decide +kernel, rfl, fun h => nomatch h⟩
theorem pk_X0_15 : gPk "Releasetrain$BucketCounts" 15 0 1 .int false := ⟨_, _, _, tyX0, rfl, ins_X0, by decide, ⟨_, tw_355, Or.inl rfl⟩, tyX0_ok, nmX0, by decide +kernel, rfl, fun h => nomatch h⟩
theorem pk_X0_9 : gPk "Releasetrain$BucketCounts" 9 0 0 (.array .int) true := ⟨_, _, _, tyX0, rfl, ins_X0, by decide, ⟨_, tw_354, Or.inl rfl⟩, tyX0_ok, nmX0, by decide +kernel, rfl, fun _ => rfl⟩
theorem pk_X1_12 : gPk "Releasetrain$Build" 12 1 6 (.object "Releasetrain$BucketCounts") true := ⟨_, _, _, tyX1, rfl, ins_X1, by decide, ⟨_, tw_376, Or.inl rfl⟩, tyX1_ok, nmX1, by decide +kernel, rfl, fun _ => rfl⟩
theorem pk_X1_18 : gPk "Releasetrain$Build" 18 1 7 .char false := ⟨_, _, _, tyX1, rfl, ins_X1, by decide, ⟨_, tw_378, Or.inl rfl⟩, tyX1_ok, nmX1, by decide +kernel, rfl, fun h => nomatch h⟩
theorem pk_X1_22 : gPk "Releasetrain$Build" 22 1 8 .boolean false := ⟨_, _, _, tyX1, rfl, ins_X1, by decide, ⟨_, tw_380, Or.inl rfl⟩, tyX1_ok, nmX1, by decide +kernel, rfl, fun h => nomatch h⟩
theorem pk_X1_26 : gPk "Releasetrain$Build" 26 1 9 .int false := ⟨_, _, _, tyX1, rfl, ins_X1, by decide, ⟨_, tw_382, Or.inl rfl⟩, tyX1_ok, nmX1, by decide +kernel, rfl, fun h => nomatch h⟩
theorem pk_X1_30 : gPk "Releasetrain$Build" 30 1 10 .int false := ⟨_, _, _, tyX1, rfl, ins_X1, by decide, ⟨_, tw_384, Or.inl rfl⟩, tyX1_ok, nmX1, by decide +kernel, rfl, fun h => nomatch h⟩
theorem pk_X1_33 : gPk "Releasetrain$Build" 33 1 11 .int false := ⟨_, _, _, tyX1, rfl, ins_X1, by decide, ⟨_, tw_386, Or.inl rfl⟩, tyX1_ok, nmX1, by decide +kernel, rfl, fun h => nomatch h⟩
theorem pk_X1_36 : gPk "Releasetrain$Build" 36 1 12 .int false := ⟨_, _, _, tyX1, rfl, ins_X1, by decide, ⟨_, tw_388, Or.inl rfl⟩, tyX1_ok, nmX1, by decide +kernel, rfl, fun h => nomatch h⟩
theorem pk_X1_39 : gPk "Releasetrain$Build" 39 1 13 .int false := ⟨_, _, _, tyX1, rfl, ins_X1, by decide, ⟨_, tw_390, Or.inl rfl⟩, tyX1_ok, nmX1, by decide +kernel, rfl, fun h => nomatch h⟩
theorem pk_X1_42 : gPk "Releasetrain$Build" 42 1 14 .int false := ⟨_, _, _, tyX1, rfl, ins_X1, by decide, ⟨_, tw_392, Or.inl rfl⟩, tyX1_ok, nmX1, by decide +kernel, rfl, fun h => nomatch h⟩
theorem pk_X1_45 : gPk "Releasetrain$Build" 45 1 15 .int false := ⟨_, _, _, tyX1, rfl, ins_X1, by decide, ⟨_, tw_394, Or.inl rfl⟩, tyX1_ok, nmX1, by decide +kernel, rfl, fun h => nomatch h⟩
theorem pk_X1_48 : gPk "Releasetrain$Build" 48 1 0 .int true := ⟨_, _, _, tyX1, rfl, ins_X1, by decide, ⟨_, tw_363, Or.inl rfl⟩, tyX1_ok, nmX1, by decide +kernel, rfl, fun _ => rfl⟩
theorem pk_X1_51 : gPk "Releasetrain$Build" 51 1 1 .int true := ⟨_, _, _, tyX1, rfl, ins_X1, by decide, ⟨_, tw_365, Or.inl rfl⟩, tyX1_ok, nmX1, by decide +kernel, rfl, fun _ => rfl⟩
theorem pk_X1_54 : gPk "Releasetrain$Build" 54 1 2 (.object "Releasetrain$Offer") true := ⟨_, _, _, tyX1, rfl, ins_X1, by decide, ⟨_, tw_367, Or.inl rfl⟩, tyX1_ok, nmX1, by decide +kernel, rfl, fun _ => rfl⟩
theorem pk_X1_58 : gPk "Releasetrain$Build" 58 1 3 .int true := ⟨_, _, _, tyX1, rfl, ins_X1, by decide, ⟨_, tw_370, Or.inl rfl⟩, tyX1_ok, nmX1, by decide +kernel, rfl, fun _ => rfl⟩
theorem pk_X1_61 : gPk "Releasetrain$Build" 61 1 4 .int true := ⟨_, _, _, tyX1, rfl, ins_X1, by decide, ⟨_, tw_372, Or.inl rfl⟩, tyX1_ok, nmX1, by decide +kernel, rfl, fun _ => rfl⟩
theorem pk_X1_64 : gPk "Releasetrain$Build" 64 1 5 (.object "Releasetrain$Build") true := ⟨_, _, _, tyX1, rfl, ins_X1, by decide, ⟨_, tw_374, Or.inl rfl⟩, tyX1_ok, nmX1, by decide +kernel, rfl, fun _ => rfl⟩
theorem pk_X2_13 : gPk "Releasetrain$Device" 13 2 4 .int false := ⟨_, _, _, tyX2, rfl, ins_X2, by decide, ⟨_, tw_540, Or.inl rfl⟩, tyX2_ok, nmX2, by decide +kernel, rfl, fun h => nomatch h⟩
theorem pk_X2_17 : gPk "Releasetrain$Device" 17 2 5 .int false := ⟨_, _, _, tyX2, rfl, ins_X2, by decide, ⟨_, tw_542, Or.inl rfl⟩, tyX2_ok, nmX2, by decide +kernel, rfl, fun h => nomatch h⟩
theorem pk_X2_20 : gPk "Releasetrain$Device" 20 2 0 .int true := ⟨_, _, _, tyX2, rfl, ins_X2, by decide, ⟨_, tw_532, Or.inl rfl⟩, tyX2_ok, nmX2, by decide +kernel, rfl, fun _ => rfl⟩
theorem pk_X2_23 : gPk "Releasetrain$Device" 23 2 1 .int true := ⟨_, _, _, tyX2, rfl, ins_X2, by decide, ⟨_, tw_534, Or.inl rfl⟩, tyX2_ok, nmX2, by decide +kernel, rfl, fun _ => rfl⟩
theorem pk_X2_26 : gPk "Releasetrain$Device" 26 2 2 .int true := ⟨_, _, _, tyX2, rfl, ins_X2, by decide, ⟨_, tw_536, Or.inl rfl⟩, tyX2_ok, nmX2, by decide +kernel, rfl, fun _ => rfl⟩
theorem pk_X2_7 : gPk "Releasetrain$Device" 7 2 3 (.object "Releasetrain$Build") false := ⟨_, _, _, tyX2, rfl, ins_X2, by decide, ⟨_, tw_538, Or.inl rfl⟩, tyX2_ok, nmX2, by decide +kernel, rfl, fun h => nomatch h⟩
theorem pk_X3_10 : gPk "Releasetrain$DeviceKind" 10 3 2 (.object "Releasetrain$BucketCounts") true := ⟨_, _, _, tyX3, rfl, ins_X3, by decide, ⟨_, tw_573, Or.inl rfl⟩, tyX3_ok, nmX3, by decide +kernel, rfl, fun _ => rfl⟩
theorem pk_X3_16 : gPk "Releasetrain$DeviceKind" 16 3 0 .int true := ⟨_, _, _, tyX3, rfl, ins_X3, by decide, ⟨_, tw_569, Or.inl rfl⟩, tyX3_ok, nmX3, by decide +kernel, rfl, fun _ => rfl⟩
theorem pk_X3_20 : gPk "Releasetrain$DeviceKind" 20 3 1 .int true := ⟨_, _, _, tyX3, rfl, ins_X3, by decide, ⟨_, tw_571, Or.inl rfl⟩, tyX3_ok, nmX3, by decide +kernel, rfl, fun _ => rfl⟩
theorem pk_X4_10 : gPk "Releasetrain$Group" 10 4 1 (.object "Releasetrain$Stack") true := ⟨_, _, _, tyX4, rfl, ins_X4, by decide, ⟨_, tw_1090, Or.inl rfl⟩, tyX4_ok, nmX4, by decide +kernel, rfl, fun _ => rfl⟩
theorem pk_X4_16 : gPk "Releasetrain$Group" 16 4 2 .int false := ⟨_, _, _, tyX4, rfl, ins_X4, by decide, ⟨_, tw_1092, Or.inl rfl⟩, tyX4_ok, nmX4, by decide +kernel, rfl, fun h => nomatch h⟩
theorem pk_X4_20 : gPk "Releasetrain$Group" 20 4 3 .int false := ⟨_, _, _, tyX4, rfl, ins_X4, by decide, ⟨_, tw_1094, Or.inl rfl⟩, tyX4_ok, nmX4, by decide +kernel, rfl, fun h => nomatch h⟩
theorem pk_X4_23 : gPk "Releasetrain$Group" 23 4 0 .int true := ⟨_, _, _, tyX4, rfl, ins_X4, by decide, ⟨_, tw_1088, Or.inl rfl⟩, tyX4_ok, nmX4, by decide +kernel, rfl, fun _ => rfl⟩
theorem pk_X5_13 : gPk "Releasetrain$Offer" 13 5 1 .int true := ⟨_, _, _, tyX5, rfl, ins_X5, by decide, ⟨_, tw_506, Or.inl rfl⟩, tyX5_ok, nmX5, by decide +kernel, rfl, fun _ => rfl⟩
theorem pk_X5_16 : gPk "Releasetrain$Offer" 16 5 2 .int true := ⟨_, _, _, tyX5, rfl, ins_X5, by decide, ⟨_, tw_507, Or.inl rfl⟩, tyX5_ok, nmX5, by decide +kernel, rfl, fun _ => rfl⟩
theorem pk_X5_7 : gPk "Releasetrain$Offer" 7 5 0 .int true := ⟨_, _, _, tyX5, rfl, ins_X5, by decide, ⟨_, tw_505, Or.inl rfl⟩, tyX5_ok, nmX5, by decide +kernel, rfl, fun _ => rfl⟩
theorem pk_X6_15 : gPk "Releasetrain$Stack" 15 6 1 .int false := ⟨_, _, _, tyX6, rfl, ins_X6, by decide, ⟨_, tw_103, Or.inl rfl⟩, tyX6_ok, nmX6, by decide +kernel, rfl, fun h => nomatch h⟩
theorem pk_X6_9 : gPk "Releasetrain$Stack" 9 6 0 (.array .char) true := ⟨_, _, _, tyX6, rfl, ins_X6, by decide, ⟨_, tw_101, Or.inl rfl⟩, tyX6_ok, nmX6, by decide +kernel, rfl, fun _ => rfl⟩
theorem pk_X7_10 : gPk "Releasetrain" 10 7 0 (.object "java/util/ArrayList") true := ⟨_, _, _, tyX7, rfl, ins_X7, by decide, ⟨_, tw_145, Or.inl rfl⟩, tyX7_ok, nmX7, by decide +kernel, rfl, fun _ => rfl⟩
theorem pk_X7_125 : gPk "Releasetrain" 125 1 7 .char false := ⟨_, _, _, tyX1, rfl, ins_X1, by decide, ⟨_, tw_379, Or.inl rfl⟩, tyX1_ok, nmX1, by decide +kernel, rfl, fun h => nomatch h⟩
theorem pk_X7_149 : gPk "Releasetrain" 149 1 8 .boolean false := ⟨_, _, _, tyX1, rfl, ins_X1, by decide, ⟨_, tw_381, Or.inl rfl⟩, tyX1_ok, nmX1, by decide +kernel, rfl, fun h => nomatch h⟩
theorem pk_X7_16 : gPk "Releasetrain" 16 7 1 (.object "java/util/ArrayList") true := ⟨_, _, _, tyX7, rfl, ins_X7, by decide, ⟨_, tw_146, Or.inl rfl⟩, tyX7_ok, nmX7, by decide +kernel, rfl, fun _ => rfl⟩
theorem pk_X7_161 : gPk "Releasetrain" 161 1 10 .int false := ⟨_, _, _, tyX1, rfl, ins_X1, by decide, ⟨_, tw_385, Or.inl rfl⟩, tyX1_ok, nmX1, by decide +kernel, rfl, fun h => nomatch h⟩
theorem pk_X7_169 : gPk "Releasetrain" 169 1 11 .int false := ⟨_, _, _, tyX1, rfl, ins_X1, by decide, ⟨_, tw_387, Or.inl rfl⟩, tyX1_ok, nmX1, by decide +kernel, rfl, fun h => nomatch h⟩
theorem pk_X7_19 : gPk "Releasetrain" 19 7 2 (.object "java/util/ArrayList") true := ⟨_, _, _, tyX7, rfl, ins_X7, by decide, ⟨_, tw_147, Or.inl rfl⟩, tyX7_ok, nmX7, by decide +kernel, rfl, fun _ => rfl⟩
theorem pk_X7_22 : gPk "Releasetrain" 22 7 3 (.object "java/util/ArrayList") true := ⟨_, _, _, tyX7, rfl, ins_X7, by decide, ⟨_, tw_148, Or.inl rfl⟩, tyX7_ok, nmX7, by decide +kernel, rfl, fun _ => rfl⟩
theorem pk_X7_225 : gPk "Releasetrain" 225 2 3 (.object "Releasetrain$Build") false := ⟨_, _, _, tyX2, rfl, ins_X2, by decide, ⟨_, tw_539, Or.inl rfl⟩, tyX2_ok, nmX2, by decide +kernel, rfl, fun h => nomatch h⟩
theorem pk_X7_231 : gPk "Releasetrain" 231 1 12 .int false := ⟨_, _, _, tyX1, rfl, ins_X1, by decide, ⟨_, tw_389, Or.inl rfl⟩, tyX1_ok, nmX1, by decide +kernel, rfl, fun h => nomatch h⟩
theorem pk_X7_234 : gPk "Releasetrain" 234 2 4 .int false := ⟨_, _, _, tyX2, rfl, ins_X2, by decide, ⟨_, tw_541, Or.inl rfl⟩, tyX2_ok, nmX2, by decide +kernel, rfl, fun h => nomatch h⟩
theorem pk_X7_264 : gPk "Releasetrain" 264 4 2 .int false := ⟨_, _, _, tyX4, rfl, ins_X4, by decide, ⟨_, tw_1093, Or.inl rfl⟩, tyX4_ok, nmX4, by decide +kernel, rfl, fun h => nomatch h⟩
theorem pk_X7_269 : gPk "Releasetrain" 269 4 3 .int false := ⟨_, _, _, tyX4, rfl, ins_X4, by decide, ⟨_, tw_1095, Or.inl rfl⟩, tyX4_ok, nmX4, by decide +kernel, rfl, fun h => nomatch h⟩
theorem pk_X7_272 : gPk "Releasetrain" 272 1 13 .int false := ⟨_, _, _, tyX1, rfl, ins_X1, by decide, ⟨_, tw_391, Or.inl rfl⟩, tyX1_ok, nmX1, by decide +kernel, rfl, fun h => nomatch h⟩
theorem pk_X7_28 : gPk "Releasetrain" 28 7 4 (.object "Releasetrain$Stack") true := ⟨_, _, _, tyX7, rfl, ins_X7, by decide, ⟨_, tw_149, Or.inl rfl⟩, tyX7_ok, nmX7, by decide +kernel, rfl, fun _ => rfl⟩
theorem pk_X7_311 : gPk "Releasetrain" 311 1 15 .int false := ⟨_, _, _, tyX1, rfl, ins_X1, by decide, ⟨_, tw_395, Or.inl rfl⟩, tyX1_ok, nmX1, by decide +kernel, rfl, fun h => nomatch h⟩
theorem pk_X7_314 : gPk "Releasetrain" 314 1 14 .int false := ⟨_, _, _, tyX1, rfl, ins_X1, by decide, ⟨_, tw_393, Or.inl rfl⟩, tyX1_ok, nmX1, by decide +kernel, rfl, fun h => nomatch h⟩
theorem pk_X7_32 : gPk "Releasetrain" 32 7 5 (.object "Releasetrain$Stack") true := ⟨_, _, _, tyX7, rfl, ins_X7, by decide, ⟨_, tw_150, Or.inl rfl⟩, tyX7_ok, nmX7, by decide +kernel, rfl, fun _ => rfl⟩
theorem pk_X7_332 : gPk "Releasetrain" 332 2 5 .int false := ⟨_, _, _, tyX2, rfl, ins_X2, by decide, ⟨_, tw_543, Or.inl rfl⟩, tyX2_ok, nmX2, by decide +kernel, rfl, fun h => nomatch h⟩
theorem pk_X7_38 : gPk "Releasetrain" 38 7 6 (.object "java/lang/StringBuilder") true := ⟨_, _, _, tyX7, rfl, ins_X7, by decide, ⟨_, tw_151, Or.inl rfl⟩, tyX7_ok, nmX7, by decide +kernel, rfl, fun _ => rfl⟩
theorem pk_X7_418 : gPk "Releasetrain" 418 1 9 .int false := ⟨_, _, _, tyX1, rfl, ins_X1, by decide, ⟨_, tw_383, Or.inl rfl⟩, tyX1_ok, nmX1, by decide +kernel, rfl, fun h => nomatch h⟩
theorem pk_X7_42 : gPk "Releasetrain" 42 7 7 .int false := ⟨_, _, _, tyX7, rfl, ins_X7, by decide, ⟨_, tw_152, Or.inl rfl⟩, tyX7_ok, nmX7, by decide +kernel, rfl, fun h => nomatch h⟩
theorem pk_X7_46 : gPk "Releasetrain" 46 7 8 .int false := ⟨_, _, _, tyX7, rfl, ins_X7, by decide, ⟨_, tw_153, Or.inl rfl⟩, tyX7_ok, nmX7, by decide +kernel, rfl, fun h => nomatch h⟩
theorem pk_X7_49 : gPk "Releasetrain" 49 7 9 .int false := ⟨_, _, _, tyX7, rfl, ins_X7, by decide, ⟨_, tw_154, Or.inl rfl⟩, tyX7_ok, nmX7, by decide +kernel, rfl, fun h => nomatch h⟩
theorem pk_X7_53 : gPk "Releasetrain" 53 7 10 .float false := ⟨_, _, _, tyX7, rfl, ins_X7, by decide, ⟨_, tw_155, Or.inl rfl⟩, tyX7_ok, nmX7, by decide +kernel, rfl, fun h => nomatch h⟩
theorem pk_X7_57 : gPk "Releasetrain" 57 7 11 .float false := ⟨_, _, _, tyX7, rfl, ins_X7, by decide, ⟨_, tw_156, Or.inl rfl⟩, tyX7_ok, nmX7, by decide +kernel, rfl, fun h => nomatch h⟩
theorem pk_X7_60 : gPk "Releasetrain" 60 7 12 .int false := ⟨_, _, _, tyX7, rfl, ins_X7, by decide, ⟨_, tw_157, Or.inl rfl⟩, tyX7_ok, nmX7, by decide +kernel, rfl, fun h => nomatch h⟩
theorem pk_java_lang_AbstractStringBuilder_15 : gPk "java/lang/AbstractStringBuilder" 15 9 0 (.array .byte) false := ⟨_, _, _, tyJ4, rfl, ins_J4, by decide, ⟨_, tw_129, Or.inl rfl⟩, tyJ4_ok, nmJ4, by decide +kernel, rfl, fun h => nomatch h⟩
theorem pk_java_lang_AbstractStringBuilder_22 : gPk "java/lang/AbstractStringBuilder" 22 9 1 .byte false := ⟨_, _, _, tyJ4, rfl, ins_J4, by decide, ⟨_, tw_130, Or.inl rfl⟩, tyJ4_ok, nmJ4, by decide +kernel, rfl, fun h => nomatch h⟩
theorem pk_java_lang_AbstractStringBuilder_73 : gPk "java/lang/AbstractStringBuilder" 73 9 2 .boolean false := ⟨_, _, _, tyJ4, rfl, ins_J4, by decide, ⟨_, tw_131, Or.inl rfl⟩, tyJ4_ok, nmJ4, by decide +kernel, rfl, fun h => nomatch h⟩
theorem pk_java_lang_AbstractStringBuilder_79 : gPk "java/lang/AbstractStringBuilder" 79 9 3 .int false := ⟨_, _, _, tyJ4, rfl, ins_J4, by decide, ⟨_, tw_133, Or.inl rfl⟩, tyJ4_ok, nmJ4, by decide +kernel, rfl, fun h => nomatch h⟩
theorem pk_java_util_AbstractList_7 : gPk "java/util/AbstractList" 7 10 0 .int false := ⟨_, _, _, tyJx4a65c, rfl, ins_Jx4a65c, by decide, ⟨_, tw_85, Or.inl rfl⟩, tyJx4a65c_ok, nmJx4a65c, by decide +kernel, rfl, fun h => nomatch h⟩
theorem xk_X7_168 : ∀ w ∈ vx_atS "Releasetrain" 168 "java/lang/UnsupportedOperationException" ["java/lang/RuntimeException", "java/lang/Exception"], w ∈ TBL ∨ w ∈ gBad := gxat (by decide +kernel)
theorem xk_X7_285 : ∀ w ∈ vx_atS "Releasetrain" 285 "java/lang/IndexOutOfBoundsException" ["java/lang/RuntimeException", "java/lang/Exception"], w ∈ TBL ∨ w ∈ gBad := gxat (by decide +kernel)
theorem xk_X7_357 : ∀ w ∈ vx_atS "Releasetrain" 357 "java/lang/ArithmeticException" ["java/lang/RuntimeException", "java/lang/Exception"], w ∈ TBL ∨ w ∈ gBad := gxat (by decide +kernel)
theorem xk_X7_71 : ∀ w ∈ vx_atS "Releasetrain" 71 "java/lang/IllegalArgumentException" ["java/lang/RuntimeException", "java/lang/Exception"], w ∈ TBL ∨ w ∈ gBad := gxat (by decide +kernel)
theorem xk_X7_82 : ∀ w ∈ vx_atS "Releasetrain" 82 "java/lang/IllegalStateException" ["java/lang/RuntimeException", "java/lang/Exception"], w ∈ TBL ∨ w ∈ gBad := gxat (by decide +kernel)
