theorem tw_1226 : Cond.code yJx4a65c_isEmpty_aae02 prog_41_method_9_code 1 (some FieldType.boolean) ∈ TBL := TBL_mem 1226 (by decide +kernel) (by decide +kernel)
theorem tw_1228 : Cond.methodLink "ReleasetrainLaw" 223 yL_group ∈ TBL := TBL_mem 1228 (by decide +kernel) (by decide +kernel)
theorem tw_1229 : Cond.static yL_group ∈ TBL := TBL_mem 1229 (by decide +kernel) (by decide +kernel)
theorem tw_1230 : Cond.codeWith yL_group method_11_code 4 (some FieldType.int) [(0, 57, 58, 17), (0, 57, 63, 139)] ∈ TBL := TBL_mem 1230 (by decide +kernel) (by decide +kernel)
theorem tw_1231 : Cond.classLink "ReleasetrainLaw" 139 "java/lang/IndexOutOfBoundsException" ∈ TBL := TBL_mem 1231 (by decide +kernel) (by decide +kernel)
theorem tw_1232 : Cond.instanceMethod yJx00060_init_a7421 ∈ TBL := TBL_mem 1232 (by decide +kernel) (by decide +kernel)
theorem tw_1233 : Cond.code yJx00060_init_a7421 prog_15_method_2_code 2 (Option.none : Option Jvm.ClassFile.FieldType) ∈ TBL := TBL_mem 1233 (by decide +kernel) (by decide +kernel)
theorem tw_1234 : Cond.methodLink "ReleasetrainLaw" 126 yX7_lineAt ∈ TBL := TBL_mem 1234 (by decide +kernel) (by decide +kernel)
theorem tw_1235 : Cond.instanceMethod yX7_lineAt ∈ TBL := TBL_mem 1235 (by decide +kernel) (by decide +kernel)
theorem tw_1236 : Cond.selects "Releasetrain" yX7_lineAt yX7_lineAt ∈ TBL := TBL_mem 1236 (by decide +kernel) (by decide +kernel)
theorem tw_1237 : Cond.code yX7_lineAt prog_1_method_45_code 2 (some FieldType.char) ∈ TBL := TBL_mem 1237 (by decide +kernel) (by decide +kernel)
theorem tw_1238 : Cond.classLink "Releasetrain" 281 "java/lang/IndexOutOfBoundsException" ∈ TBL := TBL_mem 1238 (by decide +kernel) (by decide +kernel)
theorem tw_1239 : Cond.instantiable "java/lang/IndexOutOfBoundsException" 6 ∈ TBL := TBL_mem 1239 (by decide +kernel) (by decide +kernel)
theorem tw_1241 : Cond.selects "java/lang/IndexOutOfBoundsException" ⟨"java/lang/Throwable", "fillInStackTrace", "(I)Ljava/lang/Throwable;"⟩ ⟨"java/lang/Throwable", "fillInStackTrace", "(I)Ljava/lang/Throwable;"⟩ ∈ TBL := TBL_mem 1241 (by decide +kernel) (by decide +kernel)
theorem tw_1248 : Cond.methodLink "Releasetrain" 285 ⟨"java/lang/IndexOutOfBoundsException", "<init>", "(Ljava/lang/String;)V"⟩ ∈ TBL := TBL_mem 1248 (by decide +kernel) (by decide +kernel)
theorem tw_1250 : Cond.superclass "java/lang/IndexOutOfBoundsException" "java/lang/RuntimeException" ∈ TBL := TBL_mem 1250 (by decide +kernel) (by decide +kernel)
theorem tw_1251 : Cond.methodLink "Releasetrain" 388 yJ4_charAt_5068e ∈ TBL := TBL_mem 1251 (by decide +kernel) (by decide +kernel)
theorem tw_1252 : Cond.instanceMethod yJ4_charAt_5068e ∈ TBL := TBL_mem 1252 (by decide +kernel) (by decide +kernel)
theorem tw_1253 : Cond.selects "java/lang/StringBuilder" yJ4_charAt_5068e yJ4_charAt_5068e ∈ TBL := TBL_mem 1253 (by decide +kernel) (by decide +kernel)
theorem tw_1254 : Cond.code yJ4_charAt_5068e prog_30_method_88_code 2 (some FieldType.char) ∈ TBL := TBL_mem 1254 (by decide +kernel) (by decide +kernel)
theorem tw_1255 : Cond.methodLink "java/lang/StringBuilder" 329 yJ5_charAt_5068e ∈ TBL := TBL_mem 1255 (by decide +kernel) (by decide +kernel)
theorem tw_1256 : Cond.instanceMethod yJ5_charAt_5068e ∈ TBL := TBL_mem 1256 (by decide +kernel) (by decide +kernel)
theorem tw_1257 : Cond.code yJ5_charAt_5068e prog_12_method_14_code 5 (some FieldType.char) ∈ TBL := TBL_mem 1257 (by decide +kernel) (by decide +kernel)
theorem tw_1258 : Cond.methodLink "java/lang/AbstractStringBuilder" 138 yJ9_min_7cf53 ∈ TBL := TBL_mem 1258 (by decide +kernel) (by decide +kernel)
theorem tw_1259 : Cond.methodLink "java/lang/AbstractStringBuilder" 144 yJ0_checkIndex_df160 ∈ TBL := TBL_mem 1259 (by decide +kernel) (by decide +kernel)
theorem tw_1261 : Cond.methodLink "ReleasetrainLaw" 129 yX7_crashesIn ∈ TBL := TBL_mem 1261 (by decide +kernel) (by decide +kernel)
theorem tw_1262 : Cond.instanceMethod yX7_crashesIn ∈ TBL := TBL_mem 1262 (by decide +kernel) (by decide +kernel)
theorem tw_1263 : Cond.selects "Releasetrain" yX7_crashesIn yX7_crashesIn ∈ TBL := TBL_mem 1263 (by decide +kernel) (by decide +kernel)
theorem tw_1264 : Cond.code yX7_crashesIn prog_1_method_29_code 2 (some FieldType.int) ∈ TBL := TBL_mem 1264 (by decide +kernel) (by decide +kernel)
theorem tw_1265 : Cond.methodLink "Releasetrain" 274 yX7_knownGroup ∈ TBL := TBL_mem 1265 (by decide +kernel) (by decide +kernel)
theorem tw_1267 : Cond.instanceMethod yX7_knownGroup ∈ TBL := TBL_mem 1267 (by decide +kernel) (by decide +kernel)
theorem tw_1268 : Cond.code yX7_knownGroup prog_1_method_50_code 2 (some (FieldType.object "Releasetrain$Group")) ∈ TBL := TBL_mem 1268 (by decide +kernel) (by decide +kernel)
theorem tw_1270 : Cond.methodLink "ReleasetrainLaw" 132 yX7_buildsIn ∈ TBL := TBL_mem 1270 (by decide +kernel) (by decide +kernel)
theorem tw_1271 : Cond.instanceMethod yX7_buildsIn ∈ TBL := TBL_mem 1271 (by decide +kernel) (by decide +kernel)
theorem tw_1272 : Cond.selects "Releasetrain" yX7_buildsIn yX7_buildsIn ∈ TBL := TBL_mem 1272 (by decide +kernel) (by decide +kernel)
theorem tw_1273 : Cond.code yX7_buildsIn prog_1_method_34_code 2 (some FieldType.int) ∈ TBL := TBL_mem 1273 (by decide +kernel) (by decide +kernel)
theorem tw_1274 : Cond.methodLink "ReleasetrainLaw" 135 yX7_stackAt ∈ TBL := TBL_mem 1274 (by decide +kernel) (by decide +kernel)
theorem tw_1275 : Cond.instanceMethod yX7_stackAt ∈ TBL := TBL_mem 1275 (by decide +kernel) (by decide +kernel)
theorem tw_1276 : Cond.selects "Releasetrain" yX7_stackAt yX7_stackAt ∈ TBL := TBL_mem 1276 (by decide +kernel) (by decide +kernel)
theorem tw_1277 : Cond.code yX7_stackAt prog_1_method_30_code 4 (some FieldType.char) ∈ TBL := TBL_mem 1277 (by decide +kernel) (by decide +kernel)
theorem tw_1279 : Cond.methodLink "ReleasetrainLaw" 208 yL_like ∈ TBL := TBL_mem 1279 (by decide +kernel) (by decide +kernel)
theorem tw_1280 : Cond.static yL_like ∈ TBL := TBL_mem 1280 (by decide +kernel) (by decide +kernel)
theorem tw_1281 : Cond.codeWith yL_like method_12_code 4 (some FieldType.float) [(0, 20, 21, 17)] ∈ TBL := TBL_mem 1281 (by decide +kernel) (by decide +kernel)
theorem tw_1282 : Cond.methodLink "ReleasetrainLaw" 141 yX7_crashRate ∈ TBL := TBL_mem 1282 (by decide +kernel) (by decide +kernel)
theorem tw_1283 : Cond.instanceMethod yX7_crashRate ∈ TBL := TBL_mem 1283 (by decide +kernel) (by decide +kernel)
theorem tw_1284 : Cond.selects "Releasetrain" yX7_crashRate yX7_crashRate ∈ TBL := TBL_mem 1284 (by decide +kernel) (by decide +kernel)
theorem tw_1285 : Cond.code yX7_crashRate prog_1_method_36_code 2 (some FieldType.float) ∈ TBL := TBL_mem 1285 (by decide +kernel) (by decide +kernel)
theorem tw_1286 : Cond.methodLink "ReleasetrainLaw" 145 yX7_likeness ∈ TBL := TBL_mem 1286 (by decide +kernel) (by decide +kernel)
theorem tw_1287 : Cond.instanceMethod yX7_likeness ∈ TBL := TBL_mem 1287 (by decide +kernel) (by decide +kernel)
theorem tw_1288 : Cond.selects "Releasetrain" yX7_likeness yX7_likeness ∈ TBL := TBL_mem 1288 (by decide +kernel) (by decide +kernel)
theorem tw_1289 : Cond.code yX7_likeness prog_1_method_31_code 4 (some FieldType.float) ∈ TBL := TBL_mem 1289 (by decide +kernel) (by decide +kernel)
theorem tw_1290 : Cond.constantFloat "ReleasetrainLaw" 149 (3212836864 : UInt32) ∈ TBL := TBL_mem 1290 (by decide +kernel) (by decide +kernel)
theorem tw_1291 : Cond.methodLink "ReleasetrainLaw" 226 yL_rating ∈ TBL := TBL_mem 1291 (by decide +kernel) (by decide +kernel)
theorem tw_1292 : Cond.static yL_rating ∈ TBL := TBL_mem 1292 (by decide +kernel) (by decide +kernel)
theorem tw_1293 : Cond.codeWith yL_rating method_13_code 3 (some FieldType.double) [(0, 5, 6, 17), (0, 5, 11, 156)] ∈ TBL := TBL_mem 1293 (by decide +kernel) (by decide +kernel)
theorem tw_1294 : Cond.classLink "ReleasetrainLaw" 156 "java/lang/ArithmeticException" ∈ TBL := TBL_mem 1294 (by decide +kernel) (by decide +kernel)
theorem tw_1295 : Cond.instantiable "java/lang/ArithmeticException" 6 ∈ TBL := TBL_mem 1295 (by decide +kernel) (by decide +kernel)
theorem tw_1296 : Cond.instanceMethod ⟨"java/lang/ArithmeticException", "<init>", "(Ljava/lang/String;)V"⟩ ∈ TBL := TBL_mem 1296 (by decide +kernel) (by decide +kernel)
theorem tw_1297 : Cond.code ⟨"java/lang/ArithmeticException", "<init>", "(Ljava/lang/String;)V"⟩ prog_14_method_2_code 2 (Option.none : Option Jvm.ClassFile.FieldType) ∈ TBL := TBL_mem 1297 (by decide +kernel) (by decide +kernel)
theorem tw_1298 : Cond.methodLink "java/lang/ArithmeticException" 7 ⟨"java/lang/RuntimeException", "<init>", "(Ljava/lang/String;)V"⟩ ∈ TBL := TBL_mem 1298 (by decide +kernel) (by decide +kernel)
theorem tw_1305 : Cond.superclass "java/lang/ArithmeticException" "java/lang/RuntimeException" ∈ TBL := TBL_mem 1305 (by decide +kernel) (by decide +kernel)
theorem tw_1307 : Cond.selects "java/lang/ArithmeticException" ⟨"java/lang/Throwable", "fillInStackTrace", "(I)Ljava/lang/Throwable;"⟩ ⟨"java/lang/Throwable", "fillInStackTrace", "(I)Ljava/lang/Throwable;"⟩ ∈ TBL := TBL_mem 1307 (by decide +kernel) (by decide +kernel)
theorem tw_1308 : Cond.methodLink "ReleasetrainLaw" 150 yX7_rating ∈ TBL := TBL_mem 1308 (by decide +kernel) (by decide +kernel)
theorem tw_1309 : Cond.instanceMethod yX7_rating ∈ TBL := TBL_mem 1309 (by decide +kernel) (by decide +kernel)
theorem tw_1310 : Cond.selects "Releasetrain" yX7_rating yX7_rating ∈ TBL := TBL_mem 1310 (by decide +kernel) (by decide +kernel)
theorem tw_1311 : Cond.code yX7_rating prog_1_method_38_code 2 (some FieldType.double) ∈ TBL := TBL_mem 1311 (by decide +kernel) (by decide +kernel)
theorem tw_1312 : Cond.methodLink "Releasetrain" 317 yX7_ratedBuild ∈ TBL := TBL_mem 1312 (by decide +kernel) (by decide +kernel)
theorem tw_1314 : Cond.instanceMethod yX7_ratedBuild ∈ TBL := TBL_mem 1314 (by decide +kernel) (by decide +kernel)
theorem tw_1315 : Cond.code yX7_ratedBuild prog_1_method_51_code 3 (some (FieldType.object "Releasetrain$Build")) ∈ TBL := TBL_mem 1315 (by decide +kernel) (by decide +kernel)
theorem tw_1316 : Cond.classLink "Releasetrain" 353 "java/lang/ArithmeticException" ∈ TBL := TBL_mem 1316 (by decide +kernel) (by decide +kernel)
theorem tw_1318 : Cond.methodLink "Releasetrain" 357 ⟨"java/lang/ArithmeticException", "<init>", "(Ljava/lang/String;)V"⟩ ∈ TBL := TBL_mem 1318 (by decide +kernel) (by decide +kernel)
theorem tw_1319 : Cond.constantDouble "ReleasetrainLaw" 154 (13830554455654793216 : UInt64) ∈ TBL := TBL_mem 1319 (by decide +kernel) (by decide +kernel)
theorem tw_1320 : Cond.constantDouble "ReleasetrainLaw" 158 (13835058055282163712 : UInt64) ∈ TBL := TBL_mem 1320 (by decide +kernel) (by decide +kernel)
theorem tw_1321 : Cond.methodLink "ReleasetrainLaw" 205 yL_ratingBits ∈ TBL := TBL_mem 1321 (by decide +kernel) (by decide +kernel)
theorem tw_1322 : Cond.static yL_ratingBits ∈ TBL := TBL_mem 1322 (by decide +kernel) (by decide +kernel)
theorem tw_1323 : Cond.codeWith yL_ratingBits method_14_code 3 (some FieldType.long) [(0, 5, 6, 17), (0, 5, 11, 156)] ∈ TBL := TBL_mem 1323 (by decide +kernel) (by decide +kernel)
theorem tw_1324 : Cond.methodLink "ReleasetrainLaw" 160 yX7_ratingBits ∈ TBL := TBL_mem 1324 (by decide +kernel) (by decide +kernel)
theorem tw_1325 : Cond.instanceMethod yX7_ratingBits ∈ TBL := TBL_mem 1325 (by decide +kernel) (by decide +kernel)
theorem tw_1326 : Cond.selects "Releasetrain" yX7_ratingBits yX7_ratingBits ∈ TBL := TBL_mem 1326 (by decide +kernel) (by decide +kernel)
theorem tw_1327 : Cond.code yX7_ratingBits prog_1_method_39_code 2 (some FieldType.long) ∈ TBL := TBL_mem 1327 (by decide +kernel) (by decide +kernel)
theorem tw_1328 : Cond.constantLong "ReleasetrainLaw" 164 (-1001 : Int64) ∈ TBL := TBL_mem 1328 (by decide +kernel) (by decide +kernel)
theorem tw_1329 : Cond.constantLong "ReleasetrainLaw" 166 (-1006 : Int64) ∈ TBL := TBL_mem 1329 (by decide +kernel) (by decide +kernel)
theorem tw_1330 : Cond.methodLink "ReleasetrainLaw" 182 yL_builds ∈ TBL := TBL_mem 1330 (by decide +kernel) (by decide +kernel)
theorem tw_1331 : Cond.static yL_builds ∈ TBL := TBL_mem 1331 (by decide +kernel) (by decide +kernel)
theorem tw_1332 : Cond.code yL_builds method_16_code 2 (some FieldType.int) ∈ TBL := TBL_mem 1332 (by decide +kernel) (by decide +kernel)
theorem tw_1333 : Cond.methodLink "ReleasetrainLaw" 186 yL_devices ∈ TBL := TBL_mem 1333 (by decide +kernel) (by decide +kernel)
theorem tw_1334 : Cond.static yL_devices ∈ TBL := TBL_mem 1334 (by decide +kernel) (by decide +kernel)
theorem tw_1335 : Cond.code yL_devices method_17_code 2 (some FieldType.int) ∈ TBL := TBL_mem 1335 (by decide +kernel) (by decide +kernel)
theorem tw_1336 : Cond.methodLink "ReleasetrainLaw" 249 yL_sum ∈ TBL := TBL_mem 1336 (by decide +kernel) (by decide +kernel)
theorem tw_1337 : Cond.static yL_sum ∈ TBL := TBL_mem 1337 (by decide +kernel) (by decide +kernel)
theorem tw_1339 : Cond.methodLink "ReleasetrainLaw" 189 yX7_day ∈ TBL := TBL_mem 1339 (by decide +kernel) (by decide +kernel)
theorem tw_1340 : Cond.instanceMethod yX7_day ∈ TBL := TBL_mem 1340 (by decide +kernel) (by decide +kernel)
theorem tw_1341 : Cond.selects "Releasetrain" yX7_day yX7_day ∈ TBL := TBL_mem 1341 (by decide +kernel) (by decide +kernel)
theorem tw_1342 : Cond.code yX7_day prog_1_method_17_code 1 (some FieldType.int) ∈ TBL := TBL_mem 1342 (by decide +kernel) (by decide +kernel)
theorem tw_1343 : Cond.constantLong "ReleasetrainLaw" 192 (31 : Int64) ∈ TBL := TBL_mem 1343 (by decide +kernel) (by decide +kernel)
theorem tw_1344 : Cond.constantLong "ReleasetrainLaw" 197 (961 : Int64) ∈ TBL := TBL_mem 1344 (by decide +kernel) (by decide +kernel)
theorem tw_1345 : Cond.constantLong "ReleasetrainLaw" 203 (7 : Int64) ∈ TBL := TBL_mem 1345 (by decide +kernel) (by decide +kernel)
theorem tw_1346 : Cond.methodLink "ReleasetrainLaw" 212 yJxf58ca_floatToIntBits_5c35a ∈ TBL := TBL_mem 1346 (by decide +kernel) (by decide +kernel)
theorem tw_1347 : Cond.static yJxf58ca_floatToIntBits_5c35a ∈ TBL := TBL_mem 1347 (by decide +kernel) (by decide +kernel)
theorem tw_1348 : Cond.code yJxf58ca_floatToIntBits_5c35a prog_20_method_24_code 1 (some FieldType.int) ∈ TBL := TBL_mem 1348 (by decide +kernel) (by decide +kernel)
theorem tw_1349 : Cond.methodLink "java/lang/Float" 59 yJxf58ca_isNaN_12338 ∈ TBL := TBL_mem 1349 (by decide +kernel) (by decide +kernel)
theorem tw_1350 : Cond.static yJxf58ca_isNaN_12338 ∈ TBL := TBL_mem 1350 (by decide +kernel) (by decide +kernel)
theorem tw_1351 : Cond.code yJxf58ca_isNaN_12338 prog_20_method_6_code 1 (some FieldType.boolean) ∈ TBL := TBL_mem 1351 (by decide +kernel) (by decide +kernel)
theorem tw_1352 : Cond.methodLink "java/lang/Float" 74 ⟨"java/lang/Float", "floatToRawIntBits", "(F)I"⟩ ∈ TBL := TBL_mem 1352 (by decide +kernel) (by decide +kernel)
theorem tw_1353 : Cond.static ⟨"java/lang/Float", "floatToRawIntBits", "(F)I"⟩ ∈ TBL := TBL_mem 1353 (by decide +kernel) (by decide +kernel)
theorem tw_1354 : Cond.native ⟨"java/lang/Float", "floatToRawIntBits", "(F)I"⟩ ∈ TBL := TBL_mem 1354 (by decide +kernel) (by decide +kernel)
theorem tw_1355 : Cond.constant "java/lang/Float" 77 (2143289344 : Int32) ∈ TBL := TBL_mem 1355 (by decide +kernel) (by decide +kernel)
theorem tw_1356 : Cond.constantLong "ReleasetrainLaw" 221 (3 : Int64) ∈ TBL := TBL_mem 1356 (by decide +kernel) (by decide +kernel)
theorem tw_1357 : Cond.methodLink "ReleasetrainLaw" 265 yL_isSound ∈ TBL := TBL_mem 1357 (by decide +kernel) (by decide +kernel)
theorem tw_1358 : Cond.static yL_isSound ∈ TBL := TBL_mem 1358 (by decide +kernel) (by decide +kernel)
theorem tw_1360 : Cond.constantDouble "ReleasetrainLaw" 229 (4617315517961601024 : UInt64) ∈ TBL := TBL_mem 1360 (by decide +kernel) (by decide +kernel)
theorem tw_1361 : Cond.methodLink "ReleasetrainLaw" 231 yJ9_max_7cf53 ∈ TBL := TBL_mem 1361 (by decide +kernel) (by decide +kernel)
theorem tw_1362 : Cond.methodLink "ReleasetrainLaw" 236 yL_used ∈ TBL := TBL_mem 1362 (by decide +kernel) (by decide +kernel)
theorem tw_1363 : Cond.static yL_used ∈ TBL := TBL_mem 1363 (by decide +kernel) (by decide +kernel)
theorem tw_1364 : Cond.codeWith yL_used method_15_code 2 (some FieldType.float) [(0, 4, 5, 156)] ∈ TBL := TBL_mem 1364 (by decide +kernel) (by decide +kernel)
theorem tw_1365 : Cond.methodLink "ReleasetrainLaw" 168 yX7_usedShare ∈ TBL := TBL_mem 1365 (by decide +kernel) (by decide +kernel)
theorem tw_1366 : Cond.instanceMethod yX7_usedShare ∈ TBL := TBL_mem 1366 (by decide +kernel) (by decide +kernel)
theorem tw_1367 : Cond.selects "Releasetrain" yX7_usedShare yX7_usedShare ∈ TBL := TBL_mem 1367 (by decide +kernel) (by decide +kernel)
theorem tw_1368 : Cond.code yX7_usedShare prog_1_method_43_code 5 (some FieldType.float) ∈ TBL := TBL_mem 1368 (by decide +kernel) (by decide +kernel)
theorem tw_1370 : Cond.constant "ReleasetrainLaw" 248 (100000000 : Int32) ∈ TBL := TBL_mem 1370 (by decide +kernel) (by decide +kernel)
theorem tw_1371 : Cond.sameMethod "java/lang/Throwable" "java/lang/Throwable" "fillInStackTrace" "(I)Ljava/lang/Throwable;" ∈ TBL := TBL_mem 1371 (by decide +kernel) (by decide +kernel)
theorem tw_1372 : Cond.sameMethod "java/lang/AbstractStringBuilder" "java/lang/AbstractStringBuilder" "setLength" "(I)V" ∈ TBL := TBL_mem 1372 (by decide +kernel) (by decide +kernel)
theorem tw_1373 : Cond.sameMethod "java/lang/AbstractStringBuilder" "java/lang/AbstractStringBuilder" "append" "(Ljava/lang/String;)Ljava/lang/AbstractStringBuilder;" ∈ TBL := TBL_mem 1373 (by decide +kernel) (by decide +kernel)
theorem tw_1374 : Cond.sameMethod "java/lang/AbstractStringBuilder" "java/lang/AbstractStringBuilder" "appendNull" "()Ljava/lang/AbstractStringBuilder;" ∈ TBL := TBL_mem 1374 (by decide +kernel) (by decide +kernel)
theorem tw_1375 : Cond.sameMethod "java/lang/AbstractStringBuilder" "java/lang/AbstractStringBuilder" "ensureCapacityInternal" "(I)V" ∈ TBL := TBL_mem 1375 (by decide +kernel) (by decide +kernel)
theorem tw_1376 : Cond.sameMethod "java/lang/AbstractStringBuilder" "java/lang/AbstractStringBuilder" "newCapacity" "(I)I" ∈ TBL := TBL_mem 1376 (by decide +kernel) (by decide +kernel)
theorem tw_1377 : Cond.sameMethod "java/lang/AbstractStringBuilder" "java/lang/AbstractStringBuilder" "putStringAt" "(ILjava/lang/String;)V" ∈ TBL := TBL_mem 1377 (by decide +kernel) (by decide +kernel)
theorem tw_1378 : Cond.sameMethod "java/lang/AbstractStringBuilder" "java/lang/AbstractStringBuilder" "inflateIfNeededFor" "(Ljava/lang/String;)V" ∈ TBL := TBL_mem 1378 (by decide +kernel) (by decide +kernel)
theorem tw_1379 : Cond.sameMethod "java/lang/AbstractStringBuilder" "java/lang/AbstractStringBuilder" "inflate" "()V" ∈ TBL := TBL_mem 1379 (by decide +kernel) (by decide +kernel)
theorem tw_1380 : Cond.sameMethod "java/lang/AbstractStringBuilder" "java/lang/AbstractStringBuilder" "append" "(I)Ljava/lang/AbstractStringBuilder;" ∈ TBL := TBL_mem 1380 (by decide +kernel) (by decide +kernel)
theorem tw_1381 : Cond.sameMethod "java/lang/AbstractStringBuilder" "java/lang/AbstractStringBuilder" "append" "(C)Ljava/lang/AbstractStringBuilder;" ∈ TBL := TBL_mem 1381 (by decide +kernel) (by decide +kernel)
theorem tw_1382 : Cond.selects "java/lang/StringBuilder" yJ4_length_8abf5 yJ4_length_8abf5 ∈ TBL := TBL_mem 1382 (by decide +kernel) (by decide +kernel)
theorem tw_1383 : Cond.sameMethod "java/lang/AbstractStringBuilder" "java/lang/AbstractStringBuilder" "charAt" "(I)C" ∈ TBL := TBL_mem 1383 (by decide +kernel) (by decide +kernel)
theorem tw_1406 : Cond.sameMethod "[Ljava/lang/Object;" "java/lang/Object" "getClass" "()Ljava/lang/Class;" ∈ TBL := TBL_mem 1406 (by decide +kernel) (by decide +kernel)
theorem tw_1407 : Cond.selects "[Ljava/lang/Object;" ⟨"java/lang/Object", "getClass", "()Ljava/lang/Class;"⟩ ⟨"java/lang/Object", "getClass", "()Ljava/lang/Class;"⟩ ∈ TBL := TBL_mem 1407 (by decide +kernel) (by decide +kernel)
theorem ins_X0 : ∀ w ∈ u_ws RX0 TX0 2, w ∈ TBL := by
  have h : (u_ws RX0 TX0 2).all (fun w => decide (w ∈ lw_tbl) && goodWord w) = true := by decide +kernel
  intro w hw
  have h1 := List.all_eq_true.mp h w hw
  simp only [Bool.and_eq_true, decide_eq_true_eq] at h1
  exact TBL_of h1.1 h1.2
theorem ins_X1 : ∀ w ∈ u_ws RX1 TX1 16, w ∈ TBL := by
  have h : (u_ws RX1 TX1 16).all (fun w => decide (w ∈ lw_tbl) && goodWord w) = true := by decide +kernel
  intro w hw
  have h1 := List.all_eq_true.mp h w hw
  simp only [Bool.and_eq_true, decide_eq_true_eq] at h1
  exact TBL_of h1.1 h1.2
theorem ins_X2 : ∀ w ∈ u_ws RX2 TX2 6, w ∈ TBL := by
  have h : (u_ws RX2 TX2 6).all (fun w => decide (w ∈ lw_tbl) && goodWord w) = true := by decide +kernel
  intro w hw
  have h1 := List.all_eq_true.mp h w hw
  simp only [Bool.and_eq_true, decide_eq_true_eq] at h1
  exact TBL_of h1.1 h1.2
theorem ins_X3 : ∀ w ∈ u_ws RX3 TX3 3, w ∈ TBL := by
  have h : (u_ws RX3 TX3 3).all (fun w => decide (w ∈ lw_tbl) && goodWord w) = true := by decide +kernel
  intro w hw
  have h1 := List.all_eq_true.mp h w hw
  simp only [Bool.and_eq_true, decide_eq_true_eq] at h1
  exact TBL_of h1.1 h1.2
theorem ins_X4 : ∀ w ∈ u_ws RX4 TX4 4, w ∈ TBL := by
  have h : (u_ws RX4 TX4 4).all (fun w => decide (w ∈ lw_tbl) && goodWord w) = true := by decide +kernel
  intro w hw
  have h1 := List.all_eq_true.mp h w hw
  simp only [Bool.and_eq_true, decide_eq_true_eq] at h1
  exact TBL_of h1.1 h1.2
theorem ins_X5 : ∀ w ∈ u_ws RX5 TX5 3, w ∈ TBL := by
  have h : (u_ws RX5 TX5 3).all (fun w => decide (w ∈ lw_tbl) && goodWord w) = true := by decide +kernel
  intro w hw
  have h1 := List.all_eq_true.mp h w hw
  simp only [Bool.and_eq_true, decide_eq_true_eq] at h1
  exact TBL_of h1.1 h1.2
theorem ins_X6 : ∀ w ∈ u_ws RX6 TX6 2, w ∈ TBL := by
  have h : (u_ws RX6 TX6 2).all (fun w => decide (w ∈ lw_tbl) && goodWord w) = true := by decide +kernel
  intro w hw
  have h1 := List.all_eq_true.mp h w hw
  simp only [Bool.and_eq_true, decide_eq_true_eq] at h1
  exact TBL_of h1.1 h1.2
theorem ins_X7 : ∀ w ∈ u_ws RX7 TX7 13, w ∈ TBL := by
  have h : (u_ws RX7 TX7 13).all (fun w => decide (w ∈ lw_tbl) && goodWord w) = true := by decide +kernel
  intro w hw
  have h1 := List.all_eq_true.mp h w hw
  simp only [Bool.and_eq_true, decide_eq_true_eq] at h1
  exact TBL_of h1.1 h1.2
theorem ins_J4 : ∀ w ∈ u_ws RJ4 TJ4 4, w ∈ TBL := by
  have h : (u_ws RJ4 TJ4 4).all (fun w => decide (w ∈ lw_tbl) && goodWord w) = true := by decide +kernel
  intro w hw
  have h1 := List.all_eq_true.mp h w hw
  simp only [Bool.and_eq_true, decide_eq_true_eq] at h1
  exact TBL_of h1.1 h1.2
theorem ins_Jx4a65c : ∀ w ∈ u_ws RJx4a65c TJx4a65c 3, w ∈ TBL := by
  have h : (u_ws RJx4a65c TJx4a65c 3).all (fun w => decide (w ∈ lw_tbl) && goodWord w) = true := by decide +kernel
  intro w hw
  have h1 := List.all_eq_true.mp h w hw
  simp only [Bool.and_eq_true, decide_eq_true_eq] at h1
  exact TBL_of h1.1 h1.2
theorem tx_0 : Cond.selects "java/lang/StringBuilder" yJ5_newCapacity_0f7a4 yJ5_newCapacity_0f7a4 ∈ TBL := TBL_ex 0 (by decide +kernel) (by decide +kernel)
theorem tx_1 : Cond.selects "java/lang/StringBuilder" yJ5_ensureCapacityInternal_d00df yJ5_ensureCapacityInternal_d00df ∈ TBL := TBL_ex 1 (by decide +kernel) (by decide +kernel)
theorem tx_2 : Cond.selects "java/lang/StringBuilder" yJ5_inflateIfNeededFor_a7421 yJ5_inflateIfNeededFor_a7421 ∈ TBL := TBL_ex 2 (by decide +kernel) (by decide +kernel)
theorem tx_3 : Cond.selects "java/lang/StringBuilder" yJ5_putStringAt_47b60 yJ5_putStringAt_47b60 ∈ TBL := TBL_ex 3 (by decide +kernel) (by decide +kernel)
