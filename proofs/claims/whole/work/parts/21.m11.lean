/-! methods 11. By program (wip/gen) out of the bytecode: vc_KEY: what must hold of a call; ct_KEY: then the machine does it. -/
theorem tw1245 : (Jvm.Cond.fieldLink "LeaseLandModel" (101 : Nat) "LeaseLandModel" "saleYears" "[I") ∈ mj_tbl := mj_w 1298 (by decide +kernel) (by decide +kernel)
theorem tk12 : mj_KC 12 (RX12, TX12, 54, tyX12) := ⟨rfl, fun w hw => List.mem_filter.mpr ⟨(goodIn_r (big := lw_tbl) (u_ws RX12 TX12 54) [1316, 1318, 1320, 1322, 1324, 1326, 1328, 1330, 1332, 1334, 1336, 1338, 1340, 1342, 1344, 1346, 1348, 1350, 1352, 1354, 1356, 1358, 1360, 1362, 1364, 1366, 1368, 1370, 1372, 1374, 1376, 1378, 1380, 1382, 1384, 1386, 1388, 1390, 1392, 1394, 1396, 1398, 1400, 1402, 1404, 1406, 1408, 1410, 1412, 1414, 1416, 1418, 1420, 1422] (by decide +kernel) (by decide +kernel) w hw).1, List.all_eq_true.mp (show (u_ws RX12 TX12 54).all goodWord = true by decide +kernel) w hw⟩, tyX12_ok, nmX12, by decide⟩
theorem tf_X12_101 : mj_F 12 36 (.array .int) true "LeaseLandModel" 101 := ⟨_, tk12, by decide, rfl, rfl, rfl, tw1245⟩
theorem tw1246 : (Jvm.Cond.fieldLink "LeaseLandModel" (104 : Nat) "LeaseLandModel" "saleIs" "[I") ∈ mj_tbl := mj_w 1299 (by decide +kernel) (by decide +kernel)
theorem tf_X12_104 : mj_F 12 37 (.array .int) true "LeaseLandModel" 104 := ⟨_, tk12, by decide, rfl, rfl, rfl, tw1246⟩
theorem tw1251 : (Jvm.Cond.fieldLink "LeaseLandModel" (107 : Nat) "LeaseLandModel" "yp" "I") ∈ mj_tbl := mj_w 1304 (by decide +kernel) (by decide +kernel)
theorem tf_X12_107 : mj_F 12 42 .int false "LeaseLandModel" 107 := ⟨_, tk12, by decide, rfl, rfl, rfl, tw1251⟩
theorem tw1252 : (Jvm.Cond.fieldLink "LeaseLandModel" (111 : Nat) "LeaseLandModel" "defer" "I") ∈ mj_tbl := mj_w 1305 (by decide +kernel) (by decide +kernel)
theorem tf_X12_111 : mj_F 12 43 .int false "LeaseLandModel" 111 := ⟨_, tk12, by decide, rfl, rfl, rfl, tw1252⟩
theorem tw1253 : (Jvm.Cond.fieldLink "LeaseLandModel" (114 : Nat) "LeaseLandModel" "losses" "[J") ∈ mj_tbl := mj_w 1306 (by decide +kernel) (by decide +kernel)
theorem tf_X12_114 : mj_F 12 44 (.array .long) true "LeaseLandModel" 114 := ⟨_, tk12, by decide, rfl, rfl, rfl, tw1253⟩
theorem tw1258 : (Jvm.Cond.fieldLink "LeaseLandModel" (118 : Nat) "LeaseLandModel" "lineName" "[I") ∈ mj_tbl := mj_w 1311 (by decide +kernel) (by decide +kernel)
theorem tf_X12_118 : mj_F 12 49 (.array .int) true "LeaseLandModel" 118 := ⟨_, tk12, by decide, rfl, rfl, rfl, tw1258⟩
theorem tw1259 : (Jvm.Cond.fieldLink "LeaseLandModel" (121 : Nat) "LeaseLandModel" "lineOf" "[I") ∈ mj_tbl := mj_w 1312 (by decide +kernel) (by decide +kernel)
theorem tf_X12_121 : mj_F 12 50 (.array .int) true "LeaseLandModel" 121 := ⟨_, tk12, by decide, rfl, rfl, rfl, tw1259⟩
theorem tw1260 : (Jvm.Cond.fieldLink "LeaseLandModel" (124 : Nat) "LeaseLandModel" "lineFrom" "[I") ∈ mj_tbl := mj_w 1313 (by decide +kernel) (by decide +kernel)
theorem tf_X12_124 : mj_F 12 51 (.array .int) true "LeaseLandModel" 124 := ⟨_, tk12, by decide, rfl, rfl, rfl, tw1260⟩
theorem tw1261 : (Jvm.Cond.fieldLink "LeaseLandModel" (127 : Nat) "LeaseLandModel" "lineTo" "[I") ∈ mj_tbl := mj_w 1314 (by decide +kernel) (by decide +kernel)
theorem tf_X12_127 : mj_F 12 52 (.array .int) true "LeaseLandModel" 127 := ⟨_, tk12, by decide, rfl, rfl, rfl, tw1261⟩
theorem tw1211 : (Jvm.Cond.fieldLink "LeaseLandModel" (13 : Nat) "LeaseLandModel" "floors" "[I") ∈ mj_tbl := mj_w 1264 (by decide +kernel) (by decide +kernel)
theorem tf_X12_13 : mj_F 12 2 (.array .int) true "LeaseLandModel" 13 := ⟨_, tk12, by decide, rfl, rfl, rfl, tw1211⟩
theorem tw1212 : (Jvm.Cond.fieldLink "LeaseLandModel" (16 : Nat) "LeaseLandModel" "from" "[I") ∈ mj_tbl := mj_w 1265 (by decide +kernel) (by decide +kernel)
theorem tf_X12_16 : mj_F 12 3 (.array .int) true "LeaseLandModel" 16 := ⟨_, tk12, by decide, rfl, rfl, rfl, tw1212⟩
theorem tw1213 : (Jvm.Cond.fieldLink "LeaseLandModel" (19 : Nat) "LeaseLandModel" "to" "[I") ∈ mj_tbl := mj_w 1266 (by decide +kernel) (by decide +kernel)
theorem tf_X12_19 : mj_F 12 4 (.array .int) true "LeaseLandModel" 19 := ⟨_, tk12, by decide, rfl, rfl, rfl, tw1213⟩
theorem tw1214 : (Jvm.Cond.fieldLink "LeaseLandModel" (22 : Nat) "LeaseLandModel" "ended" "[I") ∈ mj_tbl := mj_w 1267 (by decide +kernel) (by decide +kernel)
theorem tf_X12_22 : mj_F 12 5 (.array .int) true "LeaseLandModel" 22 := ⟨_, tk12, by decide, rfl, rfl, rfl, tw1214⟩
theorem tw1215 : (Jvm.Cond.fieldLink "LeaseLandModel" (25 : Nat) "LeaseLandModel" "way" "[I") ∈ mj_tbl := mj_w 1268 (by decide +kernel) (by decide +kernel)
theorem tf_X12_25 : mj_F 12 6 (.array .int) true "LeaseLandModel" 25 := ⟨_, tk12, by decide, rfl, rfl, rfl, tw1215⟩
theorem tw1216 : (Jvm.Cond.fieldLink "LeaseLandModel" (28 : Nat) "LeaseLandModel" "person" "[I") ∈ mj_tbl := mj_w 1269 (by decide +kernel) (by decide +kernel)
theorem tf_X12_28 : mj_F 12 7 (.array .int) true "LeaseLandModel" 28 := ⟨_, tk12, by decide, rfl, rfl, rfl, tw1216⟩
theorem tw1217 : (Jvm.Cond.fieldLink "LeaseLandModel" (31 : Nat) "LeaseLandModel" "since" "[I") ∈ mj_tbl := mj_w 1270 (by decide +kernel) (by decide +kernel)
theorem tf_X12_31 : mj_F 12 8 (.array .int) true "LeaseLandModel" 31 := ⟨_, tk12, by decide, rfl, rfl, rfl, tw1217⟩
theorem tw1218 : (Jvm.Cond.fieldLink "LeaseLandModel" (34 : Nat) "LeaseLandModel" "amount" "[I") ∈ mj_tbl := mj_w 1271 (by decide +kernel) (by decide +kernel)
theorem tf_X12_34 : mj_F 12 9 (.array .int) true "LeaseLandModel" 34 := ⟨_, tk12, by decide, rfl, rfl, rfl, tw1218⟩
theorem tw1219 : (Jvm.Cond.fieldLink "LeaseLandModel" (37 : Nat) "LeaseLandModel" "doubles" "[I") ∈ mj_tbl := mj_w 1272 (by decide +kernel) (by decide +kernel)
theorem tf_X12_37 : mj_F 12 10 (.array .int) true "LeaseLandModel" 37 := ⟨_, tk12, by decide, rfl, rfl, rfl, tw1219⟩
theorem tw1220 : (Jvm.Cond.fieldLink "LeaseLandModel" (40 : Nat) "LeaseLandModel" "breached" "[I") ∈ mj_tbl := mj_w 1273 (by decide +kernel) (by decide +kernel)
theorem tf_X12_40 : mj_F 12 11 (.array .int) true "LeaseLandModel" 40 := ⟨_, tk12, by decide, rfl, rfl, rfl, tw1220⟩
theorem tw1221 : (Jvm.Cond.fieldLink "LeaseLandModel" (43 : Nat) "LeaseLandModel" "fellWith" "[I") ∈ mj_tbl := mj_w 1274 (by decide +kernel) (by decide +kernel)
theorem tf_X12_43 : mj_F 12 12 (.array .int) true "LeaseLandModel" 43 := ⟨_, tk12, by decide, rfl, rfl, rfl, tw1221⟩
theorem tw1223 : (Jvm.Cond.fieldLink "LeaseLandModel" (46 : Nat) "LeaseLandModel" "weights" "[I") ∈ mj_tbl := mj_w 1276 (by decide +kernel) (by decide +kernel)
theorem tf_X12_46 : mj_F 12 14 (.array .int) true "LeaseLandModel" 46 := ⟨_, tk12, by decide, rfl, rfl, rfl, tw1223⟩
theorem tw1224 : (Jvm.Cond.fieldLink "LeaseLandModel" (49 : Nat) "LeaseLandModel" "lives" "[I") ∈ mj_tbl := mj_w 1277 (by decide +kernel) (by decide +kernel)
theorem tf_X12_49 : mj_F 12 15 (.array .int) true "LeaseLandModel" 49 := ⟨_, tk12, by decide, rfl, rfl, rfl, tw1224⟩
theorem tw1225 : (Jvm.Cond.fieldLink "LeaseLandModel" (52 : Nat) "LeaseLandModel" "signs" "[I") ∈ mj_tbl := mj_w 1278 (by decide +kernel) (by decide +kernel)
theorem tf_X12_52 : mj_F 12 16 (.array .int) true "LeaseLandModel" 52 := ⟨_, tk12, by decide, rfl, rfl, rfl, tw1225⟩
theorem tw1226 : (Jvm.Cond.fieldLink "LeaseLandModel" (55 : Nat) "LeaseLandModel" "signMany" "[I") ∈ mj_tbl := mj_w 1279 (by decide +kernel) (by decide +kernel)
theorem tf_X12_55 : mj_F 12 17 (.array .int) true "LeaseLandModel" 55 := ⟨_, tk12, by decide, rfl, rfl, rfl, tw1226⟩
theorem tw1227 : (Jvm.Cond.fieldLink "LeaseLandModel" (58 : Nat) "LeaseLandModel" "actKind" "[I") ∈ mj_tbl := mj_w 1280 (by decide +kernel) (by decide +kernel)
theorem tf_X12_58 : mj_F 12 18 (.array .int) true "LeaseLandModel" 58 := ⟨_, tk12, by decide, rfl, rfl, rfl, tw1227⟩
theorem tw1228 : (Jvm.Cond.fieldLink "LeaseLandModel" (61 : Nat) "LeaseLandModel" "actDay" "[I") ∈ mj_tbl := mj_w 1281 (by decide +kernel) (by decide +kernel)
theorem tf_X12_61 : mj_F 12 19 (.array .int) true "LeaseLandModel" 61 := ⟨_, tk12, by decide, rfl, rfl, rfl, tw1228⟩
theorem tw1230 : (Jvm.Cond.fieldLink "LeaseLandModel" (64 : Nat) "LeaseLandModel" "wasSo" "[Z") ∈ mj_tbl := mj_w 1283 (by decide +kernel) (by decide +kernel)
theorem tf_X12_64 : mj_F 12 21 (.array .boolean) true "LeaseLandModel" 64 := ⟨_, tk12, by decide, rfl, rfl, rfl, tw1230⟩
theorem tw1231 : (Jvm.Cond.fieldLink "LeaseLandModel" (68 : Nat) "LeaseLandModel" "isSo" "[Z") ∈ mj_tbl := mj_w 1284 (by decide +kernel) (by decide +kernel)
theorem tf_X12_68 : mj_F 12 22 (.array .boolean) true "LeaseLandModel" 68 := ⟨_, tk12, by decide, rfl, rfl, rfl, tw1231⟩
theorem tw1210 : (Jvm.Cond.fieldLink "LeaseLandModel" (7 : Nat) "LeaseLandModel" "outOf" "[I") ∈ mj_tbl := mj_w 1263 (by decide +kernel) (by decide +kernel)
theorem tf_X12_7 : mj_F 12 1 (.array .int) true "LeaseLandModel" 7 := ⟨_, tk12, by decide, rfl, rfl, rfl, tw1210⟩
theorem tw1232 : (Jvm.Cond.fieldLink "LeaseLandModel" (71 : Nat) "LeaseLandModel" "isTurned" "[Z") ∈ mj_tbl := mj_w 1285 (by decide +kernel) (by decide +kernel)
theorem tf_X12_71 : mj_F 12 23 (.array .boolean) true "LeaseLandModel" 71 := ⟨_, tk12, by decide, rfl, rfl, rfl, tw1232⟩
theorem tw1234 : (Jvm.Cond.fieldLink "LeaseLandModel" (74 : Nat) "LeaseLandModel" "noticeBy" "[I") ∈ mj_tbl := mj_w 1287 (by decide +kernel) (by decide +kernel)
theorem tf_X12_74 : mj_F 12 25 (.array .int) true "LeaseLandModel" 74 := ⟨_, tk12, by decide, rfl, rfl, rfl, tw1234⟩
theorem tw1235 : (Jvm.Cond.fieldLink "LeaseLandModel" (77 : Nat) "LeaseLandModel" "noticeKind" "[I") ∈ mj_tbl := mj_w 1288 (by decide +kernel) (by decide +kernel)
theorem tf_X12_77 : mj_F 12 26 (.array .int) true "LeaseLandModel" 77 := ⟨_, tk12, by decide, rfl, rfl, rfl, tw1235⟩
theorem tw1236 : (Jvm.Cond.fieldLink "LeaseLandModel" (80 : Nat) "LeaseLandModel" "noticeDay" "[I") ∈ mj_tbl := mj_w 1289 (by decide +kernel) (by decide +kernel)
theorem tf_X12_80 : mj_F 12 27 (.array .int) true "LeaseLandModel" 80 := ⟨_, tk12, by decide, rfl, rfl, rfl, tw1236⟩
theorem tw1237 : (Jvm.Cond.fieldLink "LeaseLandModel" (83 : Nat) "LeaseLandModel" "noticeIs" "[I") ∈ mj_tbl := mj_w 1290 (by decide +kernel) (by decide +kernel)
theorem tf_X12_83 : mj_F 12 28 (.array .int) true "LeaseLandModel" 83 := ⟨_, tk12, by decide, rfl, rfl, rfl, tw1237⟩
theorem tw1238 : (Jvm.Cond.fieldLink "LeaseLandModel" (86 : Nat) "LeaseLandModel" "noticeGone" "[I") ∈ mj_tbl := mj_w 1291 (by decide +kernel) (by decide +kernel)
theorem tf_X12_86 : mj_F 12 29 (.array .int) true "LeaseLandModel" 86 := ⟨_, tk12, by decide, rfl, rfl, rfl, tw1238⟩
theorem tw1240 : (Jvm.Cond.fieldLink "LeaseLandModel" (89 : Nat) "LeaseLandModel" "fellNow" "[Z") ∈ mj_tbl := mj_w 1293 (by decide +kernel) (by decide +kernel)
theorem tf_X12_89 : mj_F 12 31 (.array .boolean) true "LeaseLandModel" 89 := ⟨_, tk12, by decide, rfl, rfl, rfl, tw1240⟩
theorem tw1241 : (Jvm.Cond.fieldLink "LeaseLandModel" (92 : Nat) "LeaseLandModel" "values" "[I") ∈ mj_tbl := mj_w 1294 (by decide +kernel) (by decide +kernel)
theorem tf_X12_92 : mj_F 12 32 (.array .int) true "LeaseLandModel" 92 := ⟨_, tk12, by decide, rfl, rfl, rfl, tw1241⟩
theorem tw1242 : (Jvm.Cond.fieldLink "LeaseLandModel" (95 : Nat) "LeaseLandModel" "pointYears" "[I") ∈ mj_tbl := mj_w 1295 (by decide +kernel) (by decide +kernel)
theorem tf_X12_95 : mj_F 12 33 (.array .int) true "LeaseLandModel" 95 := ⟨_, tk12, by decide, rfl, rfl, rfl, tw1242⟩
theorem tw1243 : (Jvm.Cond.fieldLink "LeaseLandModel" (98 : Nat) "LeaseLandModel" "pointIs" "[I") ∈ mj_tbl := mj_w 1296 (by decide +kernel) (by decide +kernel)
theorem tf_X12_98 : mj_F 12 34 (.array .int) true "LeaseLandModel" 98 := ⟨_, tk12, by decide, rfl, rfl, rfl, tw1243⟩
theorem tw1208 : (Jvm.Cond.methodLink "LeaseLandModel" (1 : Nat) ({ cls := "java/lang/Object", name := "<init>", desc := "()V" } : Jvm.MethodName)) ∈ mj_tbl := mj_w 1261 (by decide +kernel) (by decide +kernel)
theorem tw1372 : (Jvm.Cond.arrayClass Jvm.ClassFile.FieldType.boolean) ∈ mj_tbl := mj_w 1425 (by decide +kernel) (by decide +kernel)
theorem tw1373 : (Jvm.Cond.arrayClass Jvm.ClassFile.FieldType.long) ∈ mj_tbl := mj_w 1426 (by decide +kernel) (by decide +kernel)
def rm_X12_init : Room := { frames := 1, cells := 37, slots := 1630, locals := 20 }
theorem dX12_init_0 : decode cX12_init 0 = .ok (.aload_n 0, 1) := by decide +kernel
theorem dX12_init_1 : decode cX12_init 1 = .ok (.invokespecial 1, 3) := by decide +kernel
theorem dX12_init_4 : decode cX12_init 4 = .ok (.aload_n 0, 1) := by decide +kernel
theorem dX12_init_5 : decode cX12_init 5 = .ok (.bipush 40, 2) := by decide +kernel
theorem dX12_init_7 : decode cX12_init 7 = .ok (.newarray .int, 2) := by decide +kernel
theorem dX12_init_9 : decode cX12_init 9 = .ok (.putfield 7, 3) := by decide +kernel
theorem dX12_init_12 : decode cX12_init 12 = .ok (.aload_n 0, 1) := by decide +kernel
theorem dX12_init_13 : decode cX12_init 13 = .ok (.bipush 40, 2) := by decide +kernel
theorem dX12_init_15 : decode cX12_init 15 = .ok (.newarray .int, 2) := by decide +kernel
theorem dX12_init_17 : decode cX12_init 17 = .ok (.putfield 13, 3) := by decide +kernel
theorem dX12_init_20 : decode cX12_init 20 = .ok (.aload_n 0, 1) := by decide +kernel
theorem dX12_init_21 : decode cX12_init 21 = .ok (.bipush 40, 2) := by decide +kernel
theorem dX12_init_23 : decode cX12_init 23 = .ok (.newarray .int, 2) := by decide +kernel
theorem dX12_init_25 : decode cX12_init 25 = .ok (.putfield 16, 3) := by decide +kernel
theorem dX12_init_28 : decode cX12_init 28 = .ok (.aload_n 0, 1) := by decide +kernel
theorem dX12_init_29 : decode cX12_init 29 = .ok (.bipush 40, 2) := by decide +kernel
theorem dX12_init_31 : decode cX12_init 31 = .ok (.newarray .int, 2) := by decide +kernel
theorem dX12_init_33 : decode cX12_init 33 = .ok (.putfield 19, 3) := by decide +kernel
theorem dX12_init_36 : decode cX12_init 36 = .ok (.aload_n 0, 1) := by decide +kernel
theorem dX12_init_37 : decode cX12_init 37 = .ok (.bipush 40, 2) := by decide +kernel
theorem dX12_init_39 : decode cX12_init 39 = .ok (.newarray .int, 2) := by decide +kernel
theorem dX12_init_41 : decode cX12_init 41 = .ok (.putfield 22, 3) := by decide +kernel
theorem dX12_init_44 : decode cX12_init 44 = .ok (.aload_n 0, 1) := by decide +kernel
theorem dX12_init_45 : decode cX12_init 45 = .ok (.bipush 40, 2) := by decide +kernel
theorem dX12_init_47 : decode cX12_init 47 = .ok (.newarray .int, 2) := by decide +kernel
theorem dX12_init_49 : decode cX12_init 49 = .ok (.putfield 25, 3) := by decide +kernel
theorem dX12_init_52 : decode cX12_init 52 = .ok (.aload_n 0, 1) := by decide +kernel
theorem dX12_init_53 : decode cX12_init 53 = .ok (.bipush 40, 2) := by decide +kernel
theorem dX12_init_55 : decode cX12_init 55 = .ok (.newarray .int, 2) := by decide +kernel
theorem dX12_init_57 : decode cX12_init 57 = .ok (.putfield 28, 3) := by decide +kernel
theorem dX12_init_60 : decode cX12_init 60 = .ok (.aload_n 0, 1) := by decide +kernel
theorem dX12_init_61 : decode cX12_init 61 = .ok (.bipush 40, 2) := by decide +kernel
theorem dX12_init_63 : decode cX12_init 63 = .ok (.newarray .int, 2) := by decide +kernel
theorem dX12_init_65 : decode cX12_init 65 = .ok (.putfield 31, 3) := by decide +kernel
theorem dX12_init_68 : decode cX12_init 68 = .ok (.aload_n 0, 1) := by decide +kernel
theorem dX12_init_69 : decode cX12_init 69 = .ok (.bipush 40, 2) := by decide +kernel
theorem dX12_init_71 : decode cX12_init 71 = .ok (.newarray .int, 2) := by decide +kernel
theorem dX12_init_73 : decode cX12_init 73 = .ok (.putfield 34, 3) := by decide +kernel
theorem dX12_init_76 : decode cX12_init 76 = .ok (.aload_n 0, 1) := by decide +kernel
theorem dX12_init_77 : decode cX12_init 77 = .ok (.bipush 40, 2) := by decide +kernel
theorem dX12_init_79 : decode cX12_init 79 = .ok (.newarray .int, 2) := by decide +kernel
theorem dX12_init_81 : decode cX12_init 81 = .ok (.putfield 37, 3) := by decide +kernel
theorem dX12_init_84 : decode cX12_init 84 = .ok (.aload_n 0, 1) := by decide +kernel
theorem dX12_init_85 : decode cX12_init 85 = .ok (.bipush 40, 2) := by decide +kernel
theorem dX12_init_87 : decode cX12_init 87 = .ok (.newarray .int, 2) := by decide +kernel
theorem dX12_init_89 : decode cX12_init 89 = .ok (.putfield 40, 3) := by decide +kernel
theorem dX12_init_92 : decode cX12_init 92 = .ok (.aload_n 0, 1) := by decide +kernel
theorem dX12_init_93 : decode cX12_init 93 = .ok (.bipush 40, 2) := by decide +kernel
theorem dX12_init_95 : decode cX12_init 95 = .ok (.newarray .int, 2) := by decide +kernel
theorem dX12_init_97 : decode cX12_init 97 = .ok (.putfield 43, 3) := by decide +kernel
theorem dX12_init_100 : decode cX12_init 100 = .ok (.aload_n 0, 1) := by decide +kernel
theorem dX12_init_101 : decode cX12_init 101 = .ok (.bipush 12, 2) := by decide +kernel
theorem dX12_init_103 : decode cX12_init 103 = .ok (.newarray .int, 2) := by decide +kernel
theorem dX12_init_105 : decode cX12_init 105 = .ok (.putfield 46, 3) := by decide +kernel
theorem dX12_init_108 : decode cX12_init 108 = .ok (.aload_n 0, 1) := by decide +kernel
theorem dX12_init_109 : decode cX12_init 109 = .ok (.bipush 10, 2) := by decide +kernel
theorem dX12_init_111 : decode cX12_init 111 = .ok (.newarray .int, 2) := by decide +kernel
theorem dX12_init_113 : decode cX12_init 113 = .ok (.putfield 49, 3) := by decide +kernel
theorem dX12_init_116 : decode cX12_init 116 = .ok (.aload_n 0, 1) := by decide +kernel
theorem dX12_init_117 : decode cX12_init 117 = .ok (.sipush 624, 3) := by decide +kernel
theorem dX12_init_120 : decode cX12_init 120 = .ok (.newarray .int, 2) := by decide +kernel
theorem dX12_init_122 : decode cX12_init 122 = .ok (.putfield 52, 3) := by decide +kernel
theorem dX12_init_125 : decode cX12_init 125 = .ok (.aload_n 0, 1) := by decide +kernel
theorem dX12_init_126 : decode cX12_init 126 = .ok (.bipush 13, 2) := by decide +kernel
theorem dX12_init_128 : decode cX12_init 128 = .ok (.newarray .int, 2) := by decide +kernel
theorem dX12_init_130 : decode cX12_init 130 = .ok (.putfield 55, 3) := by decide +kernel
theorem dX12_init_133 : decode cX12_init 133 = .ok (.aload_n 0, 1) := by decide +kernel
theorem dX12_init_134 : decode cX12_init 134 = .ok (.bipush 12, 2) := by decide +kernel
theorem dX12_init_136 : decode cX12_init 136 = .ok (.newarray .int, 2) := by decide +kernel
theorem dX12_init_138 : decode cX12_init 138 = .ok (.putfield 58, 3) := by decide +kernel
theorem dX12_init_141 : decode cX12_init 141 = .ok (.aload_n 0, 1) := by decide +kernel
theorem dX12_init_142 : decode cX12_init 142 = .ok (.bipush 12, 2) := by decide +kernel
theorem dX12_init_144 : decode cX12_init 144 = .ok (.newarray .int, 2) := by decide +kernel
theorem dX12_init_146 : decode cX12_init 146 = .ok (.putfield 61, 3) := by decide +kernel
theorem dX12_init_149 : decode cX12_init 149 = .ok (.aload_n 0, 1) := by decide +kernel
theorem dX12_init_150 : decode cX12_init 150 = .ok (.bipush 49, 2) := by decide +kernel
theorem dX12_init_152 : decode cX12_init 152 = .ok (.newarray .boolean, 2) := by decide +kernel
theorem dX12_init_154 : decode cX12_init 154 = .ok (.putfield 64, 3) := by decide +kernel
theorem dX12_init_157 : decode cX12_init 157 = .ok (.aload_n 0, 1) := by decide +kernel
theorem dX12_init_158 : decode cX12_init 158 = .ok (.bipush 49, 2) := by decide +kernel
theorem dX12_init_160 : decode cX12_init 160 = .ok (.newarray .boolean, 2) := by decide +kernel
theorem dX12_init_162 : decode cX12_init 162 = .ok (.putfield 68, 3) := by decide +kernel
theorem dX12_init_165 : decode cX12_init 165 = .ok (.aload_n 0, 1) := by decide +kernel
theorem dX12_init_166 : decode cX12_init 166 = .ok (.bipush 49, 2) := by decide +kernel
theorem dX12_init_168 : decode cX12_init 168 = .ok (.newarray .boolean, 2) := by decide +kernel
theorem dX12_init_170 : decode cX12_init 170 = .ok (.putfield 71, 3) := by decide +kernel
theorem dX12_init_173 : decode cX12_init 173 = .ok (.aload_n 0, 1) := by decide +kernel
theorem dX12_init_174 : decode cX12_init 174 = .ok (.bipush 24, 2) := by decide +kernel
theorem dX12_init_176 : decode cX12_init 176 = .ok (.newarray .int, 2) := by decide +kernel
theorem dX12_init_178 : decode cX12_init 178 = .ok (.putfield 74, 3) := by decide +kernel
theorem dX12_init_181 : decode cX12_init 181 = .ok (.aload_n 0, 1) := by decide +kernel
theorem dX12_init_182 : decode cX12_init 182 = .ok (.bipush 24, 2) := by decide +kernel
theorem dX12_init_184 : decode cX12_init 184 = .ok (.newarray .int, 2) := by decide +kernel
theorem dX12_init_186 : decode cX12_init 186 = .ok (.putfield 77, 3) := by decide +kernel
theorem dX12_init_189 : decode cX12_init 189 = .ok (.aload_n 0, 1) := by decide +kernel
theorem dX12_init_190 : decode cX12_init 190 = .ok (.bipush 24, 2) := by decide +kernel
theorem dX12_init_192 : decode cX12_init 192 = .ok (.newarray .int, 2) := by decide +kernel
theorem dX12_init_194 : decode cX12_init 194 = .ok (.putfield 80, 3) := by decide +kernel
theorem dX12_init_197 : decode cX12_init 197 = .ok (.aload_n 0, 1) := by decide +kernel
theorem dX12_init_198 : decode cX12_init 198 = .ok (.bipush 24, 2) := by decide +kernel
theorem dX12_init_200 : decode cX12_init 200 = .ok (.newarray .int, 2) := by decide +kernel
theorem dX12_init_202 : decode cX12_init 202 = .ok (.putfield 83, 3) := by decide +kernel
theorem dX12_init_205 : decode cX12_init 205 = .ok (.aload_n 0, 1) := by decide +kernel
theorem dX12_init_206 : decode cX12_init 206 = .ok (.bipush 24, 2) := by decide +kernel
theorem dX12_init_208 : decode cX12_init 208 = .ok (.newarray .int, 2) := by decide +kernel
theorem dX12_init_210 : decode cX12_init 210 = .ok (.putfield 86, 3) := by decide +kernel
theorem dX12_init_213 : decode cX12_init 213 = .ok (.aload_n 0, 1) := by decide +kernel
theorem dX12_init_214 : decode cX12_init 214 = .ok (.bipush 40, 2) := by decide +kernel
theorem dX12_init_216 : decode cX12_init 216 = .ok (.newarray .boolean, 2) := by decide +kernel
theorem dX12_init_218 : decode cX12_init 218 = .ok (.putfield 89, 3) := by decide +kernel
theorem dX12_init_221 : decode cX12_init 221 = .ok (.aload_n 0, 1) := by decide +kernel
theorem dX12_init_222 : decode cX12_init 222 = .ok (.bipush 12, 2) := by decide +kernel
theorem dX12_init_224 : decode cX12_init 224 = .ok (.newarray .int, 2) := by decide +kernel
theorem dX12_init_226 : decode cX12_init 226 = .ok (.putfield 92, 3) := by decide +kernel
theorem dX12_init_229 : decode cX12_init 229 = .ok (.aload_n 0, 1) := by decide +kernel
theorem dX12_init_230 : decode cX12_init 230 = .ok (.bipush 10, 2) := by decide +kernel
theorem dX12_init_232 : decode cX12_init 232 = .ok (.newarray .int, 2) := by decide +kernel
theorem dX12_init_234 : decode cX12_init 234 = .ok (.putfield 95, 3) := by decide +kernel
theorem dX12_init_237 : decode cX12_init 237 = .ok (.aload_n 0, 1) := by decide +kernel
theorem dX12_init_238 : decode cX12_init 238 = .ok (.bipush 10, 2) := by decide +kernel
theorem dX12_init_240 : decode cX12_init 240 = .ok (.newarray .int, 2) := by decide +kernel
theorem dX12_init_242 : decode cX12_init 242 = .ok (.putfield 98, 3) := by decide +kernel
theorem dX12_init_245 : decode cX12_init 245 = .ok (.aload_n 0, 1) := by decide +kernel
theorem dX12_init_246 : decode cX12_init 246 = .ok (.bipush 20, 2) := by decide +kernel
theorem dX12_init_248 : decode cX12_init 248 = .ok (.newarray .int, 2) := by decide +kernel
theorem dX12_init_250 : decode cX12_init 250 = .ok (.putfield 101, 3) := by decide +kernel
theorem dX12_init_253 : decode cX12_init 253 = .ok (.aload_n 0, 1) := by decide +kernel
theorem dX12_init_254 : decode cX12_init 254 = .ok (.bipush 20, 2) := by decide +kernel
theorem dX12_init_256 : decode cX12_init 256 = .ok (.newarray .int, 2) := by decide +kernel
theorem dX12_init_258 : decode cX12_init 258 = .ok (.putfield 104, 3) := by decide +kernel
theorem dX12_init_261 : decode cX12_init 261 = .ok (.aload_n 0, 1) := by decide +kernel
theorem dX12_init_262 : decode cX12_init 262 = .ok (.bipush 100, 2) := by decide +kernel
theorem dX12_init_264 : decode cX12_init 264 = .ok (.putfield 107, 3) := by decide +kernel
theorem dX12_init_267 : decode cX12_init 267 = .ok (.aload_n 0, 1) := by decide +kernel
theorem dX12_init_268 : decode cX12_init 268 = .ok (.bipush 50, 2) := by decide +kernel
theorem dX12_init_270 : decode cX12_init 270 = .ok (.putfield 111, 3) := by decide +kernel
theorem dX12_init_273 : decode cX12_init 273 = .ok (.aload_n 0, 1) := by decide +kernel
theorem dX12_init_274 : decode cX12_init 274 = .ok (.bipush 40, 2) := by decide +kernel
theorem dX12_init_276 : decode cX12_init 276 = .ok (.newarray .long, 2) := by decide +kernel
theorem dX12_init_278 : decode cX12_init 278 = .ok (.putfield 114, 3) := by decide +kernel
theorem dX12_init_281 : decode cX12_init 281 = .ok (.aload_n 0, 1) := by decide +kernel
theorem dX12_init_282 : decode cX12_init 282 = .ok (.bipush 12, 2) := by decide +kernel
theorem dX12_init_284 : decode cX12_init 284 = .ok (.newarray .int, 2) := by decide +kernel
theorem dX12_init_286 : decode cX12_init 286 = .ok (.putfield 118, 3) := by decide +kernel
theorem dX12_init_289 : decode cX12_init 289 = .ok (.aload_n 0, 1) := by decide +kernel
theorem dX12_init_290 : decode cX12_init 290 = .ok (.bipush 12, 2) := by decide +kernel
theorem dX12_init_292 : decode cX12_init 292 = .ok (.newarray .int, 2) := by decide +kernel
theorem dX12_init_294 : decode cX12_init 294 = .ok (.putfield 121, 3) := by decide +kernel
theorem dX12_init_297 : decode cX12_init 297 = .ok (.aload_n 0, 1) := by decide +kernel
theorem dX12_init_298 : decode cX12_init 298 = .ok (.bipush 12, 2) := by decide +kernel
theorem dX12_init_300 : decode cX12_init 300 = .ok (.newarray .int, 2) := by decide +kernel
theorem dX12_init_302 : decode cX12_init 302 = .ok (.putfield 124, 3) := by decide +kernel
theorem dX12_init_305 : decode cX12_init 305 = .ok (.aload_n 0, 1) := by decide +kernel
theorem dX12_init_306 : decode cX12_init 306 = .ok (.bipush 12, 2) := by decide +kernel
theorem dX12_init_308 : decode cX12_init 308 = .ok (.newarray .int, 2) := by decide +kernel
theorem dX12_init_310 : decode cX12_init 310 = .ok (.putfield 127, 3) := by decide +kernel
theorem dX12_init_313 : decode cX12_init 313 = .ok (.iconst 0, 1) := by decide +kernel
theorem dX12_init_314 : decode cX12_init 314 = .ok (.istore_n 1, 1) := by decide +kernel
theorem dX12_init_315 : decode cX12_init 315 = .ok (.iload_n 1, 1) := by decide +kernel
theorem dX12_init_316 : decode cX12_init 316 = .ok (.bipush 12, 2) := by decide +kernel
theorem dX12_init_318 : decode cX12_init 318 = .ok (.if_icmp .ge 16, 3) := by decide +kernel
theorem dX12_init_321 : decode cX12_init 321 = .ok (.aload_n 0, 1) := by decide +kernel
theorem dX12_init_322 : decode cX12_init 322 = .ok (.getfield 46, 3) := by decide +kernel
theorem dX12_init_325 : decode cX12_init 325 = .ok (.iload_n 1, 1) := by decide +kernel
theorem dX12_init_326 : decode cX12_init 326 = .ok (.iconst 1, 1) := by decide +kernel
theorem dX12_init_327 : decode cX12_init 327 = .ok (.iastore, 1) := by decide +kernel
theorem dX12_init_328 : decode cX12_init 328 = .ok (.iinc 1 1, 3) := by decide +kernel
theorem dX12_init_331 : decode cX12_init 331 = .ok (.goto (-16), 3) := by decide +kernel
theorem dX12_init_334 : decode cX12_init 334 = .ok (.iconst 0, 1) := by decide +kernel
theorem dX12_init_335 : decode cX12_init 335 = .ok (.istore_n 1, 1) := by decide +kernel
theorem dX12_init_336 : decode cX12_init 336 = .ok (.iload_n 1, 1) := by decide +kernel
theorem dX12_init_337 : decode cX12_init 337 = .ok (.bipush 10, 2) := by decide +kernel
theorem dX12_init_339 : decode cX12_init 339 = .ok (.if_icmp .ge 17, 3) := by decide +kernel
theorem dX12_init_342 : decode cX12_init 342 = .ok (.aload_n 0, 1) := by decide +kernel
theorem dX12_init_343 : decode cX12_init 343 = .ok (.getfield 49, 3) := by decide +kernel
theorem dX12_init_346 : decode cX12_init 346 = .ok (.iload_n 1, 1) := by decide +kernel
theorem dX12_init_347 : decode cX12_init 347 = .ok (.bipush (-6), 2) := by decide +kernel
theorem dX12_init_349 : decode cX12_init 349 = .ok (.iastore, 1) := by decide +kernel
theorem dX12_init_350 : decode cX12_init 350 = .ok (.iinc 1 1, 3) := by decide +kernel
theorem dX12_init_353 : decode cX12_init 353 = .ok (.goto (-17), 3) := by decide +kernel
theorem dX12_init_356 : decode cX12_init 356 = .ok (.return_, 1) := by decide +kernel
def vb_X12_init_336 (post : Unit → mj_M → Prop) : Nat → Nat → Int32 → mj_M → Prop
  | 0 => fun _ _ _ => False
  | f + 1 => fun l0 l1 M => if 10 ≤ l1 then (post () M) else (mj_tag M l0 = 13 ∧ mj_tag M (mj_r M l0 15) = 101 ∧ vp_in l1 (mj_len M (mj_r M l0 15)) ∧ vb_X12_init_336 post f l0 (l1 + 1) (mj_wi M (mj_r M l0 15) (l1 : Int32).toNatClampNeg ((-6))))
def vb_X12_init_315 (post : Unit → mj_M → Prop) : Nat → Nat → Int32 → mj_M → Prop
  | 0 => fun _ _ _ => False
  | f + 1 => fun l0 l1 M => if 12 ≤ l1 then (∃ fe, vb_X12_init_336 post fe l0 0 M) else (mj_tag M l0 = 13 ∧ mj_tag M (mj_r M l0 14) = 101 ∧ vp_in l1 (mj_len M (mj_r M l0 14)) ∧ vb_X12_init_315 post f l0 (l1 + 1) (mj_wi M (mj_r M l0 14) (l1 : Int32).toNatClampNeg 1))
def vc_X12_init (l0 : Nat) (M : mj_M) (post : Unit → mj_M → Prop) : Prop := (¬ l0 = 0) ∧ ∀ M10 : mj_M, M10 = mj_newa M 101 40 → mj_tag M10 l0 = 13 ∧ ∀ M13 : mj_M, M13 = mj_newa (mj_wr M10 l0 1 (mj_nx M)) 101 40 → mj_tag M13 l0 = 13 ∧ ∀ M16 : mj_M, M16 = mj_newa (mj_wr M13 l0 2 (mj_nx M10)) 101 40 → mj_tag M16 l0 = 13 ∧ ∀ M19 : mj_M, M19 = mj_newa (mj_wr M16 l0 3 (mj_nx M13)) 101 40 → mj_tag M19 l0 = 13 ∧ ∀ M22 : mj_M, M22 = mj_newa (mj_wr M19 l0 4 (mj_nx M16)) 101 40 → mj_tag M22 l0 = 13 ∧ ∀ M25 : mj_M, M25 = mj_newa (mj_wr M22 l0 5 (mj_nx M19)) 101 40 → mj_tag M25 l0 = 13 ∧ ∀ M28 : mj_M, M28 = mj_newa (mj_wr M25 l0 6 (mj_nx M22)) 101 40 → mj_tag M28 l0 = 13 ∧ ∀ M31 : mj_M, M31 = mj_newa (mj_wr M28 l0 7 (mj_nx M25)) 101 40 → mj_tag M31 l0 = 13 ∧ ∀ M34 : mj_M, M34 = mj_newa (mj_wr M31 l0 8 (mj_nx M28)) 101 40 → mj_tag M34 l0 = 13 ∧ ∀ M37 : mj_M, M37 = mj_newa (mj_wr M34 l0 9 (mj_nx M31)) 101 40 → mj_tag M37 l0 = 13 ∧ ∀ M40 : mj_M, M40 = mj_newa (mj_wr M37 l0 10 (mj_nx M34)) 101 40 → mj_tag M40 l0 = 13 ∧ ∀ M43 : mj_M, M43 = mj_newa (mj_wr M40 l0 11 (mj_nx M37)) 101 40 → mj_tag M43 l0 = 13 ∧ ∀ M46 : mj_M, M46 = mj_newa (mj_wr M43 l0 12 (mj_nx M40)) 101 12 → mj_tag M46 l0 = 13 ∧ ∀ M49 : mj_M, M49 = mj_newa (mj_wr M46 l0 14 (mj_nx M43)) 101 10 → mj_tag M49 l0 = 13 ∧ ∀ M52 : mj_M, M52 = mj_newa (mj_wr M49 l0 15 (mj_nx M46)) 101 624 → mj_tag M52 l0 = 13 ∧ ∀ M55 : mj_M, M55 = mj_newa (mj_wr M52 l0 16 (mj_nx M49)) 101 13 → mj_tag M55 l0 = 13 ∧ ∀ M58 : mj_M, M58 = mj_newa (mj_wr M55 l0 17 (mj_nx M52)) 101 12 → mj_tag M58 l0 = 13 ∧ ∀ M61 : mj_M, M61 = mj_newa (mj_wr M58 l0 18 (mj_nx M55)) 101 12 → mj_tag M61 l0 = 13 ∧ ∀ M64 : mj_M, M64 = mj_newa (mj_wr M61 l0 19 (mj_nx M58)) 103 49 → mj_tag M64 l0 = 13 ∧ ∀ M67 : mj_M, M67 = mj_newa (mj_wr M64 l0 21 (mj_nx M61)) 103 49 → mj_tag M67 l0 = 13 ∧ ∀ M70 : mj_M, M70 = mj_newa (mj_wr M67 l0 22 (mj_nx M64)) 103 49 → mj_tag M70 l0 = 13 ∧ ∀ M73 : mj_M, M73 = mj_newa (mj_wr M70 l0 23 (mj_nx M67)) 101 24 → mj_tag M73 l0 = 13 ∧ ∀ M76 : mj_M, M76 = mj_newa (mj_wr M73 l0 25 (mj_nx M70)) 101 24 → mj_tag M76 l0 = 13 ∧ ∀ M79 : mj_M, M79 = mj_newa (mj_wr M76 l0 26 (mj_nx M73)) 101 24 → mj_tag M79 l0 = 13 ∧ ∀ M82 : mj_M, M82 = mj_newa (mj_wr M79 l0 27 (mj_nx M76)) 101 24 → mj_tag M82 l0 = 13 ∧ ∀ M85 : mj_M, M85 = mj_newa (mj_wr M82 l0 28 (mj_nx M79)) 101 24 → mj_tag M85 l0 = 13 ∧ ∀ M88 : mj_M, M88 = mj_newa (mj_wr M85 l0 29 (mj_nx M82)) 103 40 → mj_tag M88 l0 = 13 ∧ ∀ M91 : mj_M, M91 = mj_newa (mj_wr M88 l0 31 (mj_nx M85)) 101 12 → mj_tag M91 l0 = 13 ∧ ∀ M94 : mj_M, M94 = mj_newa (mj_wr M91 l0 32 (mj_nx M88)) 101 10 → mj_tag M94 l0 = 13 ∧ ∀ M97 : mj_M, M97 = mj_newa (mj_wr M94 l0 33 (mj_nx M91)) 101 10 → mj_tag M97 l0 = 13 ∧ ∀ M100 : mj_M, M100 = mj_newa (mj_wr M97 l0 34 (mj_nx M94)) 101 20 → mj_tag M100 l0 = 13 ∧ ∀ M103 : mj_M, M103 = mj_newa (mj_wr M100 l0 36 (mj_nx M97)) 101 20 → mj_tag M103 l0 = 13 ∧ ∀ M106 : mj_M, M106 = mj_newa (mj_wi (mj_wi (mj_wr M103 l0 37 (mj_nx M100)) l0 42 100) l0 43 50) 102 40 → mj_tag M106 l0 = 13 ∧ ∀ M109 : mj_M, M109 = mj_newa (mj_wr M106 l0 44 (mj_nx M103)) 101 12 → mj_tag M109 l0 = 13 ∧ ∀ M112 : mj_M, M112 = mj_newa (mj_wr M109 l0 49 (mj_nx M106)) 101 12 → mj_tag M112 l0 = 13 ∧ ∀ M115 : mj_M, M115 = mj_newa (mj_wr M112 l0 50 (mj_nx M109)) 101 12 → mj_tag M115 l0 = 13 ∧ ∀ M118 : mj_M, M118 = mj_newa (mj_wr M115 l0 51 (mj_nx M112)) 101 12 → mj_tag M118 l0 = 13 ∧ ∃ fe, vb_X12_init_315 post fe l0 0 (mj_wr M118 l0 52 (mj_nx M115))
set_option maxHeartbeats 4000000 in
set_option maxRecDepth 100000 in
theorem xb_X12_init_336 {g : mj_G} {post : Unit → mj_M → Prop} (hC : mj_C g yX12_init cX12_init 2 (none) rm_X12_init) (hE : mj_E g mj_jV post 37 1630) : ∀ (f : Nat) (l0 : Nat) (l1 : Int32) (M : mj_M), vb_X12_init_336 post f l0 l1 M → mj_X g 336 [(0, vR l0), (1, vI l1)] [] M 37 1630 := by
  intro f
  induction f with
  | zero => exact fun _ _ _ h => absurd h (fun z => z)
  | succ f ih =>
    intro l0 l1 M h
    simp only [vb_X12_init_336] at h
    refine mx_iload_n (j := 1) hC dX12_init_336 rfl rfl ?_
    refine mx_bipush (v := 10) hC dX12_init_337 (by decide) ?_
    refine mx_icmpge (tgt := 356) hC dX12_init_339 (by decide) (fun hc1 => ?_) (fun hc1 => ?_)
    · replace h := mj_yy hc1 h
      exact mx_vret hC hE rfl dX12_init_356 h
    · replace h := mj_nn hc1 h
      refine mx_aload_n (j := 0) hC dX12_init_342 rfl rfl ?_
      obtain ⟨ht2, h⟩ := h
      refine mx_get (v := vR (mj_r M l0 15)) hC tf_X12_49 ht2 rfl dX12_init_343 ?_
      refine mx_iload_n (j := 1) hC dX12_init_346 rfl rfl ?_
      refine mx_bipush (v := (-6)) hC dX12_init_347 (by decide) ?_
      obtain ⟨ht3, h⟩ := h
      obtain ⟨hi4, h⟩ := h
      refine mx_iastore hC ht3 hi4 dX12_init_349 ?_
      refine mx_iinc (j := 1) (v := l1 + 1) (L' := [(1, vI (l1 + 1)), (0, vR l0)]) hC dX12_init_350 rfl rfl (by decide) rfl ?_
      refine mx_goto (tgt := 336) hC dX12_init_353 (by decide) ?_
      refine mx_sub (L' := [(0, vR l0), (1, vI (l1 + 1))]) [1, 0] rfl ?_
      exact show mj_X g 336 [(0, vR l0), (1, vI (l1 + 1))] [] (mj_wi M (mj_r M l0 15) (l1 : Int32).toNatClampNeg ((-6))) 37 1630 from (ih l0 (l1 + 1) (mj_wi M (mj_r M l0 15) (l1 : Int32).toNatClampNeg ((-6))) h)
set_option maxHeartbeats 4000000 in
set_option maxRecDepth 100000 in
theorem xb_X12_init_315 {g : mj_G} {post : Unit → mj_M → Prop} (hC : mj_C g yX12_init cX12_init 2 (none) rm_X12_init) (hE : mj_E g mj_jV post 37 1630) : ∀ (f : Nat) (l0 : Nat) (l1 : Int32) (M : mj_M), vb_X12_init_315 post f l0 l1 M → mj_X g 315 [(0, vR l0), (1, vI l1)] [] M 37 1630 := by
  intro f
  induction f with
  | zero => exact fun _ _ _ h => absurd h (fun z => z)
  | succ f ih =>
    intro l0 l1 M h
    simp only [vb_X12_init_315] at h
    refine mx_iload_n (j := 1) hC dX12_init_315 rfl rfl ?_
    refine mx_bipush (v := 12) hC dX12_init_316 (by decide) ?_
    refine mx_icmpge (tgt := 334) hC dX12_init_318 (by decide) (fun hc5 => ?_) (fun hc5 => ?_)
    · replace h := mj_yy hc5 h
      refine mx_iconst (v := 0) hC dX12_init_334 (by decide) ?_
      refine mx_istore_n (L' := [(1, vI 0), (0, vR l0)]) hC dX12_init_335 rfl (by decide) rfl ?_
      refine mx_sub (L' := [(0, vR l0), (1, vI 0)]) [1, 0] rfl ?_
      obtain ⟨fe, h⟩ := h
      exact show mj_X g 336 [(0, vR l0), (1, vI 0)] [] M 37 1630 from (xb_X12_init_336 hC hE fe l0 0 M h)
    · replace h := mj_nn hc5 h
      refine mx_aload_n (j := 0) hC dX12_init_321 rfl rfl ?_
      obtain ⟨ht6, h⟩ := h
      refine mx_get (v := vR (mj_r M l0 14)) hC tf_X12_46 ht6 rfl dX12_init_322 ?_
      refine mx_iload_n (j := 1) hC dX12_init_325 rfl rfl ?_
      refine mx_iconst (v := 1) hC dX12_init_326 (by decide) ?_
      obtain ⟨ht7, h⟩ := h
      obtain ⟨hi8, h⟩ := h
      refine mx_iastore hC ht7 hi8 dX12_init_327 ?_
      refine mx_iinc (j := 1) (v := l1 + 1) (L' := [(1, vI (l1 + 1)), (0, vR l0)]) hC dX12_init_328 rfl rfl (by decide) rfl ?_
      refine mx_goto (tgt := 315) hC dX12_init_331 (by decide) ?_
      refine mx_sub (L' := [(0, vR l0), (1, vI (l1 + 1))]) [1, 0] rfl ?_
      exact show mj_X g 315 [(0, vR l0), (1, vI (l1 + 1))] [] (mj_wi M (mj_r M l0 14) (l1 : Int32).toNatClampNeg 1) 37 1630 from (ih l0 (l1 + 1) (mj_wi M (mj_r M l0 14) (l1 : Int32).toNatClampNeg 1) h)
set_option maxHeartbeats 4000000 in
set_option maxRecDepth 100000 in
theorem ct_X12_init {l : Launch} {base : Nat} {D : va_G} {A : ClassId × ClassId × ClassId} (l0 : Nat) (M : mj_M) (post : Unit → mj_M → Prop) (h : vc_X12_init l0 M post) : mj_Met l base D A mj_jV yX12_init cX12_init 2 (none) rm_X12_init 37 1630 [vR l0] M post := by
  refine mj_entry (by decide +kernel) (Nat.le_of_ble_eq_true rfl) (fun g hC hE h1 h2 h3 h4 => ?_)
  show mj_X g 0 [(0, vR l0)] [] M 0 0
  simp only [vc_X12_init] at h
  refine mx_aload_n (j := 0) hC dX12_init_0 rfl rfl ?_
  obtain ⟨hn9, h⟩ := h
  refine mx_oinit hC tw1208 tw_oi tw_oc hn9 (Nat.le_of_ble_eq_true rfl) ⟨by decide, by decide⟩ dX12_init_1 ?_
  refine mx_aload_n (j := 0) hC dX12_init_4 rfl rfl ?_
  refine mx_bipush (v := 40) hC dX12_init_5 (by decide) ?_
  refine mx_newi (N := 40) (k' := 1) (n' := 40) hC tw63 (by decide) (by decide) (by decide) ⟨rfl, by decide, by decide, by decide⟩ dX12_init_7 ?_
  obtain ⟨M10, eM10⟩ : ∃ z : mj_M, z = mj_newa M 101 40 := ⟨_, rfl⟩
  replace h := h M10 eM10
  have ht11 : mj_tag M10 (mj_nx M) = 101 := by rw [eM10]; exact mj_u1_at _
  refine mx_setM eM10.symm ?_
  obtain ⟨ht12, h⟩ := h
  refine mx_put (v := vR (mj_nx M)) (M1 := mj_wr M10 l0 1 (mj_nx M)) hC tf_X12_7 ht12 (Or.inr ⟨rfl, rfl⟩) (mj_fitA (mj_nx M) _) (mj_off_wr _ _ _ _) mj_put_wa dX12_init_9 ?_
  refine mx_aload_n (j := 0) hC dX12_init_12 rfl rfl ?_
  refine mx_bipush (v := 40) hC dX12_init_13 (by decide) ?_
  refine mx_newi (N := 40) (k' := 2) (n' := 80) hC tw63 (by decide) (by decide) (by decide) ⟨rfl, by decide, by decide, by decide⟩ dX12_init_15 ?_
  obtain ⟨M13, eM13⟩ : ∃ z : mj_M, z = mj_newa (mj_wr M10 l0 1 (mj_nx M)) 101 40 := ⟨_, rfl⟩
  replace h := h M13 eM13
  have ht14 : mj_tag M13 (mj_nx M10) = 101 := by rw [eM13]; exact mj_u1_at _
  refine mx_setM eM13.symm ?_
  obtain ⟨ht15, h⟩ := h
  refine mx_put (v := vR (mj_nx M10)) (M1 := mj_wr M13 l0 2 (mj_nx M10)) hC tf_X12_13 ht15 (Or.inr ⟨rfl, rfl⟩) (mj_fitA (mj_nx M10) _) (mj_off_wr _ _ _ _) mj_put_wa dX12_init_17 ?_
  refine mx_aload_n (j := 0) hC dX12_init_20 rfl rfl ?_
  refine mx_bipush (v := 40) hC dX12_init_21 (by decide) ?_
  refine mx_newi (N := 40) (k' := 3) (n' := 120) hC tw63 (by decide) (by decide) (by decide) ⟨rfl, by decide, by decide, by decide⟩ dX12_init_23 ?_
  obtain ⟨M16, eM16⟩ : ∃ z : mj_M, z = mj_newa (mj_wr M13 l0 2 (mj_nx M10)) 101 40 := ⟨_, rfl⟩
  replace h := h M16 eM16
  have ht17 : mj_tag M16 (mj_nx M13) = 101 := by rw [eM16]; exact mj_u1_at _
  refine mx_setM eM16.symm ?_
  obtain ⟨ht18, h⟩ := h
  refine mx_put (v := vR (mj_nx M13)) (M1 := mj_wr M16 l0 3 (mj_nx M13)) hC tf_X12_16 ht18 (Or.inr ⟨rfl, rfl⟩) (mj_fitA (mj_nx M13) _) (mj_off_wr _ _ _ _) mj_put_wa dX12_init_25 ?_
  refine mx_aload_n (j := 0) hC dX12_init_28 rfl rfl ?_
  refine mx_bipush (v := 40) hC dX12_init_29 (by decide) ?_
  refine mx_newi (N := 40) (k' := 4) (n' := 160) hC tw63 (by decide) (by decide) (by decide) ⟨rfl, by decide, by decide, by decide⟩ dX12_init_31 ?_
  obtain ⟨M19, eM19⟩ : ∃ z : mj_M, z = mj_newa (mj_wr M16 l0 3 (mj_nx M13)) 101 40 := ⟨_, rfl⟩
  replace h := h M19 eM19
  have ht20 : mj_tag M19 (mj_nx M16) = 101 := by rw [eM19]; exact mj_u1_at _
  refine mx_setM eM19.symm ?_
  obtain ⟨ht21, h⟩ := h
  refine mx_put (v := vR (mj_nx M16)) (M1 := mj_wr M19 l0 4 (mj_nx M16)) hC tf_X12_19 ht21 (Or.inr ⟨rfl, rfl⟩) (mj_fitA (mj_nx M16) _) (mj_off_wr _ _ _ _) mj_put_wa dX12_init_33 ?_
  refine mx_aload_n (j := 0) hC dX12_init_36 rfl rfl ?_
  refine mx_bipush (v := 40) hC dX12_init_37 (by decide) ?_
  refine mx_newi (N := 40) (k' := 5) (n' := 200) hC tw63 (by decide) (by decide) (by decide) ⟨rfl, by decide, by decide, by decide⟩ dX12_init_39 ?_
  obtain ⟨M22, eM22⟩ : ∃ z : mj_M, z = mj_newa (mj_wr M19 l0 4 (mj_nx M16)) 101 40 := ⟨_, rfl⟩
  replace h := h M22 eM22
  have ht23 : mj_tag M22 (mj_nx M19) = 101 := by rw [eM22]; exact mj_u1_at _
  refine mx_setM eM22.symm ?_
  obtain ⟨ht24, h⟩ := h
  refine mx_put (v := vR (mj_nx M19)) (M1 := mj_wr M22 l0 5 (mj_nx M19)) hC tf_X12_22 ht24 (Or.inr ⟨rfl, rfl⟩) (mj_fitA (mj_nx M19) _) (mj_off_wr _ _ _ _) mj_put_wa dX12_init_41 ?_
  refine mx_aload_n (j := 0) hC dX12_init_44 rfl rfl ?_
  refine mx_bipush (v := 40) hC dX12_init_45 (by decide) ?_
  refine mx_newi (N := 40) (k' := 6) (n' := 240) hC tw63 (by decide) (by decide) (by decide) ⟨rfl, by decide, by decide, by decide⟩ dX12_init_47 ?_
  obtain ⟨M25, eM25⟩ : ∃ z : mj_M, z = mj_newa (mj_wr M22 l0 5 (mj_nx M19)) 101 40 := ⟨_, rfl⟩
  replace h := h M25 eM25
  have ht26 : mj_tag M25 (mj_nx M22) = 101 := by rw [eM25]; exact mj_u1_at _
  refine mx_setM eM25.symm ?_
  obtain ⟨ht27, h⟩ := h
  refine mx_put (v := vR (mj_nx M22)) (M1 := mj_wr M25 l0 6 (mj_nx M22)) hC tf_X12_25 ht27 (Or.inr ⟨rfl, rfl⟩) (mj_fitA (mj_nx M22) _) (mj_off_wr _ _ _ _) mj_put_wa dX12_init_49 ?_
  refine mx_aload_n (j := 0) hC dX12_init_52 rfl rfl ?_
  refine mx_bipush (v := 40) hC dX12_init_53 (by decide) ?_
  refine mx_newi (N := 40) (k' := 7) (n' := 280) hC tw63 (by decide) (by decide) (by decide) ⟨rfl, by decide, by decide, by decide⟩ dX12_init_55 ?_
  obtain ⟨M28, eM28⟩ : ∃ z : mj_M, z = mj_newa (mj_wr M25 l0 6 (mj_nx M22)) 101 40 := ⟨_, rfl⟩
  replace h := h M28 eM28
  have ht29 : mj_tag M28 (mj_nx M25) = 101 := by rw [eM28]; exact mj_u1_at _
  refine mx_setM eM28.symm ?_
  obtain ⟨ht30, h⟩ := h
  refine mx_put (v := vR (mj_nx M25)) (M1 := mj_wr M28 l0 7 (mj_nx M25)) hC tf_X12_28 ht30 (Or.inr ⟨rfl, rfl⟩) (mj_fitA (mj_nx M25) _) (mj_off_wr _ _ _ _) mj_put_wa dX12_init_57 ?_
  refine mx_aload_n (j := 0) hC dX12_init_60 rfl rfl ?_
  refine mx_bipush (v := 40) hC dX12_init_61 (by decide) ?_
  refine mx_newi (N := 40) (k' := 8) (n' := 320) hC tw63 (by decide) (by decide) (by decide) ⟨rfl, by decide, by decide, by decide⟩ dX12_init_63 ?_
  obtain ⟨M31, eM31⟩ : ∃ z : mj_M, z = mj_newa (mj_wr M28 l0 7 (mj_nx M25)) 101 40 := ⟨_, rfl⟩
  replace h := h M31 eM31
  have ht32 : mj_tag M31 (mj_nx M28) = 101 := by rw [eM31]; exact mj_u1_at _
  refine mx_setM eM31.symm ?_
  obtain ⟨ht33, h⟩ := h
  refine mx_put (v := vR (mj_nx M28)) (M1 := mj_wr M31 l0 8 (mj_nx M28)) hC tf_X12_31 ht33 (Or.inr ⟨rfl, rfl⟩) (mj_fitA (mj_nx M28) _) (mj_off_wr _ _ _ _) mj_put_wa dX12_init_65 ?_
  refine mx_aload_n (j := 0) hC dX12_init_68 rfl rfl ?_
  refine mx_bipush (v := 40) hC dX12_init_69 (by decide) ?_
  refine mx_newi (N := 40) (k' := 9) (n' := 360) hC tw63 (by decide) (by decide) (by decide) ⟨rfl, by decide, by decide, by decide⟩ dX12_init_71 ?_
  obtain ⟨M34, eM34⟩ : ∃ z : mj_M, z = mj_newa (mj_wr M31 l0 8 (mj_nx M28)) 101 40 := ⟨_, rfl⟩
  replace h := h M34 eM34
  have ht35 : mj_tag M34 (mj_nx M31) = 101 := by rw [eM34]; exact mj_u1_at _
  refine mx_setM eM34.symm ?_
  obtain ⟨ht36, h⟩ := h
  refine mx_put (v := vR (mj_nx M31)) (M1 := mj_wr M34 l0 9 (mj_nx M31)) hC tf_X12_34 ht36 (Or.inr ⟨rfl, rfl⟩) (mj_fitA (mj_nx M31) _) (mj_off_wr _ _ _ _) mj_put_wa dX12_init_73 ?_
  refine mx_aload_n (j := 0) hC dX12_init_76 rfl rfl ?_
  refine mx_bipush (v := 40) hC dX12_init_77 (by decide) ?_
  refine mx_newi (N := 40) (k' := 10) (n' := 400) hC tw63 (by decide) (by decide) (by decide) ⟨rfl, by decide, by decide, by decide⟩ dX12_init_79 ?_
  obtain ⟨M37, eM37⟩ : ∃ z : mj_M, z = mj_newa (mj_wr M34 l0 9 (mj_nx M31)) 101 40 := ⟨_, rfl⟩
  replace h := h M37 eM37
  have ht38 : mj_tag M37 (mj_nx M34) = 101 := by rw [eM37]; exact mj_u1_at _
  refine mx_setM eM37.symm ?_
  obtain ⟨ht39, h⟩ := h
  refine mx_put (v := vR (mj_nx M34)) (M1 := mj_wr M37 l0 10 (mj_nx M34)) hC tf_X12_37 ht39 (Or.inr ⟨rfl, rfl⟩) (mj_fitA (mj_nx M34) _) (mj_off_wr _ _ _ _) mj_put_wa dX12_init_81 ?_
  refine mx_aload_n (j := 0) hC dX12_init_84 rfl rfl ?_
  refine mx_bipush (v := 40) hC dX12_init_85 (by decide) ?_
  refine mx_newi (N := 40) (k' := 11) (n' := 440) hC tw63 (by decide) (by decide) (by decide) ⟨rfl, by decide, by decide, by decide⟩ dX12_init_87 ?_
  obtain ⟨M40, eM40⟩ : ∃ z : mj_M, z = mj_newa (mj_wr M37 l0 10 (mj_nx M34)) 101 40 := ⟨_, rfl⟩
  replace h := h M40 eM40
  have ht41 : mj_tag M40 (mj_nx M37) = 101 := by rw [eM40]; exact mj_u1_at _
  refine mx_setM eM40.symm ?_
  obtain ⟨ht42, h⟩ := h
  refine mx_put (v := vR (mj_nx M37)) (M1 := mj_wr M40 l0 11 (mj_nx M37)) hC tf_X12_40 ht42 (Or.inr ⟨rfl, rfl⟩) (mj_fitA (mj_nx M37) _) (mj_off_wr _ _ _ _) mj_put_wa dX12_init_89 ?_
  refine mx_aload_n (j := 0) hC dX12_init_92 rfl rfl ?_
  refine mx_bipush (v := 40) hC dX12_init_93 (by decide) ?_
  refine mx_newi (N := 40) (k' := 12) (n' := 480) hC tw63 (by decide) (by decide) (by decide) ⟨rfl, by decide, by decide, by decide⟩ dX12_init_95 ?_
  obtain ⟨M43, eM43⟩ : ∃ z : mj_M, z = mj_newa (mj_wr M40 l0 11 (mj_nx M37)) 101 40 := ⟨_, rfl⟩
  replace h := h M43 eM43
  have ht44 : mj_tag M43 (mj_nx M40) = 101 := by rw [eM43]; exact mj_u1_at _
  refine mx_setM eM43.symm ?_
  obtain ⟨ht45, h⟩ := h
  refine mx_put (v := vR (mj_nx M40)) (M1 := mj_wr M43 l0 12 (mj_nx M40)) hC tf_X12_43 ht45 (Or.inr ⟨rfl, rfl⟩) (mj_fitA (mj_nx M40) _) (mj_off_wr _ _ _ _) mj_put_wa dX12_init_97 ?_
  refine mx_aload_n (j := 0) hC dX12_init_100 rfl rfl ?_
  refine mx_bipush (v := 12) hC dX12_init_101 (by decide) ?_
  refine mx_newi (N := 12) (k' := 13) (n' := 492) hC tw63 (by decide) (by decide) (by decide) ⟨rfl, by decide, by decide, by decide⟩ dX12_init_103 ?_
  obtain ⟨M46, eM46⟩ : ∃ z : mj_M, z = mj_newa (mj_wr M43 l0 12 (mj_nx M40)) 101 12 := ⟨_, rfl⟩
  replace h := h M46 eM46
  have ht47 : mj_tag M46 (mj_nx M43) = 101 := by rw [eM46]; exact mj_u1_at _
  refine mx_setM eM46.symm ?_
  obtain ⟨ht48, h⟩ := h
  refine mx_put (v := vR (mj_nx M43)) (M1 := mj_wr M46 l0 14 (mj_nx M43)) hC tf_X12_46 ht48 (Or.inr ⟨rfl, rfl⟩) (mj_fitA (mj_nx M43) _) (mj_off_wr _ _ _ _) mj_put_wa dX12_init_105 ?_
  refine mx_aload_n (j := 0) hC dX12_init_108 rfl rfl ?_
  refine mx_bipush (v := 10) hC dX12_init_109 (by decide) ?_
  refine mx_newi (N := 10) (k' := 14) (n' := 502) hC tw63 (by decide) (by decide) (by decide) ⟨rfl, by decide, by decide, by decide⟩ dX12_init_111 ?_
  obtain ⟨M49, eM49⟩ : ∃ z : mj_M, z = mj_newa (mj_wr M46 l0 14 (mj_nx M43)) 101 10 := ⟨_, rfl⟩
  replace h := h M49 eM49
  have ht50 : mj_tag M49 (mj_nx M46) = 101 := by rw [eM49]; exact mj_u1_at _
  refine mx_setM eM49.symm ?_
  obtain ⟨ht51, h⟩ := h
  refine mx_put (v := vR (mj_nx M46)) (M1 := mj_wr M49 l0 15 (mj_nx M46)) hC tf_X12_49 ht51 (Or.inr ⟨rfl, rfl⟩) (mj_fitA (mj_nx M46) _) (mj_off_wr _ _ _ _) mj_put_wa dX12_init_113 ?_
  refine mx_aload_n (j := 0) hC dX12_init_116 rfl rfl ?_
  refine mx_sipush (v := 624) hC dX12_init_117 (by decide) ?_
  refine mx_newi (N := 624) (k' := 15) (n' := 1126) hC tw63 (by decide) (by decide) (by decide) ⟨rfl, by decide, by decide, by decide⟩ dX12_init_120 ?_
  obtain ⟨M52, eM52⟩ : ∃ z : mj_M, z = mj_newa (mj_wr M49 l0 15 (mj_nx M46)) 101 624 := ⟨_, rfl⟩
  replace h := h M52 eM52
  have ht53 : mj_tag M52 (mj_nx M49) = 101 := by rw [eM52]; exact mj_u1_at _
  refine mx_setM eM52.symm ?_
  obtain ⟨ht54, h⟩ := h
  refine mx_put (v := vR (mj_nx M49)) (M1 := mj_wr M52 l0 16 (mj_nx M49)) hC tf_X12_52 ht54 (Or.inr ⟨rfl, rfl⟩) (mj_fitA (mj_nx M49) _) (mj_off_wr _ _ _ _) mj_put_wa dX12_init_122 ?_
  refine mx_aload_n (j := 0) hC dX12_init_125 rfl rfl ?_
  refine mx_bipush (v := 13) hC dX12_init_126 (by decide) ?_
  refine mx_newi (N := 13) (k' := 16) (n' := 1139) hC tw63 (by decide) (by decide) (by decide) ⟨rfl, by decide, by decide, by decide⟩ dX12_init_128 ?_
  obtain ⟨M55, eM55⟩ : ∃ z : mj_M, z = mj_newa (mj_wr M52 l0 16 (mj_nx M49)) 101 13 := ⟨_, rfl⟩
  replace h := h M55 eM55
  have ht56 : mj_tag M55 (mj_nx M52) = 101 := by rw [eM55]; exact mj_u1_at _
  refine mx_setM eM55.symm ?_
  obtain ⟨ht57, h⟩ := h
  refine mx_put (v := vR (mj_nx M52)) (M1 := mj_wr M55 l0 17 (mj_nx M52)) hC tf_X12_55 ht57 (Or.inr ⟨rfl, rfl⟩) (mj_fitA (mj_nx M52) _) (mj_off_wr _ _ _ _) mj_put_wa dX12_init_130 ?_
  refine mx_aload_n (j := 0) hC dX12_init_133 rfl rfl ?_
  refine mx_bipush (v := 12) hC dX12_init_134 (by decide) ?_
  refine mx_newi (N := 12) (k' := 17) (n' := 1151) hC tw63 (by decide) (by decide) (by decide) ⟨rfl, by decide, by decide, by decide⟩ dX12_init_136 ?_
  obtain ⟨M58, eM58⟩ : ∃ z : mj_M, z = mj_newa (mj_wr M55 l0 17 (mj_nx M52)) 101 12 := ⟨_, rfl⟩
  replace h := h M58 eM58
  have ht59 : mj_tag M58 (mj_nx M55) = 101 := by rw [eM58]; exact mj_u1_at _
  refine mx_setM eM58.symm ?_
  obtain ⟨ht60, h⟩ := h
  refine mx_put (v := vR (mj_nx M55)) (M1 := mj_wr M58 l0 18 (mj_nx M55)) hC tf_X12_58 ht60 (Or.inr ⟨rfl, rfl⟩) (mj_fitA (mj_nx M55) _) (mj_off_wr _ _ _ _) mj_put_wa dX12_init_138 ?_
  refine mx_aload_n (j := 0) hC dX12_init_141 rfl rfl ?_
  refine mx_bipush (v := 12) hC dX12_init_142 (by decide) ?_
  refine mx_newi (N := 12) (k' := 18) (n' := 1163) hC tw63 (by decide) (by decide) (by decide) ⟨rfl, by decide, by decide, by decide⟩ dX12_init_144 ?_
  obtain ⟨M61, eM61⟩ : ∃ z : mj_M, z = mj_newa (mj_wr M58 l0 18 (mj_nx M55)) 101 12 := ⟨_, rfl⟩
  replace h := h M61 eM61
  have ht62 : mj_tag M61 (mj_nx M58) = 101 := by rw [eM61]; exact mj_u1_at _
  refine mx_setM eM61.symm ?_
  obtain ⟨ht63, h⟩ := h
  refine mx_put (v := vR (mj_nx M58)) (M1 := mj_wr M61 l0 19 (mj_nx M58)) hC tf_X12_61 ht63 (Or.inr ⟨rfl, rfl⟩) (mj_fitA (mj_nx M58) _) (mj_off_wr _ _ _ _) mj_put_wa dX12_init_146 ?_
  refine mx_aload_n (j := 0) hC dX12_init_149 rfl rfl ?_
  refine mx_bipush (v := 49) hC dX12_init_150 (by decide) ?_
  refine mx_newz (N := 49) (k' := 19) (n' := 1212) hC tw1372 (by decide) (by decide) (by decide) ⟨rfl, by decide, by decide, by decide⟩ dX12_init_152 ?_
  obtain ⟨M64, eM64⟩ : ∃ z : mj_M, z = mj_newa (mj_wr M61 l0 19 (mj_nx M58)) 103 49 := ⟨_, rfl⟩
  replace h := h M64 eM64
  have ht65 : mj_tag M64 (mj_nx M61) = 103 := by rw [eM64]; exact mj_u1_at _
  refine mx_setM eM64.symm ?_
  obtain ⟨ht66, h⟩ := h
  refine mx_put (v := vR (mj_nx M61)) (M1 := mj_wr M64 l0 21 (mj_nx M61)) hC tf_X12_64 ht66 (Or.inr ⟨rfl, rfl⟩) (mj_fitA (mj_nx M61) _) (mj_off_wr _ _ _ _) mj_put_wa dX12_init_154 ?_
  refine mx_aload_n (j := 0) hC dX12_init_157 rfl rfl ?_
  refine mx_bipush (v := 49) hC dX12_init_158 (by decide) ?_
  refine mx_newz (N := 49) (k' := 20) (n' := 1261) hC tw1372 (by decide) (by decide) (by decide) ⟨rfl, by decide, by decide, by decide⟩ dX12_init_160 ?_
  obtain ⟨M67, eM67⟩ : ∃ z : mj_M, z = mj_newa (mj_wr M64 l0 21 (mj_nx M61)) 103 49 := ⟨_, rfl⟩
  replace h := h M67 eM67
  have ht68 : mj_tag M67 (mj_nx M64) = 103 := by rw [eM67]; exact mj_u1_at _
  refine mx_setM eM67.symm ?_
  obtain ⟨ht69, h⟩ := h
  refine mx_put (v := vR (mj_nx M64)) (M1 := mj_wr M67 l0 22 (mj_nx M64)) hC tf_X12_68 ht69 (Or.inr ⟨rfl, rfl⟩) (mj_fitA (mj_nx M64) _) (mj_off_wr _ _ _ _) mj_put_wa dX12_init_162 ?_
  refine mx_aload_n (j := 0) hC dX12_init_165 rfl rfl ?_
  refine mx_bipush (v := 49) hC dX12_init_166 (by decide) ?_
  refine mx_newz (N := 49) (k' := 21) (n' := 1310) hC tw1372 (by decide) (by decide) (by decide) ⟨rfl, by decide, by decide, by decide⟩ dX12_init_168 ?_
  obtain ⟨M70, eM70⟩ : ∃ z : mj_M, z = mj_newa (mj_wr M67 l0 22 (mj_nx M64)) 103 49 := ⟨_, rfl⟩
  replace h := h M70 eM70
  have ht71 : mj_tag M70 (mj_nx M67) = 103 := by rw [eM70]; exact mj_u1_at _
  refine mx_setM eM70.symm ?_
  obtain ⟨ht72, h⟩ := h
  refine mx_put (v := vR (mj_nx M67)) (M1 := mj_wr M70 l0 23 (mj_nx M67)) hC tf_X12_71 ht72 (Or.inr ⟨rfl, rfl⟩) (mj_fitA (mj_nx M67) _) (mj_off_wr _ _ _ _) mj_put_wa dX12_init_170 ?_
  refine mx_aload_n (j := 0) hC dX12_init_173 rfl rfl ?_
  refine mx_bipush (v := 24) hC dX12_init_174 (by decide) ?_
  refine mx_newi (N := 24) (k' := 22) (n' := 1334) hC tw63 (by decide) (by decide) (by decide) ⟨rfl, by decide, by decide, by decide⟩ dX12_init_176 ?_
  obtain ⟨M73, eM73⟩ : ∃ z : mj_M, z = mj_newa (mj_wr M70 l0 23 (mj_nx M67)) 101 24 := ⟨_, rfl⟩
  replace h := h M73 eM73
  have ht74 : mj_tag M73 (mj_nx M70) = 101 := by rw [eM73]; exact mj_u1_at _
  refine mx_setM eM73.symm ?_
  obtain ⟨ht75, h⟩ := h
  refine mx_put (v := vR (mj_nx M70)) (M1 := mj_wr M73 l0 25 (mj_nx M70)) hC tf_X12_74 ht75 (Or.inr ⟨rfl, rfl⟩) (mj_fitA (mj_nx M70) _) (mj_off_wr _ _ _ _) mj_put_wa dX12_init_178 ?_
  refine mx_aload_n (j := 0) hC dX12_init_181 rfl rfl ?_
  refine mx_bipush (v := 24) hC dX12_init_182 (by decide) ?_
  refine mx_newi (N := 24) (k' := 23) (n' := 1358) hC tw63 (by decide) (by decide) (by decide) ⟨rfl, by decide, by decide, by decide⟩ dX12_init_184 ?_
  obtain ⟨M76, eM76⟩ : ∃ z : mj_M, z = mj_newa (mj_wr M73 l0 25 (mj_nx M70)) 101 24 := ⟨_, rfl⟩
  replace h := h M76 eM76
  have ht77 : mj_tag M76 (mj_nx M73) = 101 := by rw [eM76]; exact mj_u1_at _
  refine mx_setM eM76.symm ?_
  obtain ⟨ht78, h⟩ := h
  refine mx_put (v := vR (mj_nx M73)) (M1 := mj_wr M76 l0 26 (mj_nx M73)) hC tf_X12_77 ht78 (Or.inr ⟨rfl, rfl⟩) (mj_fitA (mj_nx M73) _) (mj_off_wr _ _ _ _) mj_put_wa dX12_init_186 ?_
  refine mx_aload_n (j := 0) hC dX12_init_189 rfl rfl ?_
  refine mx_bipush (v := 24) hC dX12_init_190 (by decide) ?_
  refine mx_newi (N := 24) (k' := 24) (n' := 1382) hC tw63 (by decide) (by decide) (by decide) ⟨rfl, by decide, by decide, by decide⟩ dX12_init_192 ?_
  obtain ⟨M79, eM79⟩ : ∃ z : mj_M, z = mj_newa (mj_wr M76 l0 26 (mj_nx M73)) 101 24 := ⟨_, rfl⟩
  replace h := h M79 eM79
  have ht80 : mj_tag M79 (mj_nx M76) = 101 := by rw [eM79]; exact mj_u1_at _
  refine mx_setM eM79.symm ?_
  obtain ⟨ht81, h⟩ := h
  refine mx_put (v := vR (mj_nx M76)) (M1 := mj_wr M79 l0 27 (mj_nx M76)) hC tf_X12_80 ht81 (Or.inr ⟨rfl, rfl⟩) (mj_fitA (mj_nx M76) _) (mj_off_wr _ _ _ _) mj_put_wa dX12_init_194 ?_
  refine mx_aload_n (j := 0) hC dX12_init_197 rfl rfl ?_
  refine mx_bipush (v := 24) hC dX12_init_198 (by decide) ?_
  refine mx_newi (N := 24) (k' := 25) (n' := 1406) hC tw63 (by decide) (by decide) (by decide) ⟨rfl, by decide, by decide, by decide⟩ dX12_init_200 ?_
  obtain ⟨M82, eM82⟩ : ∃ z : mj_M, z = mj_newa (mj_wr M79 l0 27 (mj_nx M76)) 101 24 := ⟨_, rfl⟩
  replace h := h M82 eM82
  have ht83 : mj_tag M82 (mj_nx M79) = 101 := by rw [eM82]; exact mj_u1_at _
  refine mx_setM eM82.symm ?_
  obtain ⟨ht84, h⟩ := h
  refine mx_put (v := vR (mj_nx M79)) (M1 := mj_wr M82 l0 28 (mj_nx M79)) hC tf_X12_83 ht84 (Or.inr ⟨rfl, rfl⟩) (mj_fitA (mj_nx M79) _) (mj_off_wr _ _ _ _) mj_put_wa dX12_init_202 ?_
  refine mx_aload_n (j := 0) hC dX12_init_205 rfl rfl ?_
  refine mx_bipush (v := 24) hC dX12_init_206 (by decide) ?_
  refine mx_newi (N := 24) (k' := 26) (n' := 1430) hC tw63 (by decide) (by decide) (by decide) ⟨rfl, by decide, by decide, by decide⟩ dX12_init_208 ?_
  obtain ⟨M85, eM85⟩ : ∃ z : mj_M, z = mj_newa (mj_wr M82 l0 28 (mj_nx M79)) 101 24 := ⟨_, rfl⟩
  replace h := h M85 eM85
  have ht86 : mj_tag M85 (mj_nx M82) = 101 := by rw [eM85]; exact mj_u1_at _
  refine mx_setM eM85.symm ?_
  obtain ⟨ht87, h⟩ := h
  refine mx_put (v := vR (mj_nx M82)) (M1 := mj_wr M85 l0 29 (mj_nx M82)) hC tf_X12_86 ht87 (Or.inr ⟨rfl, rfl⟩) (mj_fitA (mj_nx M82) _) (mj_off_wr _ _ _ _) mj_put_wa dX12_init_210 ?_
  refine mx_aload_n (j := 0) hC dX12_init_213 rfl rfl ?_
  refine mx_bipush (v := 40) hC dX12_init_214 (by decide) ?_
  refine mx_newz (N := 40) (k' := 27) (n' := 1470) hC tw1372 (by decide) (by decide) (by decide) ⟨rfl, by decide, by decide, by decide⟩ dX12_init_216 ?_
  obtain ⟨M88, eM88⟩ : ∃ z : mj_M, z = mj_newa (mj_wr M85 l0 29 (mj_nx M82)) 103 40 := ⟨_, rfl⟩
  replace h := h M88 eM88
  have ht89 : mj_tag M88 (mj_nx M85) = 103 := by rw [eM88]; exact mj_u1_at _
  refine mx_setM eM88.symm ?_
  obtain ⟨ht90, h⟩ := h
  refine mx_put (v := vR (mj_nx M85)) (M1 := mj_wr M88 l0 31 (mj_nx M85)) hC tf_X12_89 ht90 (Or.inr ⟨rfl, rfl⟩) (mj_fitA (mj_nx M85) _) (mj_off_wr _ _ _ _) mj_put_wa dX12_init_218 ?_
  refine mx_aload_n (j := 0) hC dX12_init_221 rfl rfl ?_
  refine mx_bipush (v := 12) hC dX12_init_222 (by decide) ?_
  refine mx_newi (N := 12) (k' := 28) (n' := 1482) hC tw63 (by decide) (by decide) (by decide) ⟨rfl, by decide, by decide, by decide⟩ dX12_init_224 ?_
  obtain ⟨M91, eM91⟩ : ∃ z : mj_M, z = mj_newa (mj_wr M88 l0 31 (mj_nx M85)) 101 12 := ⟨_, rfl⟩
  replace h := h M91 eM91
  have ht92 : mj_tag M91 (mj_nx M88) = 101 := by rw [eM91]; exact mj_u1_at _
  refine mx_setM eM91.symm ?_
  obtain ⟨ht93, h⟩ := h
  refine mx_put (v := vR (mj_nx M88)) (M1 := mj_wr M91 l0 32 (mj_nx M88)) hC tf_X12_92 ht93 (Or.inr ⟨rfl, rfl⟩) (mj_fitA (mj_nx M88) _) (mj_off_wr _ _ _ _) mj_put_wa dX12_init_226 ?_
  refine mx_aload_n (j := 0) hC dX12_init_229 rfl rfl ?_
  refine mx_bipush (v := 10) hC dX12_init_230 (by decide) ?_
  refine mx_newi (N := 10) (k' := 29) (n' := 1492) hC tw63 (by decide) (by decide) (by decide) ⟨rfl, by decide, by decide, by decide⟩ dX12_init_232 ?_
  obtain ⟨M94, eM94⟩ : ∃ z : mj_M, z = mj_newa (mj_wr M91 l0 32 (mj_nx M88)) 101 10 := ⟨_, rfl⟩
  replace h := h M94 eM94
  have ht95 : mj_tag M94 (mj_nx M91) = 101 := by rw [eM94]; exact mj_u1_at _
  refine mx_setM eM94.symm ?_
  obtain ⟨ht96, h⟩ := h
  refine mx_put (v := vR (mj_nx M91)) (M1 := mj_wr M94 l0 33 (mj_nx M91)) hC tf_X12_95 ht96 (Or.inr ⟨rfl, rfl⟩) (mj_fitA (mj_nx M91) _) (mj_off_wr _ _ _ _) mj_put_wa dX12_init_234 ?_
  refine mx_aload_n (j := 0) hC dX12_init_237 rfl rfl ?_
  refine mx_bipush (v := 10) hC dX12_init_238 (by decide) ?_
  refine mx_newi (N := 10) (k' := 30) (n' := 1502) hC tw63 (by decide) (by decide) (by decide) ⟨rfl, by decide, by decide, by decide⟩ dX12_init_240 ?_
  obtain ⟨M97, eM97⟩ : ∃ z : mj_M, z = mj_newa (mj_wr M94 l0 33 (mj_nx M91)) 101 10 := ⟨_, rfl⟩
  replace h := h M97 eM97
  have ht98 : mj_tag M97 (mj_nx M94) = 101 := by rw [eM97]; exact mj_u1_at _
  refine mx_setM eM97.symm ?_
  obtain ⟨ht99, h⟩ := h
  refine mx_put (v := vR (mj_nx M94)) (M1 := mj_wr M97 l0 34 (mj_nx M94)) hC tf_X12_98 ht99 (Or.inr ⟨rfl, rfl⟩) (mj_fitA (mj_nx M94) _) (mj_off_wr _ _ _ _) mj_put_wa dX12_init_242 ?_
  refine mx_aload_n (j := 0) hC dX12_init_245 rfl rfl ?_
  refine mx_bipush (v := 20) hC dX12_init_246 (by decide) ?_
  refine mx_newi (N := 20) (k' := 31) (n' := 1522) hC tw63 (by decide) (by decide) (by decide) ⟨rfl, by decide, by decide, by decide⟩ dX12_init_248 ?_
  obtain ⟨M100, eM100⟩ : ∃ z : mj_M, z = mj_newa (mj_wr M97 l0 34 (mj_nx M94)) 101 20 := ⟨_, rfl⟩
  replace h := h M100 eM100
  have ht101 : mj_tag M100 (mj_nx M97) = 101 := by rw [eM100]; exact mj_u1_at _
  refine mx_setM eM100.symm ?_
  obtain ⟨ht102, h⟩ := h
  refine mx_put (v := vR (mj_nx M97)) (M1 := mj_wr M100 l0 36 (mj_nx M97)) hC tf_X12_101 ht102 (Or.inr ⟨rfl, rfl⟩) (mj_fitA (mj_nx M97) _) (mj_off_wr _ _ _ _) mj_put_wa dX12_init_250 ?_
  refine mx_aload_n (j := 0) hC dX12_init_253 rfl rfl ?_
  refine mx_bipush (v := 20) hC dX12_init_254 (by decide) ?_
  refine mx_newi (N := 20) (k' := 32) (n' := 1542) hC tw63 (by decide) (by decide) (by decide) ⟨rfl, by decide, by decide, by decide⟩ dX12_init_256 ?_
  obtain ⟨M103, eM103⟩ : ∃ z : mj_M, z = mj_newa (mj_wr M100 l0 36 (mj_nx M97)) 101 20 := ⟨_, rfl⟩
  replace h := h M103 eM103
  have ht104 : mj_tag M103 (mj_nx M100) = 101 := by rw [eM103]; exact mj_u1_at _
  refine mx_setM eM103.symm ?_
  obtain ⟨ht105, h⟩ := h
  refine mx_put (v := vR (mj_nx M100)) (M1 := mj_wr M103 l0 37 (mj_nx M100)) hC tf_X12_104 ht105 (Or.inr ⟨rfl, rfl⟩) (mj_fitA (mj_nx M100) _) (mj_off_wr _ _ _ _) mj_put_wa dX12_init_258 ?_
  refine mx_aload_n (j := 0) hC dX12_init_261 rfl rfl ?_
  refine mx_bipush (v := 100) hC dX12_init_262 (by decide) ?_
  refine mx_put (v := vI 100) (M1 := mj_wi (mj_wr M103 l0 37 (mj_nx M100)) l0 42 100) hC tf_X12_107 ht105 (Or.inl rfl) ⟨rfl, rfl⟩ (mj_off_wi _ _ _ _) mj_put_wi dX12_init_264 ?_
  refine mx_aload_n (j := 0) hC dX12_init_267 rfl rfl ?_
  refine mx_bipush (v := 50) hC dX12_init_268 (by decide) ?_
  refine mx_put (v := vI 50) (M1 := mj_wi (mj_wi (mj_wr M103 l0 37 (mj_nx M100)) l0 42 100) l0 43 50) hC tf_X12_111 ht105 (Or.inl rfl) ⟨rfl, rfl⟩ (mj_off_wi _ _ _ _) mj_put_wi dX12_init_270 ?_
  refine mx_aload_n (j := 0) hC dX12_init_273 rfl rfl ?_
  refine mx_bipush (v := 40) hC dX12_init_274 (by decide) ?_
  refine mx_newl (N := 40) (k' := 33) (n' := 1582) hC tw1373 (by decide) (by decide) (by decide) ⟨rfl, by decide, by decide, by decide⟩ dX12_init_276 ?_
  obtain ⟨M106, eM106⟩ : ∃ z : mj_M, z = mj_newa (mj_wi (mj_wi (mj_wr M103 l0 37 (mj_nx M100)) l0 42 100) l0 43 50) 102 40 := ⟨_, rfl⟩
  replace h := h M106 eM106
  have ht107 : mj_tag M106 (mj_nx M103) = 102 := by rw [eM106]; exact mj_u1_at _
  refine mx_setM eM106.symm ?_
  obtain ⟨ht108, h⟩ := h
  refine mx_put (v := vR (mj_nx M103)) (M1 := mj_wr M106 l0 44 (mj_nx M103)) hC tf_X12_114 ht108 (Or.inr ⟨rfl, rfl⟩) (mj_fitA (mj_nx M103) _) (mj_off_wr _ _ _ _) mj_put_wa dX12_init_278 ?_
  refine mx_aload_n (j := 0) hC dX12_init_281 rfl rfl ?_
  refine mx_bipush (v := 12) hC dX12_init_282 (by decide) ?_
  refine mx_newi (N := 12) (k' := 34) (n' := 1594) hC tw63 (by decide) (by decide) (by decide) ⟨rfl, by decide, by decide, by decide⟩ dX12_init_284 ?_
  obtain ⟨M109, eM109⟩ : ∃ z : mj_M, z = mj_newa (mj_wr M106 l0 44 (mj_nx M103)) 101 12 := ⟨_, rfl⟩
  replace h := h M109 eM109
  have ht110 : mj_tag M109 (mj_nx M106) = 101 := by rw [eM109]; exact mj_u1_at _
  refine mx_setM eM109.symm ?_
  obtain ⟨ht111, h⟩ := h
  refine mx_put (v := vR (mj_nx M106)) (M1 := mj_wr M109 l0 49 (mj_nx M106)) hC tf_X12_118 ht111 (Or.inr ⟨rfl, rfl⟩) (mj_fitA (mj_nx M106) _) (mj_off_wr _ _ _ _) mj_put_wa dX12_init_286 ?_
  refine mx_aload_n (j := 0) hC dX12_init_289 rfl rfl ?_
  refine mx_bipush (v := 12) hC dX12_init_290 (by decide) ?_
  refine mx_newi (N := 12) (k' := 35) (n' := 1606) hC tw63 (by decide) (by decide) (by decide) ⟨rfl, by decide, by decide, by decide⟩ dX12_init_292 ?_
  obtain ⟨M112, eM112⟩ : ∃ z : mj_M, z = mj_newa (mj_wr M109 l0 49 (mj_nx M106)) 101 12 := ⟨_, rfl⟩
  replace h := h M112 eM112
  have ht113 : mj_tag M112 (mj_nx M109) = 101 := by rw [eM112]; exact mj_u1_at _
  refine mx_setM eM112.symm ?_
  obtain ⟨ht114, h⟩ := h
  refine mx_put (v := vR (mj_nx M109)) (M1 := mj_wr M112 l0 50 (mj_nx M109)) hC tf_X12_121 ht114 (Or.inr ⟨rfl, rfl⟩) (mj_fitA (mj_nx M109) _) (mj_off_wr _ _ _ _) mj_put_wa dX12_init_294 ?_
  refine mx_aload_n (j := 0) hC dX12_init_297 rfl rfl ?_
  refine mx_bipush (v := 12) hC dX12_init_298 (by decide) ?_
  refine mx_newi (N := 12) (k' := 36) (n' := 1618) hC tw63 (by decide) (by decide) (by decide) ⟨rfl, by decide, by decide, by decide⟩ dX12_init_300 ?_
  obtain ⟨M115, eM115⟩ : ∃ z : mj_M, z = mj_newa (mj_wr M112 l0 50 (mj_nx M109)) 101 12 := ⟨_, rfl⟩
  replace h := h M115 eM115
  have ht116 : mj_tag M115 (mj_nx M112) = 101 := by rw [eM115]; exact mj_u1_at _
  refine mx_setM eM115.symm ?_
  obtain ⟨ht117, h⟩ := h
  refine mx_put (v := vR (mj_nx M112)) (M1 := mj_wr M115 l0 51 (mj_nx M112)) hC tf_X12_124 ht117 (Or.inr ⟨rfl, rfl⟩) (mj_fitA (mj_nx M112) _) (mj_off_wr _ _ _ _) mj_put_wa dX12_init_302 ?_
  refine mx_aload_n (j := 0) hC dX12_init_305 rfl rfl ?_
  refine mx_bipush (v := 12) hC dX12_init_306 (by decide) ?_
  refine mx_newi (N := 12) (k' := 37) (n' := 1630) hC tw63 (by decide) (by decide) (by decide) ⟨rfl, by decide, by decide, by decide⟩ dX12_init_308 ?_
  obtain ⟨M118, eM118⟩ : ∃ z : mj_M, z = mj_newa (mj_wr M115 l0 51 (mj_nx M112)) 101 12 := ⟨_, rfl⟩
  replace h := h M118 eM118
  have ht119 : mj_tag M118 (mj_nx M115) = 101 := by rw [eM118]; exact mj_u1_at _
  refine mx_setM eM118.symm ?_
  obtain ⟨ht120, h⟩ := h
  refine mx_put (v := vR (mj_nx M115)) (M1 := mj_wr M118 l0 52 (mj_nx M115)) hC tf_X12_127 ht120 (Or.inr ⟨rfl, rfl⟩) (mj_fitA (mj_nx M115) _) (mj_off_wr _ _ _ _) mj_put_wa dX12_init_310 ?_
  refine mx_iconst (v := 0) hC dX12_init_313 (by decide) ?_
  refine mx_istore_n (L' := [(1, vI 0), (0, vR l0)]) hC dX12_init_314 rfl (by decide) rfl ?_
  refine mx_sub (L' := [(0, vR l0), (1, vI 0)]) [1, 0] rfl ?_
  obtain ⟨fe, h⟩ := h
  exact show mj_X g 315 [(0, vR l0), (1, vI 0)] [] (mj_wr M118 l0 52 (mj_nx M115)) 37 1630 from (xb_X12_init_315 hC hE fe l0 0 (mj_wr M118 l0 52 (mj_nx M115)) h)
def rm_X12_in : Room := { frames := 0, cells := 0, slots := 0, locals := 0 }
theorem dX12_in_0 : decode cX12_in 0 = .ok (.lload_n 0, 1) := by decide +kernel
theorem dX12_in_1 : decode cX12_in 1 = .ok (.lload_n 2, 1) := by decide +kernel
theorem dX12_in_2 : decode cX12_in 2 = .ok (.lcmp, 1) := by decide +kernel
theorem dX12_in_3 : decode cX12_in 3 = .ok (.ifCond .lt 14, 3) := by decide +kernel
theorem dX12_in_6 : decode cX12_in 6 = .ok (.lload_n 0, 1) := by decide +kernel
theorem dX12_in_7 : decode cX12_in 7 = .ok (.lload 4, 2) := by decide +kernel
theorem dX12_in_9 : decode cX12_in 9 = .ok (.lcmp, 1) := by decide +kernel
theorem dX12_in_10 : decode cX12_in 10 = .ok (.ifCond .gt 7, 3) := by decide +kernel
theorem dX12_in_13 : decode cX12_in 13 = .ok (.iconst 1, 1) := by decide +kernel
theorem dX12_in_14 : decode cX12_in 14 = .ok (.goto 4, 3) := by decide +kernel
theorem dX12_in_17 : decode cX12_in 17 = .ok (.iconst 0, 1) := by decide +kernel
theorem dX12_in_18 : decode cX12_in 18 = .ok (.ireturn, 1) := by decide +kernel
def vc_X12_in (l0 : Int64) (l2 : Int64) (l4 : Int64) (M : mj_M) (post : Bool → mj_M → Prop) : Prop := if (lg_cmp l0 l2) < 0 then (post false M) else (if 0 < (lg_cmp l0 l4) then (post false M) else (post true M))
set_option maxHeartbeats 4000000 in
set_option maxRecDepth 100000 in
theorem ct_X12_in {l : Launch} {base : Nat} {D : va_G} {A : ClassId × ClassId × ClassId} (l0 : Int64) (l2 : Int64) (l4 : Int64) (M : mj_M) (post : Bool → mj_M → Prop) (h : vc_X12_in l0 l2 l4 M post) : mj_Met l base D A mj_jB yX12_in cX12_in 6 (some .boolean) rm_X12_in 0 0 [vL l0, vL l2, vL l4] M post := by
  refine mj_entry (by decide +kernel) (Nat.le_of_ble_eq_true rfl) (fun g hC hE h1 h2 h3 h4 => ?_)
  show mj_X g 0 [(0, vL l0), (2, vL l2), (4, vL l4)] [] M 0 0
  simp only [vc_X12_in] at h
  refine mx_lload_n (j := 0) hC dX12_in_0 rfl rfl ?_
  refine mx_lload_n (j := 1) hC dX12_in_1 rfl rfl ?_
  refine mx_lcmp hC dX12_in_2 ?_
  refine mx_iflt (tgt := 17) hC dX12_in_3 (by decide) (fun hc1 => ?_) (fun hc1 => ?_)
  · replace h := mj_yy hc1 h
    refine mx_iconst (v := 0) hC dX12_in_17 (by decide) ?_
    exact mx_zret (b := false) hC hE rfl dX12_in_18 h
  · replace h := mj_nn hc1 h
    refine mx_lload_n (j := 0) hC dX12_in_6 rfl rfl ?_
    refine mx_lload (j := 2) hC dX12_in_7 rfl ?_
    refine mx_lcmp hC dX12_in_9 ?_
    refine mx_ifgt (tgt := 17) hC dX12_in_10 (by decide) (fun hc2 => ?_) (fun hc2 => ?_)
    · replace h := mj_yy hc2 h
      refine mx_iconst (v := 0) hC dX12_in_17 (by decide) ?_
      exact mx_zret (b := false) hC hE rfl dX12_in_18 h
    · replace h := mj_nn hc2 h
      refine mx_iconst (v := 1) hC dX12_in_13 (by decide) ?_
      refine mx_goto (tgt := 18) hC dX12_in_14 (by decide) ?_
      exact mx_zret (b := true) hC hE rfl dX12_in_18 h
def rm_X12_ones : Room := { frames := 0, cells := 0, slots := 0, locals := 0 }
theorem dX12_ones_0 : decode cX12_ones 0 = .ok (.iconst 0, 1) := by decide +kernel
theorem dX12_ones_1 : decode cX12_ones 1 = .ok (.istore_n 1, 1) := by decide +kernel
theorem dX12_ones_2 : decode cX12_ones 2 = .ok (.iconst 0, 1) := by decide +kernel
theorem dX12_ones_3 : decode cX12_ones 3 = .ok (.istore_n 2, 1) := by decide +kernel
theorem dX12_ones_4 : decode cX12_ones 4 = .ok (.iload_n 2, 1) := by decide +kernel
theorem dX12_ones_5 : decode cX12_ones 5 = .ok (.bipush 16, 2) := by decide +kernel
theorem dX12_ones_7 : decode cX12_ones 7 = .ok (.if_icmp .ge 17, 3) := by decide +kernel
theorem dX12_ones_10 : decode cX12_ones 10 = .ok (.iload_n 1, 1) := by decide +kernel
theorem dX12_ones_11 : decode cX12_ones 11 = .ok (.iload_n 0, 1) := by decide +kernel
theorem dX12_ones_12 : decode cX12_ones 12 = .ok (.iload_n 2, 1) := by decide +kernel
theorem dX12_ones_13 : decode cX12_ones 13 = .ok (.ishr, 1) := by decide +kernel
theorem dX12_ones_14 : decode cX12_ones 14 = .ok (.iconst 1, 1) := by decide +kernel
theorem dX12_ones_15 : decode cX12_ones 15 = .ok (.iand, 1) := by decide +kernel
theorem dX12_ones_16 : decode cX12_ones 16 = .ok (.iadd, 1) := by decide +kernel
theorem dX12_ones_17 : decode cX12_ones 17 = .ok (.istore_n 1, 1) := by decide +kernel
theorem dX12_ones_18 : decode cX12_ones 18 = .ok (.iinc 2 1, 3) := by decide +kernel
theorem dX12_ones_21 : decode cX12_ones 21 = .ok (.goto (-17), 3) := by decide +kernel
theorem dX12_ones_24 : decode cX12_ones 24 = .ok (.iload_n 1, 1) := by decide +kernel
theorem dX12_ones_25 : decode cX12_ones 25 = .ok (.ireturn, 1) := by decide +kernel
def vb_X12_ones_4 (post : Int32 → mj_M → Prop) : Nat → Int32 → Int32 → Int32 → mj_M → Prop
  | 0 => fun _ _ _ _ => False
  | f + 1 => fun l0 l1 l2 M => if 16 ≤ l2 then (post l1 M) else (vb_X12_ones_4 post f l0 (l1 + ((l0 >>> (l2 &&& 31)) &&& 1)) (l2 + 1) M)
def vc_X12_ones (l0 : Int32) (M : mj_M) (post : Int32 → mj_M → Prop) : Prop := ∃ fe, vb_X12_ones_4 post fe l0 0 0 M
set_option maxHeartbeats 4000000 in
set_option maxRecDepth 100000 in
theorem xb_X12_ones_4 {g : mj_G} {post : Int32 → mj_M → Prop} (hC : mj_C g yX12_ones cX12_ones 3 (some .int) rm_X12_ones) (hE : mj_E g mj_jI post 0 0) : ∀ (f : Nat) (l0 : Int32) (l1 : Int32) (l2 : Int32) (M : mj_M), vb_X12_ones_4 post f l0 l1 l2 M → mj_X g 4 [(0, vI l0), (1, vI l1), (2, vI l2)] [] M 0 0 := by
  intro f
  induction f with
  | zero => exact fun _ _ _ _ h => absurd h (fun z => z)
  | succ f ih =>
    intro l0 l1 l2 M h
    simp only [vb_X12_ones_4] at h
    refine mx_iload_n (j := 2) hC dX12_ones_4 rfl rfl ?_
    refine mx_bipush (v := 16) hC dX12_ones_5 (by decide) ?_
    refine mx_icmpge (tgt := 24) hC dX12_ones_7 (by decide) (fun hc1 => ?_) (fun hc1 => ?_)
    · replace h := mj_yy hc1 h
      refine mx_iload_n (j := 1) hC dX12_ones_24 rfl rfl ?_
      exact mx_iret hC hE rfl dX12_ones_25 h
    · replace h := mj_nn hc1 h
      refine mx_iload_n (j := 1) hC dX12_ones_10 rfl rfl ?_
      refine mx_iload_n (j := 0) hC dX12_ones_11 rfl rfl ?_
      refine mx_iload_n (j := 2) hC dX12_ones_12 rfl rfl ?_
      refine mx_ishr hC dX12_ones_13 ?_
      refine mx_iconst (v := 1) hC dX12_ones_14 (by decide) ?_
      refine mx_iand hC dX12_ones_15 ?_
      refine mx_iadd hC dX12_ones_16 ?_
      refine mx_istore_n (L' := [(1, vI (l1 + ((l0 >>> (l2 &&& 31)) &&& 1))), (0, vI l0), (2, vI l2)]) hC dX12_ones_17 rfl (by decide) rfl ?_
      refine mx_iinc (j := 2) (v := l2 + 1) (L' := [(2, vI (l2 + 1)), (1, vI (l1 + ((l0 >>> (l2 &&& 31)) &&& 1))), (0, vI l0)]) hC dX12_ones_18 rfl rfl (by decide) rfl ?_
      refine mx_goto (tgt := 4) hC dX12_ones_21 (by decide) ?_
      refine mx_sub (L' := [(0, vI l0), (1, vI (l1 + ((l0 >>> (l2 &&& 31)) &&& 1))), (2, vI (l2 + 1))]) [2, 1, 0] rfl ?_
      exact show mj_X g 4 [(0, vI l0), (1, vI (l1 + ((l0 >>> (l2 &&& 31)) &&& 1))), (2, vI (l2 + 1))] [] M 0 0 from (ih l0 (l1 + ((l0 >>> (l2 &&& 31)) &&& 1)) (l2 + 1) M h)
set_option maxHeartbeats 4000000 in
set_option maxRecDepth 100000 in
theorem ct_X12_ones {l : Launch} {base : Nat} {D : va_G} {A : ClassId × ClassId × ClassId} (l0 : Int32) (M : mj_M) (post : Int32 → mj_M → Prop) (h : vc_X12_ones l0 M post) : mj_Met l base D A mj_jI yX12_ones cX12_ones 3 (some .int) rm_X12_ones 0 0 [vI l0] M post := by
  refine mj_entry (by decide +kernel) (Nat.le_of_ble_eq_true rfl) (fun g hC hE h1 h2 h3 h4 => ?_)
  show mj_X g 0 [(0, vI l0)] [] M 0 0
  simp only [vc_X12_ones] at h
  refine mx_iconst (v := 0) hC dX12_ones_0 (by decide) ?_
  refine mx_istore_n (L' := [(1, vI 0), (0, vI l0)]) hC dX12_ones_1 rfl (by decide) rfl ?_
  refine mx_iconst (v := 0) hC dX12_ones_2 (by decide) ?_
  refine mx_istore_n (L' := [(2, vI 0), (1, vI 0), (0, vI l0)]) hC dX12_ones_3 rfl (by decide) rfl ?_
  refine mx_sub (L' := [(0, vI l0), (1, vI 0), (2, vI 0)]) [2, 1, 0] rfl ?_
  obtain ⟨fe, h⟩ := h
  exact show mj_X g 4 [(0, vI l0), (1, vI 0), (2, vI 0)] [] M 0 0 from (xb_X12_ones_4 hC hE fe l0 0 0 M h)
theorem tw1222 : (Jvm.Cond.fieldLink "LeaseLandModel" (130 : Nat) "LeaseLandModel" "holdings" "I") ∈ mj_tbl := mj_w 1275 (by decide +kernel) (by decide +kernel)
theorem tf_X12_130 : mj_F 12 13 .int false "LeaseLandModel" 130 := ⟨_, tk12, by decide, rfl, rfl, rfl, tw1222⟩
theorem tw1379 : (Jvm.Cond.methodLink "LeaseLandModel" (133 : Nat) ({ cls := "LeaseLandModel", name := "in", desc := "(JJJ)Z" } : Jvm.MethodName)) ∈ mj_tbl := mj_w 1432 (by decide +kernel) (by decide +kernel)
theorem tw1381 : (Jvm.Cond.code ({ cls := "LeaseLandModel", name := "in", desc := "(JJJ)Z" } : Jvm.MethodName) prog_14_method_3_code (6 : Nat) (Option.some Jvm.ClassFile.FieldType.boolean)) ∈ mj_tbl := mj_w 1434 (by decide +kernel) (by decide +kernel)
theorem tw11 : (Jvm.Cond.initialized "LeaseLandModel") ∈ mj_tbl := mj_w 64 (by decide +kernel) (by decide +kernel)
theorem tw1380 : (Jvm.Cond.static ({ cls := "LeaseLandModel", name := "in", desc := "(JJJ)Z" } : Jvm.MethodName)) ∈ mj_tbl := mj_w 1433 (by decide +kernel) (by decide +kernel)
theorem ty_X12_in : mj_YS yX12_in cX12_in 6 (some .boolean) 3 := ⟨⟨tw1381, tw11, by decide +kernel, by decide +kernel, by decide +kernel⟩, tw1380⟩
def rm_X12_isHolding : Room := { frames := 1, cells := 0, slots := 0, locals := 25 }
theorem dX12_isHolding_0 : decode cX12_isHolding 0 = .ok (.iload_n 1, 1) := by decide +kernel
theorem dX12_isHolding_1 : decode cX12_isHolding 1 = .ok (.i2l, 1) := by decide +kernel
theorem dX12_isHolding_2 : decode cX12_isHolding 2 = .ok (.lconst 0, 1) := by decide +kernel
theorem dX12_isHolding_3 : decode cX12_isHolding 3 = .ok (.aload_n 0, 1) := by decide +kernel
theorem dX12_isHolding_4 : decode cX12_isHolding 4 = .ok (.getfield 130, 3) := by decide +kernel
theorem dX12_isHolding_7 : decode cX12_isHolding 7 = .ok (.iconst 1, 1) := by decide +kernel
theorem dX12_isHolding_8 : decode cX12_isHolding 8 = .ok (.isub, 1) := by decide +kernel
theorem dX12_isHolding_9 : decode cX12_isHolding 9 = .ok (.i2l, 1) := by decide +kernel
theorem dX12_isHolding_10 : decode cX12_isHolding 10 = .ok (.invokestatic 133, 3) := by decide +kernel
theorem dX12_isHolding_13 : decode cX12_isHolding 13 = .ok (.ireturn, 1) := by decide +kernel
def vc_X12_isHolding (l0 : Nat) (l1 : Int32) (M : mj_M) (post : Bool → mj_M → Prop) : Prop := mj_tag M l0 = 13 ∧ vc_X12_in ((l1 : Int32).toInt64) 0 (((mj_i M l0 13) - 1 : Int32).toInt64) M (fun r2 M3 => post r2 M3)
set_option maxHeartbeats 4000000 in
set_option maxRecDepth 100000 in
theorem ct_X12_isHolding {l : Launch} {base : Nat} {D : va_G} {A : ClassId × ClassId × ClassId} (l0 : Nat) (l1 : Int32) (M : mj_M) (post : Bool → mj_M → Prop) (h : vc_X12_isHolding l0 l1 M post) : mj_Met l base D A mj_jB yX12_isHolding cX12_isHolding 2 (some .boolean) rm_X12_isHolding 0 0 [vR l0, vI l1] M post := by
  refine mj_entry (by decide +kernel) (Nat.le_of_ble_eq_true rfl) (fun g hC hE h1 h2 h3 h4 => ?_)
  show mj_X g 0 [(0, vR l0), (1, vI l1)] [] M 0 0
  simp only [vc_X12_isHolding] at h
  refine mx_iload_n (j := 1) hC dX12_isHolding_0 rfl rfl ?_
  refine mx_i2l hC dX12_isHolding_1 ?_
  refine mx_lconst (v := 0) hC dX12_isHolding_2 (by decide) ?_
  refine mx_aload_n (j := 0) hC dX12_isHolding_3 rfl rfl ?_
  obtain ⟨ht1, h⟩ := h
  refine mx_get (v := vI (mj_i M l0 13)) hC tf_X12_130 ht1 rfl dX12_isHolding_4 ?_
  refine mx_iconst (v := 1) hC dX12_isHolding_7 (by decide) ?_
  refine mx_isub hC dX12_isHolding_8 ?_
  refine mx_i2l hC dX12_isHolding_9 ?_
  refine mx_callS (inj := mj_jB) (As := [vL ((l1 : Int32).toInt64), vL 0, vL (((mj_i M l0 13) - 1 : Int32).toInt64)]) (st := []) hC (ct_X12_in ((l1 : Int32).toInt64) 0 (((mj_i M l0 13) - 1 : Int32).toInt64) M _ h) ty_X12_in tw1379 rfl (Nat.le_of_ble_eq_true rfl) ⟨rfl, rfl, ⟨by decide, by decide⟩, by decide, by decide⟩ dX12_isHolding_10 (fun r2 M3 h => ?_)
  show mj_X g 13 [(0, vR l0), (1, vI l1)] [vI (mj_b r2)] M3 0 0
  exact mx_zret (b := r2) hC hE rfl dX12_isHolding_13 h
theorem tw1407 : (Jvm.Cond.methodLink "LeaseLandModel" (137 : Nat) ({ cls := "LeaseLandModel", name := "isHolding", desc := "(I)Z" } : Jvm.MethodName)) ∈ mj_tbl := mj_w 1460 (by decide +kernel) (by decide +kernel)
theorem tw1410 : (Jvm.Cond.code ({ cls := "LeaseLandModel", name := "isHolding", desc := "(I)Z" } : Jvm.MethodName) prog_14_method_5_code (2 : Nat) (Option.some Jvm.ClassFile.FieldType.boolean)) ∈ mj_tbl := mj_w 1463 (by decide +kernel) (by decide +kernel)
theorem tw1409 : (Jvm.Cond.instanceMethod ({ cls := "LeaseLandModel", name := "isHolding", desc := "(I)Z" } : Jvm.MethodName)) ∈ mj_tbl := mj_w 1462 (by decide +kernel) (by decide +kernel)
theorem ty_X12_isHolding : mj_YV 12 yX12_isHolding cX12_isHolding 2 (some .boolean) 1 := ⟨⟨tw1410, tw11, by decide +kernel, by decide +kernel, by decide +kernel⟩, tw1409, mj_w 8 (by decide +kernel) (by decide +kernel), _, rfl, rfl⟩
def rm_X12_isLease : Room := { frames := 2, cells := 0, slots := 0, locals := 46 }
theorem dX12_isLease_0 : decode cX12_isLease 0 = .ok (.aload_n 0, 1) := by decide +kernel
theorem dX12_isLease_1 : decode cX12_isLease 1 = .ok (.iload_n 1, 1) := by decide +kernel
theorem dX12_isLease_2 : decode cX12_isLease 2 = .ok (.invokevirtual 137, 3) := by decide +kernel
theorem dX12_isLease_5 : decode cX12_isLease 5 = .ok (.ifCond .eq 16, 3) := by decide +kernel
theorem dX12_isLease_8 : decode cX12_isLease 8 = .ok (.aload_n 0, 1) := by decide +kernel
theorem dX12_isLease_9 : decode cX12_isLease 9 = .ok (.getfield 7, 3) := by decide +kernel
theorem dX12_isLease_12 : decode cX12_isLease 12 = .ok (.iload_n 1, 1) := by decide +kernel
theorem dX12_isLease_13 : decode cX12_isLease 13 = .ok (.iaload, 1) := by decide +kernel
theorem dX12_isLease_14 : decode cX12_isLease 14 = .ok (.ifCond .lt 7, 3) := by decide +kernel
theorem dX12_isLease_17 : decode cX12_isLease 17 = .ok (.iconst 1, 1) := by decide +kernel
theorem dX12_isLease_18 : decode cX12_isLease 18 = .ok (.goto 4, 3) := by decide +kernel
theorem dX12_isLease_21 : decode cX12_isLease 21 = .ok (.iconst 0, 1) := by decide +kernel
theorem dX12_isLease_22 : decode cX12_isLease 22 = .ok (.ireturn, 1) := by decide +kernel
def vc_X12_isLease (l0 : Nat) (l1 : Int32) (M : mj_M) (post : Bool → mj_M → Prop) : Prop := mj_tag M l0 = 13 ∧ vc_X12_isHolding l0 l1 M (fun r2 M3 => if r2 = true then (mj_tag M3 l0 = 13 ∧ mj_tag M3 (mj_r M3 l0 1) = 101 ∧ vp_in l1 (mj_len M3 (mj_r M3 l0 1)) ∧ if (mj_i M3 (mj_r M3 l0 1) (l1 : Int32).toNatClampNeg) < 0 then (post false M3) else (post true M3)) else (post false M3))
set_option maxHeartbeats 4000000 in
set_option maxRecDepth 100000 in
theorem ct_X12_isLease {l : Launch} {base : Nat} {D : va_G} {A : ClassId × ClassId × ClassId} (l0 : Nat) (l1 : Int32) (M : mj_M) (post : Bool → mj_M → Prop) (h : vc_X12_isLease l0 l1 M post) : mj_Met l base D A mj_jB yX12_isLease cX12_isLease 2 (some .boolean) rm_X12_isLease 0 0 [vR l0, vI l1] M post := by
  refine mj_entry (by decide +kernel) (Nat.le_of_ble_eq_true rfl) (fun g hC hE h1 h2 h3 h4 => ?_)
  show mj_X g 0 [(0, vR l0), (1, vI l1)] [] M 0 0
  simp only [vc_X12_isLease] at h
  refine mx_aload_n (j := 0) hC dX12_isLease_0 rfl rfl ?_
  refine mx_iload_n (j := 1) hC dX12_isLease_1 rfl rfl ?_
  obtain ⟨ht1, h⟩ := h
  refine mx_callV (inj := mj_jB) (As := [vI l1]) (st := []) hC (ct_X12_isHolding l0 l1 M _ h) ty_X12_isHolding tw1407 ht1 rfl (Nat.le_of_ble_eq_true rfl) ⟨rfl, rfl, ⟨by decide, by decide⟩, by decide, by decide⟩ dX12_isLease_2 (fun r2 M3 h => ?_)
  show mj_X g 5 [(0, vR l0), (1, vI l1)] [vI (mj_b r2)] M3 0 0
  refine mx_ifeqB (tgt := 21) hC dX12_isLease_5 (by decide) (fun hc4 => ?_) (fun hc4 => ?_)
  · replace h := mj_nn hc4 h
    refine mx_iconst (v := 0) hC dX12_isLease_21 (by decide) ?_
    exact mx_zret (b := false) hC hE rfl dX12_isLease_22 h
  · replace h := mj_yy hc4 h
    refine mx_aload_n (j := 0) hC dX12_isLease_8 rfl rfl ?_
    obtain ⟨ht5, h⟩ := h
    refine mx_get (v := vR (mj_r M3 l0 1)) hC tf_X12_7 ht5 rfl dX12_isLease_9 ?_
    refine mx_iload_n (j := 1) hC dX12_isLease_12 rfl rfl ?_
    obtain ⟨ht6, h⟩ := h
    obtain ⟨hi7, h⟩ := h
    refine mx_iaload hC ht6 hi7 dX12_isLease_13 ?_
    refine mx_iflt (tgt := 21) hC dX12_isLease_14 (by decide) (fun hc8 => ?_) (fun hc8 => ?_)
    · replace h := mj_yy hc8 h
      refine mx_iconst (v := 0) hC dX12_isLease_21 (by decide) ?_
      exact mx_zret (b := false) hC hE rfl dX12_isLease_22 h
    · replace h := mj_nn hc8 h
      refine mx_iconst (v := 1) hC dX12_isLease_17 (by decide) ?_
      refine mx_goto (tgt := 22) hC dX12_isLease_18 (by decide) ?_
      exact mx_zret (b := true) hC hE rfl dX12_isLease_22 h
theorem tw1389 : (Jvm.Cond.constantLong "LeaseLandModel" (141 : Nat) (9 : Int64)) ∈ mj_tbl := mj_w 1442 (by decide +kernel) (by decide +kernel)
def rm_X12_isPerson : Room := { frames := 1, cells := 0, slots := 0, locals := 25 }
theorem dX12_isPerson_0 : decode cX12_isPerson 0 = .ok (.iload_n 0, 1) := by decide +kernel
theorem dX12_isPerson_1 : decode cX12_isPerson 1 = .ok (.i2l, 1) := by decide +kernel
theorem dX12_isPerson_2 : decode cX12_isPerson 2 = .ok (.lconst 0, 1) := by decide +kernel
theorem dX12_isPerson_3 : decode cX12_isPerson 3 = .ok (.ldc2_w 141, 3) := by decide +kernel
theorem dX12_isPerson_6 : decode cX12_isPerson 6 = .ok (.invokestatic 133, 3) := by decide +kernel
theorem dX12_isPerson_9 : decode cX12_isPerson 9 = .ok (.ireturn, 1) := by decide +kernel
def vc_X12_isPerson (l0 : Int32) (M : mj_M) (post : Bool → mj_M → Prop) : Prop := vc_X12_in ((l0 : Int32).toInt64) 0 9 M (fun r1 M2 => post r1 M2)
set_option maxHeartbeats 4000000 in
set_option maxRecDepth 100000 in
theorem ct_X12_isPerson {l : Launch} {base : Nat} {D : va_G} {A : ClassId × ClassId × ClassId} (l0 : Int32) (M : mj_M) (post : Bool → mj_M → Prop) (h : vc_X12_isPerson l0 M post) : mj_Met l base D A mj_jB yX12_isPerson cX12_isPerson 1 (some .boolean) rm_X12_isPerson 0 0 [vI l0] M post := by
  refine mj_entry (by decide +kernel) (Nat.le_of_ble_eq_true rfl) (fun g hC hE h1 h2 h3 h4 => ?_)
  show mj_X g 0 [(0, vI l0)] [] M 0 0
  simp only [vc_X12_isPerson] at h
  refine mx_iload_n (j := 0) hC dX12_isPerson_0 rfl rfl ?_
  refine mx_i2l hC dX12_isPerson_1 ?_
  refine mx_lconst (v := 0) hC dX12_isPerson_2 (by decide) ?_
  refine mx_ldc2 (v := 9) hC dX12_isPerson_3 tw1389 ?_
  refine mx_callS (inj := mj_jB) (As := [vL ((l0 : Int32).toInt64), vL 0, vL 9]) (st := []) hC (ct_X12_in ((l0 : Int32).toInt64) 0 9 M _ h) ty_X12_in tw1379 rfl (Nat.le_of_ble_eq_true rfl) ⟨rfl, rfl, ⟨by decide, by decide⟩, by decide, by decide⟩ dX12_isPerson_6 (fun r1 M2 h => ?_)
  show mj_X g 9 [(0, vI l0)] [vI (mj_b r1)] M2 0 0
  exact mx_zret (b := r1) hC hE rfl dX12_isPerson_9 h
theorem tw1393 : (Jvm.Cond.constantLong "LeaseLandModel" (143 : Nat) (4095 : Int64)) ∈ mj_tbl := mj_w 1446 (by decide +kernel) (by decide +kernel)
def rm_X12_areFloors : Room := { frames := 1, cells := 0, slots := 0, locals := 25 }
theorem dX12_areFloors_0 : decode cX12_areFloors 0 = .ok (.iload_n 0, 1) := by decide +kernel
theorem dX12_areFloors_1 : decode cX12_areFloors 1 = .ok (.i2l, 1) := by decide +kernel
theorem dX12_areFloors_2 : decode cX12_areFloors 2 = .ok (.lconst 1, 1) := by decide +kernel
theorem dX12_areFloors_3 : decode cX12_areFloors 3 = .ok (.ldc2_w 143, 3) := by decide +kernel
theorem dX12_areFloors_6 : decode cX12_areFloors 6 = .ok (.invokestatic 133, 3) := by decide +kernel
theorem dX12_areFloors_9 : decode cX12_areFloors 9 = .ok (.ireturn, 1) := by decide +kernel
def vc_X12_areFloors (l0 : Int32) (M : mj_M) (post : Bool → mj_M → Prop) : Prop := vc_X12_in ((l0 : Int32).toInt64) 1 4095 M (fun r1 M2 => post r1 M2)
set_option maxHeartbeats 4000000 in
set_option maxRecDepth 100000 in
theorem ct_X12_areFloors {l : Launch} {base : Nat} {D : va_G} {A : ClassId × ClassId × ClassId} (l0 : Int32) (M : mj_M) (post : Bool → mj_M → Prop) (h : vc_X12_areFloors l0 M post) : mj_Met l base D A mj_jB yX12_areFloors cX12_areFloors 1 (some .boolean) rm_X12_areFloors 0 0 [vI l0] M post := by
  refine mj_entry (by decide +kernel) (Nat.le_of_ble_eq_true rfl) (fun g hC hE h1 h2 h3 h4 => ?_)
  show mj_X g 0 [(0, vI l0)] [] M 0 0
  simp only [vc_X12_areFloors] at h
  refine mx_iload_n (j := 0) hC dX12_areFloors_0 rfl rfl ?_
  refine mx_i2l hC dX12_areFloors_1 ?_
  refine mx_lconst (v := 1) hC dX12_areFloors_2 (by decide) ?_
  refine mx_ldc2 (v := 4095) hC dX12_areFloors_3 tw1393 ?_
  refine mx_callS (inj := mj_jB) (As := [vL ((l0 : Int32).toInt64), vL 1, vL 4095]) (st := []) hC (ct_X12_in ((l0 : Int32).toInt64) 1 4095 M _ h) ty_X12_in tw1379 rfl (Nat.le_of_ble_eq_true rfl) ⟨rfl, rfl, ⟨by decide, by decide⟩, by decide, by decide⟩ dX12_areFloors_6 (fun r1 M2 h => ?_)
  show mj_X g 9 [(0, vI l0)] [vI (mj_b r1)] M2 0 0
  exact mx_zret (b := r1) hC hE rfl dX12_areFloors_9 h
theorem tw1378 : (Jvm.Cond.constantLong "LeaseLandModel" (145 : Nat) (73000 : Int64)) ∈ mj_tbl := mj_w 1431 (by decide +kernel) (by decide +kernel)
def rm_X12_isDay : Room := { frames := 1, cells := 0, slots := 0, locals := 25 }
theorem dX12_isDay_0 : decode cX12_isDay 0 = .ok (.iload_n 0, 1) := by decide +kernel
theorem dX12_isDay_1 : decode cX12_isDay 1 = .ok (.i2l, 1) := by decide +kernel
theorem dX12_isDay_2 : decode cX12_isDay 2 = .ok (.lconst 0, 1) := by decide +kernel
theorem dX12_isDay_3 : decode cX12_isDay 3 = .ok (.ldc2_w 145, 3) := by decide +kernel
theorem dX12_isDay_6 : decode cX12_isDay 6 = .ok (.invokestatic 133, 3) := by decide +kernel
theorem dX12_isDay_9 : decode cX12_isDay 9 = .ok (.ireturn, 1) := by decide +kernel
def vc_X12_isDay (l0 : Int32) (M : mj_M) (post : Bool → mj_M → Prop) : Prop := vc_X12_in ((l0 : Int32).toInt64) 0 73000 M (fun r1 M2 => post r1 M2)
set_option maxHeartbeats 4000000 in
set_option maxRecDepth 100000 in
theorem ct_X12_isDay {l : Launch} {base : Nat} {D : va_G} {A : ClassId × ClassId × ClassId} (l0 : Int32) (M : mj_M) (post : Bool → mj_M → Prop) (h : vc_X12_isDay l0 M post) : mj_Met l base D A mj_jB yX12_isDay cX12_isDay 1 (some .boolean) rm_X12_isDay 0 0 [vI l0] M post := by
  refine mj_entry (by decide +kernel) (Nat.le_of_ble_eq_true rfl) (fun g hC hE h1 h2 h3 h4 => ?_)
  show mj_X g 0 [(0, vI l0)] [] M 0 0
  simp only [vc_X12_isDay] at h
  refine mx_iload_n (j := 0) hC dX12_isDay_0 rfl rfl ?_
  refine mx_i2l hC dX12_isDay_1 ?_
  refine mx_lconst (v := 0) hC dX12_isDay_2 (by decide) ?_
  refine mx_ldc2 (v := 73000) hC dX12_isDay_3 tw1378 ?_
  refine mx_callS (inj := mj_jB) (As := [vL ((l0 : Int32).toInt64), vL 0, vL 73000]) (st := []) hC (ct_X12_in ((l0 : Int32).toInt64) 0 73000 M _ h) ty_X12_in tw1379 rfl (Nat.le_of_ble_eq_true rfl) ⟨rfl, rfl, ⟨by decide, by decide⟩, by decide, by decide⟩ dX12_isDay_6 (fun r1 M2 h => ?_)
  show mj_X g 9 [(0, vI l0)] [vI (mj_b r1)] M2 0 0
  exact mx_zret (b := r1) hC hE rfl dX12_isDay_9 h
def rm_X12_until : Room := { frames := 0, cells := 0, slots := 0, locals := 0 }
theorem dX12_until_0 : decode cX12_until 0 = .ok (.aload_n 0, 1) := by decide +kernel
theorem dX12_until_1 : decode cX12_until 1 = .ok (.getfield 25, 3) := by decide +kernel
theorem dX12_until_4 : decode cX12_until 4 = .ok (.iload_n 1, 1) := by decide +kernel
theorem dX12_until_5 : decode cX12_until 5 = .ok (.iaload, 1) := by decide +kernel
theorem dX12_until_6 : decode cX12_until 6 = .ok (.ifCond .le 12, 3) := by decide +kernel
theorem dX12_until_9 : decode cX12_until 9 = .ok (.aload_n 0, 1) := by decide +kernel
theorem dX12_until_10 : decode cX12_until 10 = .ok (.getfield 22, 3) := by decide +kernel
theorem dX12_until_13 : decode cX12_until 13 = .ok (.iload_n 1, 1) := by decide +kernel
theorem dX12_until_14 : decode cX12_until 14 = .ok (.iaload, 1) := by decide +kernel
theorem dX12_until_15 : decode cX12_until 15 = .ok (.goto 9, 3) := by decide +kernel
theorem dX12_until_18 : decode cX12_until 18 = .ok (.aload_n 0, 1) := by decide +kernel
theorem dX12_until_19 : decode cX12_until 19 = .ok (.getfield 19, 3) := by decide +kernel
theorem dX12_until_22 : decode cX12_until 22 = .ok (.iload_n 1, 1) := by decide +kernel
theorem dX12_until_23 : decode cX12_until 23 = .ok (.iaload, 1) := by decide +kernel
theorem dX12_until_24 : decode cX12_until 24 = .ok (.ireturn, 1) := by decide +kernel
def vc_X12_until (l0 : Nat) (l1 : Int32) (M : mj_M) (post : Int32 → mj_M → Prop) : Prop := mj_tag M l0 = 13 ∧ mj_tag M (mj_r M l0 6) = 101 ∧ vp_in l1 (mj_len M (mj_r M l0 6)) ∧ if (mj_i M (mj_r M l0 6) (l1 : Int32).toNatClampNeg) ≤ 0 then (mj_tag M (mj_r M l0 4) = 101 ∧ vp_in l1 (mj_len M (mj_r M l0 4)) ∧ post (mj_i M (mj_r M l0 4) (l1 : Int32).toNatClampNeg) M) else (mj_tag M (mj_r M l0 5) = 101 ∧ vp_in l1 (mj_len M (mj_r M l0 5)) ∧ post (mj_i M (mj_r M l0 5) (l1 : Int32).toNatClampNeg) M)
set_option maxHeartbeats 4000000 in
set_option maxRecDepth 100000 in
theorem ct_X12_until {l : Launch} {base : Nat} {D : va_G} {A : ClassId × ClassId × ClassId} (l0 : Nat) (l1 : Int32) (M : mj_M) (post : Int32 → mj_M → Prop) (h : vc_X12_until l0 l1 M post) : mj_Met l base D A mj_jI yX12_until cX12_until 2 (some .int) rm_X12_until 0 0 [vR l0, vI l1] M post := by
  refine mj_entry (by decide +kernel) (Nat.le_of_ble_eq_true rfl) (fun g hC hE h1 h2 h3 h4 => ?_)
  show mj_X g 0 [(0, vR l0), (1, vI l1)] [] M 0 0
  simp only [vc_X12_until] at h
  refine mx_aload_n (j := 0) hC dX12_until_0 rfl rfl ?_
  obtain ⟨ht1, h⟩ := h
  refine mx_get (v := vR (mj_r M l0 6)) hC tf_X12_25 ht1 rfl dX12_until_1 ?_
  refine mx_iload_n (j := 1) hC dX12_until_4 rfl rfl ?_
  obtain ⟨ht2, h⟩ := h
  obtain ⟨hi3, h⟩ := h
  refine mx_iaload hC ht2 hi3 dX12_until_5 ?_
  refine mx_ifle (tgt := 18) hC dX12_until_6 (by decide) (fun hc4 => ?_) (fun hc4 => ?_)
  · replace h := mj_yy hc4 h
    refine mx_aload_n (j := 0) hC dX12_until_18 rfl rfl ?_
    refine mx_get (v := vR (mj_r M l0 4)) hC tf_X12_19 ht1 rfl dX12_until_19 ?_
    refine mx_iload_n (j := 1) hC dX12_until_22 rfl rfl ?_
    obtain ⟨ht5, h⟩ := h
    obtain ⟨hi6, h⟩ := h
    refine mx_iaload hC ht5 hi6 dX12_until_23 ?_
    exact mx_iret hC hE rfl dX12_until_24 h
  · replace h := mj_nn hc4 h
    refine mx_aload_n (j := 0) hC dX12_until_9 rfl rfl ?_
    refine mx_get (v := vR (mj_r M l0 5)) hC tf_X12_22 ht1 rfl dX12_until_10 ?_
    refine mx_iload_n (j := 1) hC dX12_until_13 rfl rfl ?_
    obtain ⟨ht7, h⟩ := h
    obtain ⟨hi8, h⟩ := h
    refine mx_iaload hC ht7 hi8 dX12_until_14 ?_
    refine mx_goto (tgt := 24) hC dX12_until_15 (by decide) ?_
    exact mx_iret hC hE rfl dX12_until_24 h
theorem tw1415 : (Jvm.Cond.methodLink "LeaseLandModel" (147 : Nat) ({ cls := "LeaseLandModel", name := "until", desc := "(I)I" } : Jvm.MethodName)) ∈ mj_tbl := mj_w 1468 (by decide +kernel) (by decide +kernel)
theorem tw1418 : (Jvm.Cond.code ({ cls := "LeaseLandModel", name := "until", desc := "(I)I" } : Jvm.MethodName) prog_14_method_10_code (2 : Nat) (Option.some Jvm.ClassFile.FieldType.int)) ∈ mj_tbl := mj_w 1471 (by decide +kernel) (by decide +kernel)
theorem tw1417 : (Jvm.Cond.instanceMethod ({ cls := "LeaseLandModel", name := "until", desc := "(I)I" } : Jvm.MethodName)) ∈ mj_tbl := mj_w 1470 (by decide +kernel) (by decide +kernel)
theorem ty_X12_until : mj_YV 12 yX12_until cX12_until 2 (some .int) 1 := ⟨⟨tw1418, tw11, by decide +kernel, by decide +kernel, by decide +kernel⟩, tw1417, mj_w 10 (by decide +kernel) (by decide +kernel), _, rfl, rfl⟩
def rm_X12_isOn : Room := { frames := 1, cells := 0, slots := 0, locals := 21 }
theorem dX12_isOn_0 : decode cX12_isOn 0 = .ok (.aload_n 0, 1) := by decide +kernel
theorem dX12_isOn_1 : decode cX12_isOn 1 = .ok (.getfield 16, 3) := by decide +kernel
theorem dX12_isOn_4 : decode cX12_isOn 4 = .ok (.iload_n 1, 1) := by decide +kernel
theorem dX12_isOn_5 : decode cX12_isOn 5 = .ok (.iaload, 1) := by decide +kernel
theorem dX12_isOn_6 : decode cX12_isOn 6 = .ok (.iload_n 2, 1) := by decide +kernel
theorem dX12_isOn_7 : decode cX12_isOn 7 = .ok (.if_icmp .gt 16, 3) := by decide +kernel
theorem dX12_isOn_10 : decode cX12_isOn 10 = .ok (.iload_n 2, 1) := by decide +kernel
theorem dX12_isOn_11 : decode cX12_isOn 11 = .ok (.aload_n 0, 1) := by decide +kernel
theorem dX12_isOn_12 : decode cX12_isOn 12 = .ok (.iload_n 1, 1) := by decide +kernel
theorem dX12_isOn_13 : decode cX12_isOn 13 = .ok (.invokevirtual 147, 3) := by decide +kernel
theorem dX12_isOn_16 : decode cX12_isOn 16 = .ok (.if_icmp .ge 7, 3) := by decide +kernel
theorem dX12_isOn_19 : decode cX12_isOn 19 = .ok (.iconst 1, 1) := by decide +kernel
theorem dX12_isOn_20 : decode cX12_isOn 20 = .ok (.goto 4, 3) := by decide +kernel
theorem dX12_isOn_23 : decode cX12_isOn 23 = .ok (.iconst 0, 1) := by decide +kernel
theorem dX12_isOn_24 : decode cX12_isOn 24 = .ok (.ireturn, 1) := by decide +kernel
def vc_X12_isOn (l0 : Nat) (l1 : Int32) (l2 : Int32) (M : mj_M) (post : Bool → mj_M → Prop) : Prop := mj_tag M l0 = 13 ∧ mj_tag M (mj_r M l0 3) = 101 ∧ vp_in l1 (mj_len M (mj_r M l0 3)) ∧ if l2 < (mj_i M (mj_r M l0 3) (l1 : Int32).toNatClampNeg) then (post false M) else (vc_X12_until l0 l1 M (fun r5 M6 => if r5 ≤ l2 then (post false M6) else (post true M6)))
set_option maxHeartbeats 4000000 in
set_option maxRecDepth 100000 in
theorem ct_X12_isOn {l : Launch} {base : Nat} {D : va_G} {A : ClassId × ClassId × ClassId} (l0 : Nat) (l1 : Int32) (l2 : Int32) (M : mj_M) (post : Bool → mj_M → Prop) (h : vc_X12_isOn l0 l1 l2 M post) : mj_Met l base D A mj_jB yX12_isOn cX12_isOn 3 (some .boolean) rm_X12_isOn 0 0 [vR l0, vI l1, vI l2] M post := by
  refine mj_entry (by decide +kernel) (Nat.le_of_ble_eq_true rfl) (fun g hC hE h1 h2 h3 h4 => ?_)
  show mj_X g 0 [(0, vR l0), (1, vI l1), (2, vI l2)] [] M 0 0
  simp only [vc_X12_isOn] at h
  refine mx_aload_n (j := 0) hC dX12_isOn_0 rfl rfl ?_
  obtain ⟨ht1, h⟩ := h
  refine mx_get (v := vR (mj_r M l0 3)) hC tf_X12_16 ht1 rfl dX12_isOn_1 ?_
  refine mx_iload_n (j := 1) hC dX12_isOn_4 rfl rfl ?_
  obtain ⟨ht2, h⟩ := h
  obtain ⟨hi3, h⟩ := h
  refine mx_iaload hC ht2 hi3 dX12_isOn_5 ?_
  refine mx_iload_n (j := 2) hC dX12_isOn_6 rfl rfl ?_
  refine mx_icmpgt (tgt := 23) hC dX12_isOn_7 (by decide) (fun hc4 => ?_) (fun hc4 => ?_)
  · replace h := mj_yy hc4 h
    refine mx_iconst (v := 0) hC dX12_isOn_23 (by decide) ?_
    exact mx_zret (b := false) hC hE rfl dX12_isOn_24 h
  · replace h := mj_nn hc4 h
    refine mx_iload_n (j := 2) hC dX12_isOn_10 rfl rfl ?_
    refine mx_aload_n (j := 0) hC dX12_isOn_11 rfl rfl ?_
    refine mx_iload_n (j := 1) hC dX12_isOn_12 rfl rfl ?_
    refine mx_callV (inj := mj_jI) (As := [vI l1]) (st := [vI l2]) hC (ct_X12_until l0 l1 M _ h) ty_X12_until tw1415 ht1 rfl (Nat.le_of_ble_eq_true rfl) ⟨rfl, rfl, ⟨by decide, by decide⟩, by decide, by decide⟩ dX12_isOn_13 (fun r5 M6 h => ?_)
    show mj_X g 16 [(0, vR l0), (1, vI l1), (2, vI l2)] [vI r5, vI l2] M6 0 0
    refine mx_icmpge (tgt := 23) hC dX12_isOn_16 (by decide) (fun hc7 => ?_) (fun hc7 => ?_)
    · replace h := mj_yy hc7 h
      refine mx_iconst (v := 0) hC dX12_isOn_23 (by decide) ?_
      exact mx_zret (b := false) hC hE rfl dX12_isOn_24 h
    · replace h := mj_nn hc7 h
      refine mx_iconst (v := 1) hC dX12_isOn_19 (by decide) ?_
      refine mx_goto (tgt := 24) hC dX12_isOn_20 (by decide) ?_
      exact mx_zret (b := true) hC hE rfl dX12_isOn_24 h
def rm_X12_lesser : Room := { frames := 0, cells := 0, slots := 0, locals := 0 }
theorem dX12_lesser_0 : decode cX12_lesser 0 = .ok (.iload_n 0, 1) := by decide +kernel
theorem dX12_lesser_1 : decode cX12_lesser 1 = .ok (.iload_n 1, 1) := by decide +kernel
theorem dX12_lesser_2 : decode cX12_lesser 2 = .ok (.if_icmp .ge 7, 3) := by decide +kernel
theorem dX12_lesser_5 : decode cX12_lesser 5 = .ok (.iload_n 0, 1) := by decide +kernel
theorem dX12_lesser_6 : decode cX12_lesser 6 = .ok (.goto 4, 3) := by decide +kernel
theorem dX12_lesser_9 : decode cX12_lesser 9 = .ok (.iload_n 1, 1) := by decide +kernel
theorem dX12_lesser_10 : decode cX12_lesser 10 = .ok (.ireturn, 1) := by decide +kernel
def vc_X12_lesser (l0 : Int32) (l1 : Int32) (M : mj_M) (post : Int32 → mj_M → Prop) : Prop := if l1 ≤ l0 then (post l1 M) else (post l0 M)
set_option maxHeartbeats 4000000 in
set_option maxRecDepth 100000 in
theorem ct_X12_lesser {l : Launch} {base : Nat} {D : va_G} {A : ClassId × ClassId × ClassId} (l0 : Int32) (l1 : Int32) (M : mj_M) (post : Int32 → mj_M → Prop) (h : vc_X12_lesser l0 l1 M post) : mj_Met l base D A mj_jI yX12_lesser cX12_lesser 2 (some .int) rm_X12_lesser 0 0 [vI l0, vI l1] M post := by
  refine mj_entry (by decide +kernel) (Nat.le_of_ble_eq_true rfl) (fun g hC hE h1 h2 h3 h4 => ?_)
  show mj_X g 0 [(0, vI l0), (1, vI l1)] [] M 0 0
  simp only [vc_X12_lesser] at h
  refine mx_iload_n (j := 0) hC dX12_lesser_0 rfl rfl ?_
  refine mx_iload_n (j := 1) hC dX12_lesser_1 rfl rfl ?_
  refine mx_icmpge (tgt := 9) hC dX12_lesser_2 (by decide) (fun hc1 => ?_) (fun hc1 => ?_)
  · replace h := mj_yy hc1 h
    refine mx_iload_n (j := 1) hC dX12_lesser_9 rfl rfl ?_
    exact mx_iret hC hE rfl dX12_lesser_10 h
  · replace h := mj_nn hc1 h
    refine mx_iload_n (j := 0) hC dX12_lesser_5 rfl rfl ?_
    refine mx_goto (tgt := 10) hC dX12_lesser_6 (by decide) ?_
    exact mx_iret hC hE rfl dX12_lesser_10 h
def rm_X12_greater : Room := { frames := 0, cells := 0, slots := 0, locals := 0 }
theorem dX12_greater_0 : decode cX12_greater 0 = .ok (.iload_n 0, 1) := by decide +kernel
theorem dX12_greater_1 : decode cX12_greater 1 = .ok (.iload_n 1, 1) := by decide +kernel
theorem dX12_greater_2 : decode cX12_greater 2 = .ok (.if_icmp .le 7, 3) := by decide +kernel
theorem dX12_greater_5 : decode cX12_greater 5 = .ok (.iload_n 0, 1) := by decide +kernel
theorem dX12_greater_6 : decode cX12_greater 6 = .ok (.goto 4, 3) := by decide +kernel
theorem dX12_greater_9 : decode cX12_greater 9 = .ok (.iload_n 1, 1) := by decide +kernel
theorem dX12_greater_10 : decode cX12_greater 10 = .ok (.ireturn, 1) := by decide +kernel
def vc_X12_greater (l0 : Int32) (l1 : Int32) (M : mj_M) (post : Int32 → mj_M → Prop) : Prop := if l0 ≤ l1 then (post l1 M) else (post l0 M)
set_option maxHeartbeats 4000000 in
set_option maxRecDepth 100000 in
theorem ct_X12_greater {l : Launch} {base : Nat} {D : va_G} {A : ClassId × ClassId × ClassId} (l0 : Int32) (l1 : Int32) (M : mj_M) (post : Int32 → mj_M → Prop) (h : vc_X12_greater l0 l1 M post) : mj_Met l base D A mj_jI yX12_greater cX12_greater 2 (some .int) rm_X12_greater 0 0 [vI l0, vI l1] M post := by
  refine mj_entry (by decide +kernel) (Nat.le_of_ble_eq_true rfl) (fun g hC hE h1 h2 h3 h4 => ?_)
  show mj_X g 0 [(0, vI l0), (1, vI l1)] [] M 0 0
  simp only [vc_X12_greater] at h
  refine mx_iload_n (j := 0) hC dX12_greater_0 rfl rfl ?_
  refine mx_iload_n (j := 1) hC dX12_greater_1 rfl rfl ?_
  refine mx_icmple (tgt := 9) hC dX12_greater_2 (by decide) (fun hc1 => ?_) (fun hc1 => ?_)
  · replace h := mj_yy hc1 h
    refine mx_iload_n (j := 1) hC dX12_greater_9 rfl rfl ?_
    exact mx_iret hC hE rfl dX12_greater_10 h
  · replace h := mj_nn hc1 h
    refine mx_iload_n (j := 0) hC dX12_greater_5 rfl rfl ?_
    refine mx_goto (tgt := 10) hC dX12_greater_6 (by decide) ?_
    exact mx_iret hC hE rfl dX12_greater_10 h
theorem tw1209 : (Jvm.Cond.fieldLink "LeaseLandModel" (151 : Nat) "LeaseLandModel" "today" "I") ∈ mj_tbl := mj_w 1262 (by decide +kernel) (by decide +kernel)
theorem tf_X12_151 : mj_F 12 0 .int false "LeaseLandModel" 151 := ⟨_, tk12, by decide, rfl, rfl, rfl, tw1209⟩
def rm_X12_today : Room := { frames := 1, cells := 0, slots := 0, locals := 25 }
theorem dX12_today_0 : decode cX12_today 0 = .ok (.iload_n 1, 1) := by decide +kernel
theorem dX12_today_1 : decode cX12_today 1 = .ok (.i2l, 1) := by decide +kernel
theorem dX12_today_2 : decode cX12_today 2 = .ok (.aload_n 0, 1) := by decide +kernel
theorem dX12_today_3 : decode cX12_today 3 = .ok (.getfield 151, 3) := by decide +kernel
theorem dX12_today_6 : decode cX12_today 6 = .ok (.i2l, 1) := by decide +kernel
theorem dX12_today_7 : decode cX12_today 7 = .ok (.ldc2_w 145, 3) := by decide +kernel
theorem dX12_today_10 : decode cX12_today 10 = .ok (.invokestatic 133, 3) := by decide +kernel
theorem dX12_today_13 : decode cX12_today 13 = .ok (.ifCond .ne 6, 3) := by decide +kernel
theorem dX12_today_16 : decode cX12_today 16 = .ok (.bipush (-2), 2) := by decide +kernel
theorem dX12_today_18 : decode cX12_today 18 = .ok (.ireturn, 1) := by decide +kernel
theorem dX12_today_19 : decode cX12_today 19 = .ok (.aload_n 0, 1) := by decide +kernel
theorem dX12_today_20 : decode cX12_today 20 = .ok (.getfield 151, 3) := by decide +kernel
theorem dX12_today_23 : decode cX12_today 23 = .ok (.istore_n 2, 1) := by decide +kernel
theorem dX12_today_24 : decode cX12_today 24 = .ok (.aload_n 0, 1) := by decide +kernel
theorem dX12_today_25 : decode cX12_today 25 = .ok (.iload_n 1, 1) := by decide +kernel
theorem dX12_today_26 : decode cX12_today 26 = .ok (.putfield 151, 3) := by decide +kernel
theorem dX12_today_29 : decode cX12_today 29 = .ok (.iload_n 2, 1) := by decide +kernel
theorem dX12_today_30 : decode cX12_today 30 = .ok (.ireturn, 1) := by decide +kernel
def vc_X12_today (l0 : Nat) (l1 : Int32) (M : mj_M) (post : Int32 → mj_M → Prop) : Prop := mj_tag M l0 = 13 ∧ vc_X12_in ((l1 : Int32).toInt64) ((mj_i M l0 0 : Int32).toInt64) 73000 M (fun r2 M3 => if r2 = true then (mj_tag M3 l0 = 13 ∧ post (mj_i M3 l0 0) (mj_wi M3 l0 0 l1)) else (post ((-2)) M3))
set_option maxHeartbeats 4000000 in
set_option maxRecDepth 100000 in
theorem ct_X12_today {l : Launch} {base : Nat} {D : va_G} {A : ClassId × ClassId × ClassId} (l0 : Nat) (l1 : Int32) (M : mj_M) (post : Int32 → mj_M → Prop) (h : vc_X12_today l0 l1 M post) : mj_Met l base D A mj_jI yX12_today cX12_today 3 (some .int) rm_X12_today 0 0 [vR l0, vI l1] M post := by
  refine mj_entry (by decide +kernel) (Nat.le_of_ble_eq_true rfl) (fun g hC hE h1 h2 h3 h4 => ?_)
  show mj_X g 0 [(0, vR l0), (1, vI l1)] [] M 0 0
  simp only [vc_X12_today] at h
  refine mx_iload_n (j := 1) hC dX12_today_0 rfl rfl ?_
  refine mx_i2l hC dX12_today_1 ?_
  refine mx_aload_n (j := 0) hC dX12_today_2 rfl rfl ?_
  obtain ⟨ht1, h⟩ := h
  refine mx_get (v := vI (mj_i M l0 0)) hC tf_X12_151 ht1 rfl dX12_today_3 ?_
  refine mx_i2l hC dX12_today_6 ?_
  refine mx_ldc2 (v := 73000) hC dX12_today_7 tw1378 ?_
  refine mx_callS (inj := mj_jB) (As := [vL ((l1 : Int32).toInt64), vL ((mj_i M l0 0 : Int32).toInt64), vL 73000]) (st := []) hC (ct_X12_in ((l1 : Int32).toInt64) ((mj_i M l0 0 : Int32).toInt64) 73000 M _ h) ty_X12_in tw1379 rfl (Nat.le_of_ble_eq_true rfl) ⟨rfl, rfl, ⟨by decide, by decide⟩, by decide, by decide⟩ dX12_today_10 (fun r2 M3 h => ?_)
  show mj_X g 13 [(0, vR l0), (1, vI l1)] [vI (mj_b r2)] M3 0 0
  refine mx_ifneB (tgt := 19) hC dX12_today_13 (by decide) (fun hc4 => ?_) (fun hc4 => ?_)
  · replace h := mj_yy hc4 h
    refine mx_aload_n (j := 0) hC dX12_today_19 rfl rfl ?_
    obtain ⟨ht5, h⟩ := h
    refine mx_get (v := vI (mj_i M3 l0 0)) hC tf_X12_151 ht5 rfl dX12_today_20 ?_
    refine mx_istore_n (L' := [(2, vI (mj_i M3 l0 0)), (0, vR l0), (1, vI l1)]) hC dX12_today_23 rfl (by decide) rfl ?_
    refine mx_aload_n (j := 1) hC dX12_today_24 rfl rfl ?_
    refine mx_iload_n (j := 2) hC dX12_today_25 rfl rfl ?_
    refine mx_put (v := vI l1) (M1 := mj_wi M3 l0 0 l1) hC tf_X12_151 ht5 (Or.inl rfl) ⟨rfl, rfl⟩ (mj_off_wi _ _ _ _) mj_put_wi dX12_today_26 ?_
    refine mx_iload_n (j := 0) hC dX12_today_29 rfl rfl ?_
    exact mx_iret hC hE rfl dX12_today_30 h
  · replace h := mj_nn hc4 h
    refine mx_bipush (v := (-2)) hC dX12_today_16 (by decide) ?_
    exact mx_iret hC hE rfl dX12_today_18 h
def rm_X12_add : Room := { frames := 0, cells := 0, slots := 0, locals := 0 }
theorem dX12_add_0 : decode cX12_add 0 = .ok (.aload_n 0, 1) := by decide +kernel
theorem dX12_add_1 : decode cX12_add 1 = .ok (.getfield 130, 3) := by decide +kernel
theorem dX12_add_4 : decode cX12_add 4 = .ok (.istore 7, 2) := by decide +kernel
theorem dX12_add_6 : decode cX12_add 6 = .ok (.aload_n 0, 1) := by decide +kernel
theorem dX12_add_7 : decode cX12_add 7 = .ok (.getfield 7, 3) := by decide +kernel
theorem dX12_add_10 : decode cX12_add 10 = .ok (.iload 7, 2) := by decide +kernel
theorem dX12_add_12 : decode cX12_add 12 = .ok (.iload_n 1, 1) := by decide +kernel
theorem dX12_add_13 : decode cX12_add 13 = .ok (.iastore, 1) := by decide +kernel
theorem dX12_add_14 : decode cX12_add 14 = .ok (.aload_n 0, 1) := by decide +kernel
theorem dX12_add_15 : decode cX12_add 15 = .ok (.getfield 13, 3) := by decide +kernel
theorem dX12_add_18 : decode cX12_add 18 = .ok (.iload 7, 2) := by decide +kernel
theorem dX12_add_20 : decode cX12_add 20 = .ok (.iload_n 2, 1) := by decide +kernel
theorem dX12_add_21 : decode cX12_add 21 = .ok (.iastore, 1) := by decide +kernel
theorem dX12_add_22 : decode cX12_add 22 = .ok (.aload_n 0, 1) := by decide +kernel
theorem dX12_add_23 : decode cX12_add 23 = .ok (.getfield 16, 3) := by decide +kernel
theorem dX12_add_26 : decode cX12_add 26 = .ok (.iload 7, 2) := by decide +kernel
theorem dX12_add_28 : decode cX12_add 28 = .ok (.iload_n 3, 1) := by decide +kernel
theorem dX12_add_29 : decode cX12_add 29 = .ok (.iastore, 1) := by decide +kernel
theorem dX12_add_30 : decode cX12_add 30 = .ok (.aload_n 0, 1) := by decide +kernel
theorem dX12_add_31 : decode cX12_add 31 = .ok (.getfield 19, 3) := by decide +kernel
theorem dX12_add_34 : decode cX12_add 34 = .ok (.iload 7, 2) := by decide +kernel
theorem dX12_add_36 : decode cX12_add 36 = .ok (.iload 4, 2) := by decide +kernel
theorem dX12_add_38 : decode cX12_add 38 = .ok (.iastore, 1) := by decide +kernel
theorem dX12_add_39 : decode cX12_add 39 = .ok (.aload_n 0, 1) := by decide +kernel
theorem dX12_add_40 : decode cX12_add 40 = .ok (.getfield 22, 3) := by decide +kernel
theorem dX12_add_43 : decode cX12_add 43 = .ok (.iload 7, 2) := by decide +kernel
theorem dX12_add_45 : decode cX12_add 45 = .ok (.iconst 0, 1) := by decide +kernel
theorem dX12_add_46 : decode cX12_add 46 = .ok (.iastore, 1) := by decide +kernel
theorem dX12_add_47 : decode cX12_add 47 = .ok (.aload_n 0, 1) := by decide +kernel
theorem dX12_add_48 : decode cX12_add 48 = .ok (.getfield 25, 3) := by decide +kernel
theorem dX12_add_51 : decode cX12_add 51 = .ok (.iload 7, 2) := by decide +kernel
theorem dX12_add_53 : decode cX12_add 53 = .ok (.iconst 0, 1) := by decide +kernel
theorem dX12_add_54 : decode cX12_add 54 = .ok (.iastore, 1) := by decide +kernel
theorem dX12_add_55 : decode cX12_add 55 = .ok (.aload_n 0, 1) := by decide +kernel
theorem dX12_add_56 : decode cX12_add 56 = .ok (.getfield 28, 3) := by decide +kernel
theorem dX12_add_59 : decode cX12_add 59 = .ok (.iload 7, 2) := by decide +kernel
theorem dX12_add_61 : decode cX12_add 61 = .ok (.iload 5, 2) := by decide +kernel
theorem dX12_add_63 : decode cX12_add 63 = .ok (.iastore, 1) := by decide +kernel
theorem dX12_add_64 : decode cX12_add 64 = .ok (.aload_n 0, 1) := by decide +kernel
theorem dX12_add_65 : decode cX12_add 65 = .ok (.getfield 31, 3) := by decide +kernel
theorem dX12_add_68 : decode cX12_add 68 = .ok (.iload 7, 2) := by decide +kernel
theorem dX12_add_70 : decode cX12_add 70 = .ok (.iload 6, 2) := by decide +kernel
theorem dX12_add_72 : decode cX12_add 72 = .ok (.iastore, 1) := by decide +kernel
theorem dX12_add_73 : decode cX12_add 73 = .ok (.aload_n 0, 1) := by decide +kernel
theorem dX12_add_74 : decode cX12_add 74 = .ok (.getfield 34, 3) := by decide +kernel
theorem dX12_add_77 : decode cX12_add 77 = .ok (.iload 7, 2) := by decide +kernel
theorem dX12_add_79 : decode cX12_add 79 = .ok (.iconst 0, 1) := by decide +kernel
theorem dX12_add_80 : decode cX12_add 80 = .ok (.iastore, 1) := by decide +kernel
theorem dX12_add_81 : decode cX12_add 81 = .ok (.aload_n 0, 1) := by decide +kernel
theorem dX12_add_82 : decode cX12_add 82 = .ok (.getfield 37, 3) := by decide +kernel
theorem dX12_add_85 : decode cX12_add 85 = .ok (.iload 7, 2) := by decide +kernel
theorem dX12_add_87 : decode cX12_add 87 = .ok (.iconst 0, 1) := by decide +kernel
theorem dX12_add_88 : decode cX12_add 88 = .ok (.iastore, 1) := by decide +kernel
theorem dX12_add_89 : decode cX12_add 89 = .ok (.aload_n 0, 1) := by decide +kernel
theorem dX12_add_90 : decode cX12_add 90 = .ok (.getfield 40, 3) := by decide +kernel
theorem dX12_add_93 : decode cX12_add 93 = .ok (.iload 7, 2) := by decide +kernel
theorem dX12_add_95 : decode cX12_add 95 = .ok (.bipush (-6), 2) := by decide +kernel
theorem dX12_add_97 : decode cX12_add 97 = .ok (.iastore, 1) := by decide +kernel
theorem dX12_add_98 : decode cX12_add 98 = .ok (.aload_n 0, 1) := by decide +kernel
theorem dX12_add_99 : decode cX12_add 99 = .ok (.getfield 43, 3) := by decide +kernel
theorem dX12_add_102 : decode cX12_add 102 = .ok (.iload 7, 2) := by decide +kernel
theorem dX12_add_104 : decode cX12_add 104 = .ok (.bipush (-6), 2) := by decide +kernel
theorem dX12_add_106 : decode cX12_add 106 = .ok (.iastore, 1) := by decide +kernel
theorem dX12_add_107 : decode cX12_add 107 = .ok (.aload_n 0, 1) := by decide +kernel
theorem dX12_add_108 : decode cX12_add 108 = .ok (.dup, 1) := by decide +kernel
theorem dX12_add_109 : decode cX12_add 109 = .ok (.getfield 130, 3) := by decide +kernel
theorem dX12_add_112 : decode cX12_add 112 = .ok (.iconst 1, 1) := by decide +kernel
theorem dX12_add_113 : decode cX12_add 113 = .ok (.iadd, 1) := by decide +kernel
theorem dX12_add_114 : decode cX12_add 114 = .ok (.putfield 130, 3) := by decide +kernel
theorem dX12_add_117 : decode cX12_add 117 = .ok (.iload 7, 2) := by decide +kernel
theorem dX12_add_119 : decode cX12_add 119 = .ok (.ireturn, 1) := by decide +kernel
def vc_X12_add (l0 : Nat) (l1 : Int32) (l2 : Int32) (l3 : Int32) (l4 : Int32) (l5 : Int32) (l6 : Int32) (M : mj_M) (post : Int32 → mj_M → Prop) : Prop := mj_tag M l0 = 13 ∧ mj_tag M (mj_r M l0 1) = 101 ∧ vp_in (mj_i M l0 13) (mj_len M (mj_r M l0 1)) ∧ mj_tag M (mj_r M l0 2) = 101 ∧ vp_in (mj_i M l0 13) (mj_len M (mj_r M l0 2)) ∧ mj_tag M (mj_r M l0 3) = 101 ∧ vp_in (mj_i M l0 13) (mj_len M (mj_r M l0 3)) ∧ mj_tag M (mj_r M l0 4) = 101 ∧ vp_in (mj_i M l0 13) (mj_len M (mj_r M l0 4)) ∧ mj_tag M (mj_r M l0 5) = 101 ∧ vp_in (mj_i M l0 13) (mj_len M (mj_r M l0 5)) ∧ mj_tag M (mj_r M l0 6) = 101 ∧ vp_in (mj_i M l0 13) (mj_len M (mj_r M l0 6)) ∧ mj_tag M (mj_r M l0 7) = 101 ∧ vp_in (mj_i M l0 13) (mj_len M (mj_r M l0 7)) ∧ mj_tag M (mj_r M l0 8) = 101 ∧ vp_in (mj_i M l0 13) (mj_len M (mj_r M l0 8)) ∧ mj_tag M (mj_r M l0 9) = 101 ∧ vp_in (mj_i M l0 13) (mj_len M (mj_r M l0 9)) ∧ mj_tag M (mj_r M l0 10) = 101 ∧ vp_in (mj_i M l0 13) (mj_len M (mj_r M l0 10)) ∧ mj_tag M (mj_r M l0 11) = 101 ∧ vp_in (mj_i M l0 13) (mj_len M (mj_r M l0 11)) ∧ mj_tag M (mj_r M l0 12) = 101 ∧ vp_in (mj_i M l0 13) (mj_len M (mj_r M l0 12)) ∧ post (mj_i M l0 13) (mj_wi (mj_wi (mj_wi (mj_wi (mj_wi (mj_wi (mj_wi (mj_wi (mj_wi (mj_wi (mj_wi (mj_wi (mj_wi M (mj_r M l0 1) (mj_i M l0 13 : Int32).toNatClampNeg l1) (mj_r M l0 2) (mj_i M l0 13 : Int32).toNatClampNeg l2) (mj_r M l0 3) (mj_i M l0 13 : Int32).toNatClampNeg l3) (mj_r M l0 4) (mj_i M l0 13 : Int32).toNatClampNeg l4) (mj_r M l0 5) (mj_i M l0 13 : Int32).toNatClampNeg 0) (mj_r M l0 6) (mj_i M l0 13 : Int32).toNatClampNeg 0) (mj_r M l0 7) (mj_i M l0 13 : Int32).toNatClampNeg l5) (mj_r M l0 8) (mj_i M l0 13 : Int32).toNatClampNeg l6) (mj_r M l0 9) (mj_i M l0 13 : Int32).toNatClampNeg 0) (mj_r M l0 10) (mj_i M l0 13 : Int32).toNatClampNeg 0) (mj_r M l0 11) (mj_i M l0 13 : Int32).toNatClampNeg ((-6))) (mj_r M l0 12) (mj_i M l0 13 : Int32).toNatClampNeg ((-6))) l0 13 ((mj_i (mj_wi (mj_wi (mj_wi (mj_wi (mj_wi (mj_wi (mj_wi (mj_wi (mj_wi (mj_wi (mj_wi (mj_wi M (mj_r M l0 1) (mj_i M l0 13 : Int32).toNatClampNeg l1) (mj_r M l0 2) (mj_i M l0 13 : Int32).toNatClampNeg l2) (mj_r M l0 3) (mj_i M l0 13 : Int32).toNatClampNeg l3) (mj_r M l0 4) (mj_i M l0 13 : Int32).toNatClampNeg l4) (mj_r M l0 5) (mj_i M l0 13 : Int32).toNatClampNeg 0) (mj_r M l0 6) (mj_i M l0 13 : Int32).toNatClampNeg 0) (mj_r M l0 7) (mj_i M l0 13 : Int32).toNatClampNeg l5) (mj_r M l0 8) (mj_i M l0 13 : Int32).toNatClampNeg l6) (mj_r M l0 9) (mj_i M l0 13 : Int32).toNatClampNeg 0) (mj_r M l0 10) (mj_i M l0 13 : Int32).toNatClampNeg 0) (mj_r M l0 11) (mj_i M l0 13 : Int32).toNatClampNeg ((-6))) (mj_r M l0 12) (mj_i M l0 13 : Int32).toNatClampNeg ((-6))) l0 13) + 1))
set_option maxHeartbeats 4000000 in
set_option maxRecDepth 100000 in
theorem ct_X12_add {l : Launch} {base : Nat} {D : va_G} {A : ClassId × ClassId × ClassId} (l0 : Nat) (l1 : Int32) (l2 : Int32) (l3 : Int32) (l4 : Int32) (l5 : Int32) (l6 : Int32) (M : mj_M) (post : Int32 → mj_M → Prop) (h : vc_X12_add l0 l1 l2 l3 l4 l5 l6 M post) : mj_Met l base D A mj_jI yX12_add cX12_add 8 (some .int) rm_X12_add 0 0 [vR l0, vI l1, vI l2, vI l3, vI l4, vI l5, vI l6] M post := by
  refine mj_entry (by decide +kernel) (Nat.le_of_ble_eq_true rfl) (fun g hC hE h1 h2 h3 h4 => ?_)
  show mj_X g 0 [(0, vR l0), (1, vI l1), (2, vI l2), (3, vI l3), (4, vI l4), (5, vI l5), (6, vI l6)] [] M 0 0
  simp only [vc_X12_add] at h
  refine mx_aload_n (j := 0) hC dX12_add_0 rfl rfl ?_
  obtain ⟨ht1, h⟩ := h
  refine mx_get (v := vI (mj_i M l0 13)) hC tf_X12_130 ht1 rfl dX12_add_1 ?_
  refine mx_istore (L' := [(7, vI (mj_i M l0 13)), (0, vR l0), (1, vI l1), (2, vI l2), (3, vI l3), (4, vI l4), (5, vI l5), (6, vI l6)]) hC dX12_add_4 (by decide) rfl ?_
  refine mx_aload_n (j := 1) hC dX12_add_6 rfl rfl ?_
  refine mx_get (v := vR (mj_r M l0 1)) hC tf_X12_7 ht1 rfl dX12_add_7 ?_
  refine mx_iload (j := 0) hC dX12_add_10 rfl ?_
  refine mx_iload_n (j := 2) hC dX12_add_12 rfl rfl ?_
  obtain ⟨ht2, h⟩ := h
  obtain ⟨hi3, h⟩ := h
  refine mx_iastore hC ht2 hi3 dX12_add_13 ?_
  refine mx_aload_n (j := 1) hC dX12_add_14 rfl rfl ?_
  refine mx_get (v := vR (mj_r M l0 2)) hC tf_X12_13 ht1 rfl dX12_add_15 ?_
  refine mx_iload (j := 0) hC dX12_add_18 rfl ?_
  refine mx_iload_n (j := 3) hC dX12_add_20 rfl rfl ?_
  obtain ⟨ht4, h⟩ := h
  obtain ⟨hi5, h⟩ := h
  refine mx_iastore hC ht4 hi5 dX12_add_21 ?_
  refine mx_aload_n (j := 1) hC dX12_add_22 rfl rfl ?_
  refine mx_get (v := vR (mj_r M l0 3)) hC tf_X12_16 ht1 rfl dX12_add_23 ?_
  refine mx_iload (j := 0) hC dX12_add_26 rfl ?_
  refine mx_iload_n (j := 4) hC dX12_add_28 rfl rfl ?_
  obtain ⟨ht6, h⟩ := h
  obtain ⟨hi7, h⟩ := h
  refine mx_iastore hC ht6 hi7 dX12_add_29 ?_
  refine mx_aload_n (j := 1) hC dX12_add_30 rfl rfl ?_
  refine mx_get (v := vR (mj_r M l0 4)) hC tf_X12_19 ht1 rfl dX12_add_31 ?_
  refine mx_iload (j := 0) hC dX12_add_34 rfl ?_
  refine mx_iload (j := 5) hC dX12_add_36 rfl ?_
  obtain ⟨ht8, h⟩ := h
  obtain ⟨hi9, h⟩ := h
  refine mx_iastore hC ht8 hi9 dX12_add_38 ?_
  refine mx_aload_n (j := 1) hC dX12_add_39 rfl rfl ?_
  refine mx_get (v := vR (mj_r M l0 5)) hC tf_X12_22 ht1 rfl dX12_add_40 ?_
  refine mx_iload (j := 0) hC dX12_add_43 rfl ?_
  refine mx_iconst (v := 0) hC dX12_add_45 (by decide) ?_
  obtain ⟨ht10, h⟩ := h
  obtain ⟨hi11, h⟩ := h
  refine mx_iastore hC ht10 hi11 dX12_add_46 ?_
  refine mx_aload_n (j := 1) hC dX12_add_47 rfl rfl ?_
  refine mx_get (v := vR (mj_r M l0 6)) hC tf_X12_25 ht1 rfl dX12_add_48 ?_
  refine mx_iload (j := 0) hC dX12_add_51 rfl ?_
  refine mx_iconst (v := 0) hC dX12_add_53 (by decide) ?_
  obtain ⟨ht12, h⟩ := h
  obtain ⟨hi13, h⟩ := h
  refine mx_iastore hC ht12 hi13 dX12_add_54 ?_
  refine mx_aload_n (j := 1) hC dX12_add_55 rfl rfl ?_
  refine mx_get (v := vR (mj_r M l0 7)) hC tf_X12_28 ht1 rfl dX12_add_56 ?_
  refine mx_iload (j := 0) hC dX12_add_59 rfl ?_
  refine mx_iload (j := 6) hC dX12_add_61 rfl ?_
  obtain ⟨ht14, h⟩ := h
  obtain ⟨hi15, h⟩ := h
  refine mx_iastore hC ht14 hi15 dX12_add_63 ?_
  refine mx_aload_n (j := 1) hC dX12_add_64 rfl rfl ?_
  refine mx_get (v := vR (mj_r M l0 8)) hC tf_X12_31 ht1 rfl dX12_add_65 ?_
  refine mx_iload (j := 0) hC dX12_add_68 rfl ?_
  refine mx_iload (j := 7) hC dX12_add_70 rfl ?_
  obtain ⟨ht16, h⟩ := h
  obtain ⟨hi17, h⟩ := h
  refine mx_iastore hC ht16 hi17 dX12_add_72 ?_
  refine mx_aload_n (j := 1) hC dX12_add_73 rfl rfl ?_
  refine mx_get (v := vR (mj_r M l0 9)) hC tf_X12_34 ht1 rfl dX12_add_74 ?_
  refine mx_iload (j := 0) hC dX12_add_77 rfl ?_
  refine mx_iconst (v := 0) hC dX12_add_79 (by decide) ?_
  obtain ⟨ht18, h⟩ := h
  obtain ⟨hi19, h⟩ := h
  refine mx_iastore hC ht18 hi19 dX12_add_80 ?_
  refine mx_aload_n (j := 1) hC dX12_add_81 rfl rfl ?_
  refine mx_get (v := vR (mj_r M l0 10)) hC tf_X12_37 ht1 rfl dX12_add_82 ?_
  refine mx_iload (j := 0) hC dX12_add_85 rfl ?_
  refine mx_iconst (v := 0) hC dX12_add_87 (by decide) ?_
  obtain ⟨ht20, h⟩ := h
  obtain ⟨hi21, h⟩ := h
  refine mx_iastore hC ht20 hi21 dX12_add_88 ?_
  refine mx_aload_n (j := 1) hC dX12_add_89 rfl rfl ?_
  refine mx_get (v := vR (mj_r M l0 11)) hC tf_X12_40 ht1 rfl dX12_add_90 ?_
  refine mx_iload (j := 0) hC dX12_add_93 rfl ?_
  refine mx_bipush (v := (-6)) hC dX12_add_95 (by decide) ?_
  obtain ⟨ht22, h⟩ := h
  obtain ⟨hi23, h⟩ := h
  refine mx_iastore hC ht22 hi23 dX12_add_97 ?_
  refine mx_aload_n (j := 1) hC dX12_add_98 rfl rfl ?_
  refine mx_get (v := vR (mj_r M l0 12)) hC tf_X12_43 ht1 rfl dX12_add_99 ?_
  refine mx_iload (j := 0) hC dX12_add_102 rfl ?_
  refine mx_bipush (v := (-6)) hC dX12_add_104 (by decide) ?_
  obtain ⟨ht24, h⟩ := h
  obtain ⟨hi25, h⟩ := h
  refine mx_iastore hC ht24 hi25 dX12_add_106 ?_
  refine mx_aload_n (j := 1) hC dX12_add_107 rfl rfl ?_
  refine mx_dup hC dX12_add_108 rfl ?_
  refine mx_get (v := vI (mj_i (mj_wi (mj_wi (mj_wi (mj_wi (mj_wi (mj_wi (mj_wi (mj_wi (mj_wi (mj_wi (mj_wi (mj_wi M (mj_r M l0 1) (mj_i M l0 13 : Int32).toNatClampNeg l1) (mj_r M l0 2) (mj_i M l0 13 : Int32).toNatClampNeg l2) (mj_r M l0 3) (mj_i M l0 13 : Int32).toNatClampNeg l3) (mj_r M l0 4) (mj_i M l0 13 : Int32).toNatClampNeg l4) (mj_r M l0 5) (mj_i M l0 13 : Int32).toNatClampNeg 0) (mj_r M l0 6) (mj_i M l0 13 : Int32).toNatClampNeg 0) (mj_r M l0 7) (mj_i M l0 13 : Int32).toNatClampNeg l5) (mj_r M l0 8) (mj_i M l0 13 : Int32).toNatClampNeg l6) (mj_r M l0 9) (mj_i M l0 13 : Int32).toNatClampNeg 0) (mj_r M l0 10) (mj_i M l0 13 : Int32).toNatClampNeg 0) (mj_r M l0 11) (mj_i M l0 13 : Int32).toNatClampNeg ((-6))) (mj_r M l0 12) (mj_i M l0 13 : Int32).toNatClampNeg ((-6))) l0 13)) hC tf_X12_130 ht1 rfl dX12_add_109 ?_
  refine mx_iconst (v := 1) hC dX12_add_112 (by decide) ?_
  refine mx_iadd hC dX12_add_113 ?_
  refine mx_put (v := vI ((mj_i (mj_wi (mj_wi (mj_wi (mj_wi (mj_wi (mj_wi (mj_wi (mj_wi (mj_wi (mj_wi (mj_wi (mj_wi M (mj_r M l0 1) (mj_i M l0 13 : Int32).toNatClampNeg l1) (mj_r M l0 2) (mj_i M l0 13 : Int32).toNatClampNeg l2) (mj_r M l0 3) (mj_i M l0 13 : Int32).toNatClampNeg l3) (mj_r M l0 4) (mj_i M l0 13 : Int32).toNatClampNeg l4) (mj_r M l0 5) (mj_i M l0 13 : Int32).toNatClampNeg 0) (mj_r M l0 6) (mj_i M l0 13 : Int32).toNatClampNeg 0) (mj_r M l0 7) (mj_i M l0 13 : Int32).toNatClampNeg l5) (mj_r M l0 8) (mj_i M l0 13 : Int32).toNatClampNeg l6) (mj_r M l0 9) (mj_i M l0 13 : Int32).toNatClampNeg 0) (mj_r M l0 10) (mj_i M l0 13 : Int32).toNatClampNeg 0) (mj_r M l0 11) (mj_i M l0 13 : Int32).toNatClampNeg ((-6))) (mj_r M l0 12) (mj_i M l0 13 : Int32).toNatClampNeg ((-6))) l0 13) + 1)) (M1 := mj_wi (mj_wi (mj_wi (mj_wi (mj_wi (mj_wi (mj_wi (mj_wi (mj_wi (mj_wi (mj_wi (mj_wi (mj_wi M (mj_r M l0 1) (mj_i M l0 13 : Int32).toNatClampNeg l1) (mj_r M l0 2) (mj_i M l0 13 : Int32).toNatClampNeg l2) (mj_r M l0 3) (mj_i M l0 13 : Int32).toNatClampNeg l3) (mj_r M l0 4) (mj_i M l0 13 : Int32).toNatClampNeg l4) (mj_r M l0 5) (mj_i M l0 13 : Int32).toNatClampNeg 0) (mj_r M l0 6) (mj_i M l0 13 : Int32).toNatClampNeg 0) (mj_r M l0 7) (mj_i M l0 13 : Int32).toNatClampNeg l5) (mj_r M l0 8) (mj_i M l0 13 : Int32).toNatClampNeg l6) (mj_r M l0 9) (mj_i M l0 13 : Int32).toNatClampNeg 0) (mj_r M l0 10) (mj_i M l0 13 : Int32).toNatClampNeg 0) (mj_r M l0 11) (mj_i M l0 13 : Int32).toNatClampNeg ((-6))) (mj_r M l0 12) (mj_i M l0 13 : Int32).toNatClampNeg ((-6))) l0 13 ((mj_i (mj_wi (mj_wi (mj_wi (mj_wi (mj_wi (mj_wi (mj_wi (mj_wi (mj_wi (mj_wi (mj_wi (mj_wi M (mj_r M l0 1) (mj_i M l0 13 : Int32).toNatClampNeg l1) (mj_r M l0 2) (mj_i M l0 13 : Int32).toNatClampNeg l2) (mj_r M l0 3) (mj_i M l0 13 : Int32).toNatClampNeg l3) (mj_r M l0 4) (mj_i M l0 13 : Int32).toNatClampNeg l4) (mj_r M l0 5) (mj_i M l0 13 : Int32).toNatClampNeg 0) (mj_r M l0 6) (mj_i M l0 13 : Int32).toNatClampNeg 0) (mj_r M l0 7) (mj_i M l0 13 : Int32).toNatClampNeg l5) (mj_r M l0 8) (mj_i M l0 13 : Int32).toNatClampNeg l6) (mj_r M l0 9) (mj_i M l0 13 : Int32).toNatClampNeg 0) (mj_r M l0 10) (mj_i M l0 13 : Int32).toNatClampNeg 0) (mj_r M l0 11) (mj_i M l0 13 : Int32).toNatClampNeg ((-6))) (mj_r M l0 12) (mj_i M l0 13 : Int32).toNatClampNeg ((-6))) l0 13) + 1)) hC tf_X12_130 ht1 (Or.inl rfl) ⟨rfl, rfl⟩ (mj_off_wi _ _ _ _) mj_put_wi dX12_add_114 ?_
  refine mx_iload (j := 0) hC dX12_add_117 rfl ?_
  exact mx_iret hC hE rfl dX12_add_119 h
theorem tw1386 : (Jvm.Cond.methodLink "LeaseLandModel" (154 : Nat) ({ cls := "LeaseLandModel", name := "isPerson", desc := "(I)Z" } : Jvm.MethodName)) ∈ mj_tbl := mj_w 1439 (by decide +kernel) (by decide +kernel)
theorem tw1390 : (Jvm.Cond.methodLink "LeaseLandModel" (157 : Nat) ({ cls := "LeaseLandModel", name := "areFloors", desc := "(I)Z" } : Jvm.MethodName)) ∈ mj_tbl := mj_w 1443 (by decide +kernel) (by decide +kernel)
theorem tw1394 : (Jvm.Cond.constant "LeaseLandModel" (160 : Nat) (73000 : Int32)) ∈ mj_tbl := mj_w 1447 (by decide +kernel) (by decide +kernel)
theorem tw1395 : (Jvm.Cond.methodLink "LeaseLandModel" (161 : Nat) ({ cls := "LeaseLandModel", name := "add", desc := "(IIIIII)I" } : Jvm.MethodName)) ∈ mj_tbl := mj_w 1448 (by decide +kernel) (by decide +kernel)
theorem tw1398 : (Jvm.Cond.code ({ cls := "LeaseLandModel", name := "add", desc := "(IIIIII)I" } : Jvm.MethodName) prog_14_method_15_code (8 : Nat) (Option.some Jvm.ClassFile.FieldType.int)) ∈ mj_tbl := mj_w 1451 (by decide +kernel) (by decide +kernel)
theorem tw1397 : (Jvm.Cond.instanceMethod ({ cls := "LeaseLandModel", name := "add", desc := "(IIIIII)I" } : Jvm.MethodName)) ∈ mj_tbl := mj_w 1450 (by decide +kernel) (by decide +kernel)
theorem ty_X12_add : mj_YV 12 yX12_add cX12_add 8 (some .int) 6 := ⟨⟨tw1398, tw11, by decide +kernel, by decide +kernel, by decide +kernel⟩, tw1397, mj_w 6 (by decide +kernel) (by decide +kernel), _, rfl, rfl⟩
theorem tw1392 : (Jvm.Cond.code ({ cls := "LeaseLandModel", name := "areFloors", desc := "(I)Z" } : Jvm.MethodName) prog_14_method_8_code (1 : Nat) (Option.some Jvm.ClassFile.FieldType.boolean)) ∈ mj_tbl := mj_w 1445 (by decide +kernel) (by decide +kernel)
theorem tw1391 : (Jvm.Cond.static ({ cls := "LeaseLandModel", name := "areFloors", desc := "(I)Z" } : Jvm.MethodName)) ∈ mj_tbl := mj_w 1444 (by decide +kernel) (by decide +kernel)
theorem ty_X12_areFloors : mj_YS yX12_areFloors cX12_areFloors 1 (some .boolean) 1 := ⟨⟨tw1392, tw11, by decide +kernel, by decide +kernel, by decide +kernel⟩, tw1391⟩
theorem tw1388 : (Jvm.Cond.code ({ cls := "LeaseLandModel", name := "isPerson", desc := "(I)Z" } : Jvm.MethodName) prog_14_method_7_code (1 : Nat) (Option.some Jvm.ClassFile.FieldType.boolean)) ∈ mj_tbl := mj_w 1441 (by decide +kernel) (by decide +kernel)
theorem tw1387 : (Jvm.Cond.static ({ cls := "LeaseLandModel", name := "isPerson", desc := "(I)Z" } : Jvm.MethodName)) ∈ mj_tbl := mj_w 1440 (by decide +kernel) (by decide +kernel)
theorem ty_X12_isPerson : mj_YS yX12_isPerson cX12_isPerson 1 (some .boolean) 1 := ⟨⟨tw1388, tw11, by decide +kernel, by decide +kernel, by decide +kernel⟩, tw1387⟩
def rm_X12_whole : Room := { frames := 2, cells := 0, slots := 0, locals := 45 }
theorem dX12_whole_0 : decode cX12_whole 0 = .ok (.iload_n 2, 1) := by decide +kernel
theorem dX12_whole_1 : decode cX12_whole 1 = .ok (.invokestatic 154, 3) := by decide +kernel
theorem dX12_whole_4 : decode cX12_whole 4 = .ok (.ifCond .ne 5, 3) := by decide +kernel
theorem dX12_whole_7 : decode cX12_whole 7 = .ok (.iconst (-1), 1) := by decide +kernel
theorem dX12_whole_8 : decode cX12_whole 8 = .ok (.ireturn, 1) := by decide +kernel
theorem dX12_whole_9 : decode cX12_whole 9 = .ok (.iload_n 1, 1) := by decide +kernel
theorem dX12_whole_10 : decode cX12_whole 10 = .ok (.invokestatic 157, 3) := by decide +kernel
theorem dX12_whole_13 : decode cX12_whole 13 = .ok (.ifCond .ne 6, 3) := by decide +kernel
theorem dX12_whole_16 : decode cX12_whole 16 = .ok (.bipush (-2), 2) := by decide +kernel
theorem dX12_whole_18 : decode cX12_whole 18 = .ok (.ireturn, 1) := by decide +kernel
theorem dX12_whole_19 : decode cX12_whole 19 = .ok (.aload_n 0, 1) := by decide +kernel
theorem dX12_whole_20 : decode cX12_whole 20 = .ok (.getfield 130, 3) := by decide +kernel
theorem dX12_whole_23 : decode cX12_whole 23 = .ok (.bipush 40, 2) := by decide +kernel
theorem dX12_whole_25 : decode cX12_whole 25 = .ok (.if_icmp .ne 6, 3) := by decide +kernel
theorem dX12_whole_28 : decode cX12_whole 28 = .ok (.bipush (-4), 2) := by decide +kernel
theorem dX12_whole_30 : decode cX12_whole 30 = .ok (.ireturn, 1) := by decide +kernel
theorem dX12_whole_31 : decode cX12_whole 31 = .ok (.iconst 0, 1) := by decide +kernel
theorem dX12_whole_32 : decode cX12_whole 32 = .ok (.istore_n 3, 1) := by decide +kernel
theorem dX12_whole_33 : decode cX12_whole 33 = .ok (.iload_n 3, 1) := by decide +kernel
theorem dX12_whole_34 : decode cX12_whole 34 = .ok (.aload_n 0, 1) := by decide +kernel
theorem dX12_whole_35 : decode cX12_whole 35 = .ok (.getfield 130, 3) := by decide +kernel
theorem dX12_whole_38 : decode cX12_whole 38 = .ok (.if_icmp .ge 32, 3) := by decide +kernel
theorem dX12_whole_41 : decode cX12_whole 41 = .ok (.aload_n 0, 1) := by decide +kernel
theorem dX12_whole_42 : decode cX12_whole 42 = .ok (.getfield 7, 3) := by decide +kernel
theorem dX12_whole_45 : decode cX12_whole 45 = .ok (.iload_n 3, 1) := by decide +kernel
theorem dX12_whole_46 : decode cX12_whole 46 = .ok (.iaload, 1) := by decide +kernel
theorem dX12_whole_47 : decode cX12_whole 47 = .ok (.ifCond .ge 17, 3) := by decide +kernel
theorem dX12_whole_50 : decode cX12_whole 50 = .ok (.aload_n 0, 1) := by decide +kernel
theorem dX12_whole_51 : decode cX12_whole 51 = .ok (.getfield 13, 3) := by decide +kernel
theorem dX12_whole_54 : decode cX12_whole 54 = .ok (.iload_n 3, 1) := by decide +kernel
theorem dX12_whole_55 : decode cX12_whole 55 = .ok (.iaload, 1) := by decide +kernel
theorem dX12_whole_56 : decode cX12_whole 56 = .ok (.iload_n 1, 1) := by decide +kernel
theorem dX12_whole_57 : decode cX12_whole 57 = .ok (.iand, 1) := by decide +kernel
theorem dX12_whole_58 : decode cX12_whole 58 = .ok (.ifCond .eq 6, 3) := by decide +kernel
theorem dX12_whole_61 : decode cX12_whole 61 = .ok (.bipush (-5), 2) := by decide +kernel
theorem dX12_whole_63 : decode cX12_whole 63 = .ok (.ireturn, 1) := by decide +kernel
theorem dX12_whole_64 : decode cX12_whole 64 = .ok (.iinc 3 1, 3) := by decide +kernel
theorem dX12_whole_67 : decode cX12_whole 67 = .ok (.goto (-34), 3) := by decide +kernel
theorem dX12_whole_70 : decode cX12_whole 70 = .ok (.aload_n 0, 1) := by decide +kernel
theorem dX12_whole_71 : decode cX12_whole 71 = .ok (.iconst (-1), 1) := by decide +kernel
theorem dX12_whole_72 : decode cX12_whole 72 = .ok (.iload_n 1, 1) := by decide +kernel
theorem dX12_whole_73 : decode cX12_whole 73 = .ok (.iconst 0, 1) := by decide +kernel
theorem dX12_whole_74 : decode cX12_whole 74 = .ok (.ldc 160, 2) := by decide +kernel
theorem dX12_whole_76 : decode cX12_whole 76 = .ok (.iload_n 2, 1) := by decide +kernel
theorem dX12_whole_77 : decode cX12_whole 77 = .ok (.aload_n 0, 1) := by decide +kernel
theorem dX12_whole_78 : decode cX12_whole 78 = .ok (.getfield 151, 3) := by decide +kernel
theorem dX12_whole_81 : decode cX12_whole 81 = .ok (.invokevirtual 161, 3) := by decide +kernel
theorem dX12_whole_84 : decode cX12_whole 84 = .ok (.ireturn, 1) := by decide +kernel
def vb_X12_whole_33 (post : Int32 → mj_M → Prop) : Nat → Nat → Int32 → Int32 → Int32 → mj_M → Prop
  | 0 => fun _ _ _ _ _ => False
  | f + 1 => fun l0 l1 l2 l3 M => mj_tag M l0 = 13 ∧ if (mj_i M l0 13) ≤ l3 then (vc_X12_add l0 ((-1)) l1 0 73000 l2 (mj_i M l0 0) M (fun r3 M4 => post r3 M4)) else (mj_tag M (mj_r M l0 1) = 101 ∧ vp_in l3 (mj_len M (mj_r M l0 1)) ∧ if 0 ≤ (mj_i M (mj_r M l0 1) (l3 : Int32).toNatClampNeg) then (vb_X12_whole_33 post f l0 l1 l2 (l3 + 1) M) else (mj_tag M (mj_r M l0 2) = 101 ∧ vp_in l3 (mj_len M (mj_r M l0 2)) ∧ if ((mj_i M (mj_r M l0 2) (l3 : Int32).toNatClampNeg) &&& l1) = 0 then (vb_X12_whole_33 post f l0 l1 l2 (l3 + 1) M) else (post ((-5)) M)))
def vc_X12_whole (l0 : Nat) (l1 : Int32) (l2 : Int32) (M : mj_M) (post : Int32 → mj_M → Prop) : Prop := vc_X12_isPerson l2 M (fun r11 M12 => if r11 = true then (vc_X12_areFloors l1 M12 (fun r14 M15 => if r14 = true then (mj_tag M15 l0 = 13 ∧ if (mj_i M15 l0 13) = 40 then (post ((-4)) M15) else (∃ fe, vb_X12_whole_33 post fe l0 l1 l2 0 M15)) else (post ((-2)) M15))) else (post ((-1)) M12))
set_option maxHeartbeats 4000000 in
set_option maxRecDepth 100000 in
theorem xb_X12_whole_33 {g : mj_G} {post : Int32 → mj_M → Prop} (hC : mj_C g yX12_whole cX12_whole 4 (some .int) rm_X12_whole) (hE : mj_E g mj_jI post 0 0) : ∀ (f : Nat) (l0 : Nat) (l1 : Int32) (l2 : Int32) (l3 : Int32) (M : mj_M), vb_X12_whole_33 post f l0 l1 l2 l3 M → mj_X g 33 [(0, vR l0), (1, vI l1), (2, vI l2), (3, vI l3)] [] M 0 0 := by
  intro f
  induction f with
  | zero => exact fun _ _ _ _ _ h => absurd h (fun z => z)
  | succ f ih =>
    intro l0 l1 l2 l3 M h
    simp only [vb_X12_whole_33] at h
    refine mx_iload_n (j := 3) hC dX12_whole_33 rfl rfl ?_
    refine mx_aload_n (j := 0) hC dX12_whole_34 rfl rfl ?_
    obtain ⟨ht1, h⟩ := h
    refine mx_get (v := vI (mj_i M l0 13)) hC tf_X12_130 ht1 rfl dX12_whole_35 ?_
    refine mx_icmpge (tgt := 70) hC dX12_whole_38 (by decide) (fun hc2 => ?_) (fun hc2 => ?_)
    · replace h := mj_yy hc2 h
      refine mx_aload_n (j := 0) hC dX12_whole_70 rfl rfl ?_
      refine mx_iconst (v := (-1)) hC dX12_whole_71 (by decide) ?_
      refine mx_iload_n (j := 1) hC dX12_whole_72 rfl rfl ?_
      refine mx_iconst (v := 0) hC dX12_whole_73 (by decide) ?_
      refine mx_ldc (v := 73000) hC dX12_whole_74 tw1394 ?_
      refine mx_iload_n (j := 2) hC dX12_whole_76 rfl rfl ?_
      refine mx_aload_n (j := 0) hC dX12_whole_77 rfl rfl ?_
      refine mx_get (v := vI (mj_i M l0 0)) hC tf_X12_151 ht1 rfl dX12_whole_78 ?_
      refine mx_callV (inj := mj_jI) (As := [vI ((-1)), vI l1, vI 0, vI 73000, vI l2, vI (mj_i M l0 0)]) (st := []) hC (ct_X12_add l0 ((-1)) l1 0 73000 l2 (mj_i M l0 0) M _ h) ty_X12_add tw1395 ht1 rfl (Nat.le_of_ble_eq_true rfl) ⟨rfl, rfl, ⟨by decide, by decide⟩, by decide, by decide⟩ dX12_whole_81 (fun r3 M4 h => ?_)
      show mj_X g 84 [(0, vR l0), (1, vI l1), (2, vI l2), (3, vI l3)] [vI r3] M4 0 0
      exact mx_iret hC hE rfl dX12_whole_84 h
    · replace h := mj_nn hc2 h
      refine mx_aload_n (j := 0) hC dX12_whole_41 rfl rfl ?_
      refine mx_get (v := vR (mj_r M l0 1)) hC tf_X12_7 ht1 rfl dX12_whole_42 ?_
      refine mx_iload_n (j := 3) hC dX12_whole_45 rfl rfl ?_
      obtain ⟨ht5, h⟩ := h
      obtain ⟨hi6, h⟩ := h
      refine mx_iaload hC ht5 hi6 dX12_whole_46 ?_
      refine mx_ifge (tgt := 64) hC dX12_whole_47 (by decide) (fun hc7 => ?_) (fun hc7 => ?_)
      · replace h := mj_yy hc7 h
        refine mx_iinc (j := 3) (v := l3 + 1) (L' := [(3, vI (l3 + 1)), (0, vR l0), (1, vI l1), (2, vI l2)]) hC dX12_whole_64 rfl rfl (by decide) rfl ?_
        refine mx_goto (tgt := 33) hC dX12_whole_67 (by decide) ?_
        refine mx_sub (L' := [(0, vR l0), (1, vI l1), (2, vI l2), (3, vI (l3 + 1))]) [1, 2, 3, 0] rfl ?_
        exact show mj_X g 33 [(0, vR l0), (1, vI l1), (2, vI l2), (3, vI (l3 + 1))] [] M 0 0 from (ih l0 l1 l2 (l3 + 1) M h)
      · replace h := mj_nn hc7 h
        refine mx_aload_n (j := 0) hC dX12_whole_50 rfl rfl ?_
        refine mx_get (v := vR (mj_r M l0 2)) hC tf_X12_13 ht1 rfl dX12_whole_51 ?_
        refine mx_iload_n (j := 3) hC dX12_whole_54 rfl rfl ?_
        obtain ⟨ht8, h⟩ := h
        obtain ⟨hi9, h⟩ := h
        refine mx_iaload hC ht8 hi9 dX12_whole_55 ?_
        refine mx_iload_n (j := 1) hC dX12_whole_56 rfl rfl ?_
        refine mx_iand hC dX12_whole_57 ?_
        refine mx_ifeq (tgt := 64) hC dX12_whole_58 (by decide) (fun hc10 => ?_) (fun hc10 => ?_)
        · replace h := mj_yy hc10 h
          refine mx_iinc (j := 3) (v := l3 + 1) (L' := [(3, vI (l3 + 1)), (0, vR l0), (1, vI l1), (2, vI l2)]) hC dX12_whole_64 rfl rfl (by decide) rfl ?_
          refine mx_goto (tgt := 33) hC dX12_whole_67 (by decide) ?_
          refine mx_sub (L' := [(0, vR l0), (1, vI l1), (2, vI l2), (3, vI (l3 + 1))]) [1, 2, 3, 0] rfl ?_
          exact show mj_X g 33 [(0, vR l0), (1, vI l1), (2, vI l2), (3, vI (l3 + 1))] [] M 0 0 from (ih l0 l1 l2 (l3 + 1) M h)
        · replace h := mj_nn hc10 h
          refine mx_bipush (v := (-5)) hC dX12_whole_61 (by decide) ?_
          exact mx_iret hC hE rfl dX12_whole_63 h
set_option maxHeartbeats 4000000 in
set_option maxRecDepth 100000 in
theorem ct_X12_whole {l : Launch} {base : Nat} {D : va_G} {A : ClassId × ClassId × ClassId} (l0 : Nat) (l1 : Int32) (l2 : Int32) (M : mj_M) (post : Int32 → mj_M → Prop) (h : vc_X12_whole l0 l1 l2 M post) : mj_Met l base D A mj_jI yX12_whole cX12_whole 4 (some .int) rm_X12_whole 0 0 [vR l0, vI l1, vI l2] M post := by
  refine mj_entry (by decide +kernel) (Nat.le_of_ble_eq_true rfl) (fun g hC hE h1 h2 h3 h4 => ?_)
  show mj_X g 0 [(0, vR l0), (1, vI l1), (2, vI l2)] [] M 0 0
  simp only [vc_X12_whole] at h
  refine mx_iload_n (j := 2) hC dX12_whole_0 rfl rfl ?_
  refine mx_callS (inj := mj_jB) (As := [vI l2]) (st := []) hC (ct_X12_isPerson l2 M _ h) ty_X12_isPerson tw1386 rfl (Nat.le_of_ble_eq_true rfl) ⟨rfl, rfl, ⟨by decide, by decide⟩, by decide, by decide⟩ dX12_whole_1 (fun r11 M12 h => ?_)
  show mj_X g 4 [(0, vR l0), (1, vI l1), (2, vI l2)] [vI (mj_b r11)] M12 0 0
  refine mx_ifneB (tgt := 9) hC dX12_whole_4 (by decide) (fun hc13 => ?_) (fun hc13 => ?_)
  · replace h := mj_yy hc13 h
    refine mx_iload_n (j := 1) hC dX12_whole_9 rfl rfl ?_
    refine mx_callS (inj := mj_jB) (As := [vI l1]) (st := []) hC (ct_X12_areFloors l1 M12 _ h) ty_X12_areFloors tw1390 rfl (Nat.le_of_ble_eq_true rfl) ⟨rfl, rfl, ⟨by decide, by decide⟩, by decide, by decide⟩ dX12_whole_10 (fun r14 M15 h => ?_)
    show mj_X g 13 [(0, vR l0), (1, vI l1), (2, vI l2)] [vI (mj_b r14)] M15 0 0
    refine mx_ifneB (tgt := 19) hC dX12_whole_13 (by decide) (fun hc16 => ?_) (fun hc16 => ?_)
    · replace h := mj_yy hc16 h
      refine mx_aload_n (j := 0) hC dX12_whole_19 rfl rfl ?_
      obtain ⟨ht17, h⟩ := h
      refine mx_get (v := vI (mj_i M15 l0 13)) hC tf_X12_130 ht17 rfl dX12_whole_20 ?_
      refine mx_bipush (v := 40) hC dX12_whole_23 (by decide) ?_
      refine mx_icmpne (tgt := 31) hC dX12_whole_25 (by decide) (fun hc18 => ?_) (fun hc18 => ?_)
      · replace h := mj_nn hc18 h
        refine mx_iconst (v := 0) hC dX12_whole_31 (by decide) ?_
        refine mx_istore_n (L' := [(3, vI 0), (0, vR l0), (1, vI l1), (2, vI l2)]) hC dX12_whole_32 rfl (by decide) rfl ?_
        refine mx_sub (L' := [(0, vR l0), (1, vI l1), (2, vI l2), (3, vI 0)]) [1, 2, 3, 0] rfl ?_
        obtain ⟨fe, h⟩ := h
        exact show mj_X g 33 [(0, vR l0), (1, vI l1), (2, vI l2), (3, vI 0)] [] M15 0 0 from (xb_X12_whole_33 hC hE fe l0 l1 l2 0 M15 h)
      · replace h := mj_yy hc18 h
        refine mx_bipush (v := (-4)) hC dX12_whole_28 (by decide) ?_
        exact mx_iret hC hE rfl dX12_whole_30 h
    · replace h := mj_nn hc16 h
      refine mx_bipush (v := (-2)) hC dX12_whole_16 (by decide) ?_
      exact mx_iret hC hE rfl dX12_whole_18 h
  · replace h := mj_nn hc13 h
    refine mx_iconst (v := (-1)) hC dX12_whole_7 (by decide) ?_
    exact mx_iret hC hE rfl dX12_whole_8 h
theorem tw1426 : (Jvm.Cond.methodLink "LeaseLandModel" (165 : Nat) ({ cls := "LeaseLandModel", name := "greater", desc := "(II)I" } : Jvm.MethodName)) ∈ mj_tbl := mj_w 1479 (by decide +kernel) (by decide +kernel)
theorem tw1429 : (Jvm.Cond.methodLink "LeaseLandModel" (169 : Nat) ({ cls := "LeaseLandModel", name := "lesser", desc := "(II)I" } : Jvm.MethodName)) ∈ mj_tbl := mj_w 1482 (by decide +kernel) (by decide +kernel)
theorem tw1428 : (Jvm.Cond.code ({ cls := "LeaseLandModel", name := "greater", desc := "(II)I" } : Jvm.MethodName) prog_14_method_13_code (2 : Nat) (Option.some Jvm.ClassFile.FieldType.int)) ∈ mj_tbl := mj_w 1481 (by decide +kernel) (by decide +kernel)
theorem tw1427 : (Jvm.Cond.static ({ cls := "LeaseLandModel", name := "greater", desc := "(II)I" } : Jvm.MethodName)) ∈ mj_tbl := mj_w 1480 (by decide +kernel) (by decide +kernel)
theorem ty_X12_greater : mj_YS yX12_greater cX12_greater 2 (some .int) 2 := ⟨⟨tw1428, tw11, by decide +kernel, by decide +kernel, by decide +kernel⟩, tw1427⟩
theorem tw1431 : (Jvm.Cond.code ({ cls := "LeaseLandModel", name := "lesser", desc := "(II)I" } : Jvm.MethodName) prog_14_method_12_code (2 : Nat) (Option.some Jvm.ClassFile.FieldType.int)) ∈ mj_tbl := mj_w 1484 (by decide +kernel) (by decide +kernel)
theorem tw1430 : (Jvm.Cond.static ({ cls := "LeaseLandModel", name := "lesser", desc := "(II)I" } : Jvm.MethodName)) ∈ mj_tbl := mj_w 1483 (by decide +kernel) (by decide +kernel)
theorem ty_X12_lesser : mj_YS yX12_lesser cX12_lesser 2 (some .int) 2 := ⟨⟨tw1431, tw11, by decide +kernel, by decide +kernel, by decide +kernel⟩, tw1430⟩
def rm_X12_doLap : Room := { frames := 1, cells := 0, slots := 0, locals := 21 }
theorem dX12_doLap_0 : decode cX12_doLap 0 = .ok (.iload_n 0, 1) := by decide +kernel
theorem dX12_doLap_1 : decode cX12_doLap 1 = .ok (.iload_n 2, 1) := by decide +kernel
theorem dX12_doLap_2 : decode cX12_doLap 2 = .ok (.invokestatic 165, 3) := by decide +kernel
theorem dX12_doLap_5 : decode cX12_doLap 5 = .ok (.iload_n 1, 1) := by decide +kernel
theorem dX12_doLap_6 : decode cX12_doLap 6 = .ok (.iload_n 3, 1) := by decide +kernel
theorem dX12_doLap_7 : decode cX12_doLap 7 = .ok (.invokestatic 169, 3) := by decide +kernel
theorem dX12_doLap_10 : decode cX12_doLap 10 = .ok (.if_icmp .ge 7, 3) := by decide +kernel
theorem dX12_doLap_13 : decode cX12_doLap 13 = .ok (.iconst 1, 1) := by decide +kernel
theorem dX12_doLap_14 : decode cX12_doLap 14 = .ok (.goto 4, 3) := by decide +kernel
theorem dX12_doLap_17 : decode cX12_doLap 17 = .ok (.iconst 0, 1) := by decide +kernel
theorem dX12_doLap_18 : decode cX12_doLap 18 = .ok (.ireturn, 1) := by decide +kernel
def vc_X12_doLap (l0 : Int32) (l1 : Int32) (l2 : Int32) (l3 : Int32) (M : mj_M) (post : Bool → mj_M → Prop) : Prop := vc_X12_greater l0 l2 M (fun r1 M2 => vc_X12_lesser l1 l3 M2 (fun r3 M4 => if r3 ≤ r1 then (post false M4) else (post true M4)))
set_option maxHeartbeats 4000000 in
set_option maxRecDepth 100000 in
theorem ct_X12_doLap {l : Launch} {base : Nat} {D : va_G} {A : ClassId × ClassId × ClassId} (l0 : Int32) (l1 : Int32) (l2 : Int32) (l3 : Int32) (M : mj_M) (post : Bool → mj_M → Prop) (h : vc_X12_doLap l0 l1 l2 l3 M post) : mj_Met l base D A mj_jB yX12_doLap cX12_doLap 4 (some .boolean) rm_X12_doLap 0 0 [vI l0, vI l1, vI l2, vI l3] M post := by
  refine mj_entry (by decide +kernel) (Nat.le_of_ble_eq_true rfl) (fun g hC hE h1 h2 h3 h4 => ?_)
  show mj_X g 0 [(0, vI l0), (1, vI l1), (2, vI l2), (3, vI l3)] [] M 0 0
  simp only [vc_X12_doLap] at h
  refine mx_iload_n (j := 0) hC dX12_doLap_0 rfl rfl ?_
  refine mx_iload_n (j := 2) hC dX12_doLap_1 rfl rfl ?_
  refine mx_callS (inj := mj_jI) (As := [vI l0, vI l2]) (st := []) hC (ct_X12_greater l0 l2 M _ h) ty_X12_greater tw1426 rfl (Nat.le_of_ble_eq_true rfl) ⟨rfl, rfl, ⟨by decide, by decide⟩, by decide, by decide⟩ dX12_doLap_2 (fun r1 M2 h => ?_)
  show mj_X g 5 [(0, vI l0), (1, vI l1), (2, vI l2), (3, vI l3)] [vI r1] M2 0 0
  refine mx_iload_n (j := 1) hC dX12_doLap_5 rfl rfl ?_
  refine mx_iload_n (j := 3) hC dX12_doLap_6 rfl rfl ?_
  refine mx_callS (inj := mj_jI) (As := [vI l1, vI l3]) (st := [vI r1]) hC (ct_X12_lesser l1 l3 M2 _ h) ty_X12_lesser tw1429 rfl (Nat.le_of_ble_eq_true rfl) ⟨rfl, rfl, ⟨by decide, by decide⟩, by decide, by decide⟩ dX12_doLap_7 (fun r3 M4 h => ?_)
  show mj_X g 10 [(0, vI l0), (1, vI l1), (2, vI l2), (3, vI l3)] [vI r3, vI r1] M4 0 0
  refine mx_icmpge (tgt := 17) hC dX12_doLap_10 (by decide) (fun hc5 => ?_) (fun hc5 => ?_)
  · replace h := mj_yy hc5 h
    refine mx_iconst (v := 0) hC dX12_doLap_17 (by decide) ?_
    exact mx_zret (b := false) hC hE rfl dX12_doLap_18 h
  · replace h := mj_nn hc5 h
    refine mx_iconst (v := 1) hC dX12_doLap_13 (by decide) ?_
    refine mx_goto (tgt := 18) hC dX12_doLap_14 (by decide) ?_
    exact mx_zret (b := true) hC hE rfl dX12_doLap_18 h
